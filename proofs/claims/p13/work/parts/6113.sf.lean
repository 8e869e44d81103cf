theorem d_cX5_enterBehind_0 : decode cX5_enterBehind 0 = .ok (.aload_n 1, 1) := by decide +kernel
theorem d_cX5_enterBehind_1 : decode cX5_enterBehind 1 = .ok (.getfield 88, 3) := by decide +kernel
theorem d_cX5_enterBehind_4 : decode cX5_enterBehind 4 = .ok (.iload_n 2, 1) := by decide +kernel
theorem d_cX5_enterBehind_5 : decode cX5_enterBehind 5 = .ok (.iaload, 1) := by decide +kernel
theorem d_cX5_enterBehind_6 : decode cX5_enterBehind 6 = .ok (.istore_n 3, 1) := by decide +kernel
theorem d_cX5_enterBehind_7 : decode cX5_enterBehind 7 = .ok (.aload_n 1, 1) := by decide +kernel
theorem d_cX5_enterBehind_8 : decode cX5_enterBehind 8 = .ok (.getfield 91, 3) := by decide +kernel
theorem d_cX5_enterBehind_11 : decode cX5_enterBehind 11 = .ok (.iload_n 2, 1) := by decide +kernel
theorem d_cX5_enterBehind_12 : decode cX5_enterBehind 12 = .ok (.iaload, 1) := by decide +kernel
theorem d_cX5_enterBehind_13 : decode cX5_enterBehind 13 = .ok (.istore 4, 2) := by decide +kernel
theorem d_cX5_enterBehind_15 : decode cX5_enterBehind 15 = .ok (.iconst 0, 1) := by decide +kernel
theorem d_cX5_enterBehind_16 : decode cX5_enterBehind 16 = .ok (.istore 5, 2) := by decide +kernel
theorem d_cX5_enterBehind_18 : decode cX5_enterBehind 18 = .ok (.iload 5, 2) := by decide +kernel
theorem d_cX5_enterBehind_20 : decode cX5_enterBehind 20 = .ok (.aload_n 0, 1) := by decide +kernel
theorem d_cX5_enterBehind_21 : decode cX5_enterBehind 21 = .ok (.getfield 37, 3) := by decide +kernel
theorem w_2_29 : (Jvm.Cond.fieldLink "SpillForge$Live" (37 : Nat) "SpillForge$Live" "words" "I") ∈ gw := gw_2 29 rfl rfl
theorem d_cX5_enterBehind_24 : decode cX5_enterBehind 24 = .ok (.if_icmp .ge 85, 3) := by decide +kernel
theorem d_cX5_enterBehind_109 : decode cX5_enterBehind 109 = .ok (.return_, 1) := by decide +kernel
theorem d_cX5_enterBehind_27 : decode cX5_enterBehind 27 = .ok (.iload_n 3, 1) := by decide +kernel
theorem d_cX5_enterBehind_28 : decode cX5_enterBehind 28 = .ok (.ifCond .lt 28, 3) := by decide +kernel
theorem d_cX5_enterBehind_56 : decode cX5_enterBehind 56 = .ok (.lconst 0, 1) := by decide +kernel
theorem d_cX5_enterBehind_57 : decode cX5_enterBehind 57 = .ok (.lstore 6, 2) := by decide +kernel
theorem d_cX5_enterBehind_59 : decode cX5_enterBehind 59 = .ok (.aload_n 0, 1) := by decide +kernel
theorem d_cX5_enterBehind_60 : decode cX5_enterBehind 60 = .ok (.getfield 21, 3) := by decide +kernel
theorem w_2_25 : (Jvm.Cond.fieldLink "SpillForge$Live" (21 : Nat) "SpillForge$Live" "now" "[J") ∈ gw := gw_2 25 rfl rfl
theorem d_cX5_enterBehind_63 : decode cX5_enterBehind 63 = .ok (.iload 5, 2) := by decide +kernel
theorem d_cX5_enterBehind_65 : decode cX5_enterBehind 65 = .ok (.iload 4, 2) := by decide +kernel
theorem d_cX5_enterBehind_67 : decode cX5_enterBehind 67 = .ok (.ifCond .lt 33, 3) := by decide +kernel
theorem d_cX5_enterBehind_100 : decode cX5_enterBehind 100 = .ok (.lload 6, 2) := by decide +kernel
theorem d_cX5_enterBehind_102 : decode cX5_enterBehind 102 = .ok (.lastore, 1) := by decide +kernel
theorem d_cX5_enterBehind_103 : decode cX5_enterBehind 103 = .ok (.iinc 5 1, 3) := by decide +kernel
theorem d_cX5_enterBehind_106 : decode cX5_enterBehind 106 = .ok (.goto (-88), 3) := by decide +kernel
theorem d_cX5_enterBehind_70 : decode cX5_enterBehind 70 = .ok (.iload 4, 2) := by decide +kernel
theorem d_cX5_enterBehind_72 : decode cX5_enterBehind 72 = .ok (.aload_n 1, 1) := by decide +kernel
theorem d_cX5_enterBehind_73 : decode cX5_enterBehind 73 = .ok (.getfield 44, 3) := by decide +kernel
theorem d_cX5_enterBehind_76 : decode cX5_enterBehind 76 = .ok (.if_icmp .ge 24, 3) := by decide +kernel
theorem d_cX5_enterBehind_79 : decode cX5_enterBehind 79 = .ok (.lload 6, 2) := by decide +kernel
theorem d_cX5_enterBehind_81 : decode cX5_enterBehind 81 = .ok (.aload_n 0, 1) := by decide +kernel
theorem d_cX5_enterBehind_82 : decode cX5_enterBehind 82 = .ok (.getfield 9, 3) := by decide +kernel
theorem w_2_22 : (Jvm.Cond.fieldLink "SpillForge$Live" (9 : Nat) "SpillForge$Live" "in" "[J") ∈ gw := gw_2 22 rfl rfl
theorem d_cX5_enterBehind_85 : decode cX5_enterBehind 85 = .ok (.iload 4, 2) := by decide +kernel
theorem d_cX5_enterBehind_87 : decode cX5_enterBehind 87 = .ok (.aload_n 0, 1) := by decide +kernel
theorem d_cX5_enterBehind_88 : decode cX5_enterBehind 88 = .ok (.getfield 37, 3) := by decide +kernel
theorem d_cX5_enterBehind_91 : decode cX5_enterBehind 91 = .ok (.imul, 1) := by decide +kernel
theorem d_cX5_enterBehind_92 : decode cX5_enterBehind 92 = .ok (.iload 5, 2) := by decide +kernel
theorem d_cX5_enterBehind_94 : decode cX5_enterBehind 94 = .ok (.iadd, 1) := by decide +kernel
theorem d_cX5_enterBehind_95 : decode cX5_enterBehind 95 = .ok (.laload, 1) := by decide +kernel
theorem d_cX5_enterBehind_96 : decode cX5_enterBehind 96 = .ok (.lor, 1) := by decide +kernel
theorem d_cX5_enterBehind_97 : decode cX5_enterBehind 97 = .ok (.goto 5, 3) := by decide +kernel
theorem d_cX5_enterBehind_31 : decode cX5_enterBehind 31 = .ok (.iload_n 3, 1) := by decide +kernel
theorem d_cX5_enterBehind_32 : decode cX5_enterBehind 32 = .ok (.aload_n 1, 1) := by decide +kernel
theorem d_cX5_enterBehind_33 : decode cX5_enterBehind 33 = .ok (.getfield 44, 3) := by decide +kernel
theorem d_cX5_enterBehind_36 : decode cX5_enterBehind 36 = .ok (.if_icmp .ge 20, 3) := by decide +kernel
theorem d_cX5_enterBehind_39 : decode cX5_enterBehind 39 = .ok (.aload_n 0, 1) := by decide +kernel
theorem d_cX5_enterBehind_40 : decode cX5_enterBehind 40 = .ok (.getfield 9, 3) := by decide +kernel
theorem d_cX5_enterBehind_43 : decode cX5_enterBehind 43 = .ok (.iload_n 3, 1) := by decide +kernel
theorem d_cX5_enterBehind_44 : decode cX5_enterBehind 44 = .ok (.aload_n 0, 1) := by decide +kernel
theorem d_cX5_enterBehind_45 : decode cX5_enterBehind 45 = .ok (.getfield 37, 3) := by decide +kernel
theorem d_cX5_enterBehind_48 : decode cX5_enterBehind 48 = .ok (.imul, 1) := by decide +kernel
theorem d_cX5_enterBehind_49 : decode cX5_enterBehind 49 = .ok (.iload 5, 2) := by decide +kernel
theorem d_cX5_enterBehind_51 : decode cX5_enterBehind 51 = .ok (.iadd, 1) := by decide +kernel
theorem d_cX5_enterBehind_52 : decode cX5_enterBehind 52 = .ok (.laload, 1) := by decide +kernel
theorem d_cX5_enterBehind_53 : decode cX5_enterBehind 53 = .ok (.goto 4, 3) := by decide +kernel
theorem d_cX5_sweep_0 : decode cX5_sweep 0 = .ok (.iconst 0, 1) := by decide +kernel
theorem d_cX5_sweep_1 : decode cX5_sweep 1 = .ok (.istore_n 2, 1) := by decide +kernel
theorem d_cX5_sweep_2 : decode cX5_sweep 2 = .ok (.aload_n 1, 1) := by decide +kernel
theorem d_cX5_sweep_3 : decode cX5_sweep 3 = .ok (.getfield 44, 3) := by decide +kernel
theorem d_cX5_sweep_6 : decode cX5_sweep 6 = .ok (.iconst 1, 1) := by decide +kernel
theorem d_cX5_sweep_7 : decode cX5_sweep 7 = .ok (.isub, 1) := by decide +kernel
theorem d_cX5_sweep_8 : decode cX5_sweep 8 = .ok (.istore_n 3, 1) := by decide +kernel
theorem d_cX5_sweep_9 : decode cX5_sweep 9 = .ok (.iload_n 3, 1) := by decide +kernel
theorem d_cX5_sweep_10 : decode cX5_sweep 10 = .ok (.ifCond .lt 105, 3) := by decide +kernel
theorem d_cX5_sweep_115 : decode cX5_sweep 115 = .ok (.iload_n 2, 1) := by decide +kernel
theorem d_cX5_sweep_116 : decode cX5_sweep 116 = .ok (.ireturn, 1) := by decide +kernel
theorem d_cX5_sweep_13 : decode cX5_sweep 13 = .ok (.aload_n 0, 1) := by decide +kernel
theorem d_cX5_sweep_14 : decode cX5_sweep 14 = .ok (.aload_n 1, 1) := by decide +kernel
theorem d_cX5_sweep_15 : decode cX5_sweep 15 = .ok (.iload_n 3, 1) := by decide +kernel
theorem d_cX5_sweep_16 : decode cX5_sweep 16 = .ok (.invokevirtual 85, 3) := by decide +kernel
theorem w_4_64 : (Jvm.Cond.methodLink "SpillForge$Live" (85 : Nat) ({ cls := "SpillForge$Live", name := "enterBehind", desc := "(LSpillForge$Code;I)V" } : Jvm.MethodName)) ∈ gw := gw_4 64 rfl rfl
theorem w_1_10 : (Jvm.Cond.initialized "SpillForge$Live") ∈ gw := gw_1 10 rfl rfl
theorem w_4_67 : (Jvm.Cond.code ({ cls := "SpillForge$Live", name := "enterBehind", desc := "(LSpillForge$Code;I)V" } : Jvm.MethodName) prog_7_method_7_code (8 : Nat) (Option.none : Option Jvm.ClassFile.FieldType)) ∈ gw := gw_4 67 rfl rfl
theorem w_4_65 : (Jvm.Cond.instanceMethod ({ cls := "SpillForge$Live", name := "enterBehind", desc := "(LSpillForge$Code;I)V" } : Jvm.MethodName)) ∈ gw := gw_4 65 rfl rfl
theorem w_4_66 : (Jvm.Cond.selects "SpillForge$Live" ({ cls := "SpillForge$Live", name := "enterBehind", desc := "(LSpillForge$Code;I)V" } : Jvm.MethodName) ({ cls := "SpillForge$Live", name := "enterBehind", desc := "(LSpillForge$Code;I)V" } : Jvm.MethodName)) ∈ gw := gw_4 66 rfl rfl
theorem d_cX5_sweep_19 : decode cX5_sweep 19 = .ok (.iconst 0, 1) := by decide +kernel
theorem d_cX5_sweep_20 : decode cX5_sweep 20 = .ok (.istore 4, 2) := by decide +kernel
theorem d_cX5_sweep_22 : decode cX5_sweep 22 = .ok (.iload 4, 2) := by decide +kernel
theorem d_cX5_sweep_24 : decode cX5_sweep 24 = .ok (.aload_n 0, 1) := by decide +kernel
theorem d_cX5_sweep_25 : decode cX5_sweep 25 = .ok (.getfield 37, 3) := by decide +kernel
theorem d_cX5_sweep_28 : decode cX5_sweep 28 = .ok (.if_icmp .ge 81, 3) := by decide +kernel
theorem d_cX5_sweep_109 : decode cX5_sweep 109 = .ok (.iinc 3 (-1), 3) := by decide +kernel
theorem d_cX5_sweep_112 : decode cX5_sweep 112 = .ok (.goto (-103), 3) := by decide +kernel
theorem d_cX5_sweep_31 : decode cX5_sweep 31 = .ok (.iload_n 3, 1) := by decide +kernel
theorem d_cX5_sweep_32 : decode cX5_sweep 32 = .ok (.aload_n 0, 1) := by decide +kernel
theorem d_cX5_sweep_33 : decode cX5_sweep 33 = .ok (.getfield 37, 3) := by decide +kernel
theorem d_cX5_sweep_36 : decode cX5_sweep 36 = .ok (.imul, 1) := by decide +kernel
theorem d_cX5_sweep_37 : decode cX5_sweep 37 = .ok (.iload 4, 2) := by decide +kernel
theorem d_cX5_sweep_39 : decode cX5_sweep 39 = .ok (.iadd, 1) := by decide +kernel
theorem d_cX5_sweep_40 : decode cX5_sweep 40 = .ok (.istore 5, 2) := by decide +kernel
theorem d_cX5_sweep_42 : decode cX5_sweep 42 = .ok (.aload_n 0, 1) := by decide +kernel
theorem d_cX5_sweep_43 : decode cX5_sweep 43 = .ok (.getfield 15, 3) := by decide +kernel
theorem w_2_23 : (Jvm.Cond.fieldLink "SpillForge$Live" (15 : Nat) "SpillForge$Live" "used" "[J") ∈ gw := gw_2 23 rfl rfl
theorem d_cX5_sweep_46 : decode cX5_sweep 46 = .ok (.iload 5, 2) := by decide +kernel
theorem d_cX5_sweep_48 : decode cX5_sweep 48 = .ok (.laload, 1) := by decide +kernel
theorem d_cX5_sweep_49 : decode cX5_sweep 49 = .ok (.aload_n 0, 1) := by decide +kernel
theorem d_cX5_sweep_50 : decode cX5_sweep 50 = .ok (.getfield 21, 3) := by decide +kernel
theorem d_cX5_sweep_53 : decode cX5_sweep 53 = .ok (.iload 4, 2) := by decide +kernel
theorem d_cX5_sweep_55 : decode cX5_sweep 55 = .ok (.laload, 1) := by decide +kernel
theorem d_cX5_sweep_56 : decode cX5_sweep 56 = .ok (.aload_n 0, 1) := by decide +kernel
theorem d_cX5_sweep_57 : decode cX5_sweep 57 = .ok (.getfield 18, 3) := by decide +kernel
theorem w_2_24 : (Jvm.Cond.fieldLink "SpillForge$Live" (18 : Nat) "SpillForge$Live" "set" "[J") ∈ gw := gw_2 24 rfl rfl
theorem d_cX5_sweep_60 : decode cX5_sweep 60 = .ok (.iload 5, 2) := by decide +kernel
theorem d_cX5_sweep_62 : decode cX5_sweep 62 = .ok (.laload, 1) := by decide +kernel
theorem d_cX5_sweep_63 : decode cX5_sweep 63 = .ok (.ldc2_w 83, 3) := by decide +kernel
theorem w_4_47 : (Jvm.Cond.constantLong "SpillForge$Live" (83 : Nat) (-1 : Int64)) ∈ gw := gw_4 47 rfl rfl
theorem d_cX5_sweep_66 : decode cX5_sweep 66 = .ok (.lxor, 1) := by decide +kernel
theorem d_cX5_sweep_67 : decode cX5_sweep 67 = .ok (.land, 1) := by decide +kernel
theorem d_cX5_sweep_68 : decode cX5_sweep 68 = .ok (.lor, 1) := by decide +kernel
theorem d_cX5_sweep_69 : decode cX5_sweep 69 = .ok (.lstore 6, 2) := by decide +kernel
theorem d_cX5_sweep_71 : decode cX5_sweep 71 = .ok (.iload_n 2, 1) := by decide +kernel
theorem d_cX5_sweep_72 : decode cX5_sweep 72 = .ok (.ifCond .ne 16, 3) := by decide +kernel
theorem d_cX5_sweep_88 : decode cX5_sweep 88 = .ok (.iconst 1, 1) := by decide +kernel
theorem d_cX5_sweep_89 : decode cX5_sweep 89 = .ok (.goto 4, 3) := by decide +kernel
theorem d_cX5_sweep_93 : decode cX5_sweep 93 = .ok (.istore_n 2, 1) := by decide +kernel
theorem d_cX5_sweep_94 : decode cX5_sweep 94 = .ok (.aload_n 0, 1) := by decide +kernel
theorem d_cX5_sweep_95 : decode cX5_sweep 95 = .ok (.getfield 9, 3) := by decide +kernel
theorem d_cX5_sweep_98 : decode cX5_sweep 98 = .ok (.iload 5, 2) := by decide +kernel
theorem d_cX5_sweep_100 : decode cX5_sweep 100 = .ok (.lload 6, 2) := by decide +kernel
theorem d_cX5_sweep_102 : decode cX5_sweep 102 = .ok (.lastore, 1) := by decide +kernel
theorem d_cX5_sweep_103 : decode cX5_sweep 103 = .ok (.iinc 4 1, 3) := by decide +kernel
theorem d_cX5_sweep_106 : decode cX5_sweep 106 = .ok (.goto (-84), 3) := by decide +kernel
theorem d_cX5_sweep_75 : decode cX5_sweep 75 = .ok (.lload 6, 2) := by decide +kernel
theorem d_cX5_sweep_77 : decode cX5_sweep 77 = .ok (.aload_n 0, 1) := by decide +kernel
theorem d_cX5_sweep_78 : decode cX5_sweep 78 = .ok (.getfield 9, 3) := by decide +kernel
theorem d_cX5_sweep_81 : decode cX5_sweep 81 = .ok (.iload 5, 2) := by decide +kernel
theorem d_cX5_sweep_83 : decode cX5_sweep 83 = .ok (.laload, 1) := by decide +kernel
theorem d_cX5_sweep_84 : decode cX5_sweep 84 = .ok (.lcmp, 1) := by decide +kernel
theorem d_cX5_sweep_85 : decode cX5_sweep 85 = .ok (.ifCond .eq 7, 3) := by decide +kernel
theorem d_cX5_sweep_92 : decode cX5_sweep 92 = .ok (.iconst 0, 1) := by decide +kernel
theorem d_cX5_gatherUse_0 : decode cX5_gatherUse 0 = .ok (.iload_n 2, 1) := by decide +kernel
theorem d_cX5_gatherUse_1 : decode cX5_gatherUse 1 = .ok (.ifCond .lt 41, 3) := by decide +kernel
theorem d_cX5_gatherUse_42 : decode cX5_gatherUse 42 = .ok (.return_, 1) := by decide +kernel
theorem d_cX5_gatherUse_4 : decode cX5_gatherUse 4 = .ok (.iload_n 2, 1) := by decide +kernel
theorem d_cX5_gatherUse_5 : decode cX5_gatherUse 5 = .ok (.aload_n 0, 1) := by decide +kernel
theorem d_cX5_gatherUse_6 : decode cX5_gatherUse 6 = .ok (.getfield 33, 3) := by decide +kernel
theorem w_2_27 : (Jvm.Cond.fieldLink "SpillForge$Live" (33 : Nat) "SpillForge$Live" "names" "I") ∈ gw := gw_2 27 rfl rfl
theorem d_cX5_gatherUse_9 : decode cX5_gatherUse 9 = .ok (.if_icmp .ge 33, 3) := by decide +kernel
theorem d_cX5_gatherUse_12 : decode cX5_gatherUse 12 = .ok (.iload_n 1, 1) := by decide +kernel
theorem d_cX5_gatherUse_13 : decode cX5_gatherUse 13 = .ok (.iload_n 2, 1) := by decide +kernel
theorem d_cX5_gatherUse_14 : decode cX5_gatherUse 14 = .ok (.bipush 6, 2) := by decide +kernel
theorem d_cX5_gatherUse_16 : decode cX5_gatherUse 16 = .ok (.ishr, 1) := by decide +kernel
theorem d_cX5_gatherUse_17 : decode cX5_gatherUse 17 = .ok (.iadd, 1) := by decide +kernel
theorem d_cX5_gatherUse_18 : decode cX5_gatherUse 18 = .ok (.istore_n 3, 1) := by decide +kernel
theorem d_cX5_gatherUse_19 : decode cX5_gatherUse 19 = .ok (.aload_n 0, 1) := by decide +kernel
theorem d_cX5_gatherUse_20 : decode cX5_gatherUse 20 = .ok (.getfield 15, 3) := by decide +kernel
theorem d_cX5_gatherUse_23 : decode cX5_gatherUse 23 = .ok (.iload_n 3, 1) := by decide +kernel
theorem d_cX5_gatherUse_24 : decode cX5_gatherUse 24 = .ok (.dup2, 1) := by decide +kernel
theorem d_cX5_gatherUse_25 : decode cX5_gatherUse 25 = .ok (.laload, 1) := by decide +kernel
theorem d_cX5_gatherUse_26 : decode cX5_gatherUse 26 = .ok (.lconst 1, 1) := by decide +kernel
theorem d_cX5_gatherUse_27 : decode cX5_gatherUse 27 = .ok (.iload_n 2, 1) := by decide +kernel
theorem d_cX5_gatherUse_28 : decode cX5_gatherUse 28 = .ok (.lshl, 1) := by decide +kernel
theorem d_cX5_gatherUse_29 : decode cX5_gatherUse 29 = .ok (.aload_n 0, 1) := by decide +kernel
theorem d_cX5_gatherUse_30 : decode cX5_gatherUse 30 = .ok (.getfield 18, 3) := by decide +kernel
theorem d_cX5_gatherUse_33 : decode cX5_gatherUse 33 = .ok (.iload_n 3, 1) := by decide +kernel
theorem d_cX5_gatherUse_34 : decode cX5_gatherUse 34 = .ok (.laload, 1) := by decide +kernel
theorem d_cX5_gatherUse_35 : decode cX5_gatherUse 35 = .ok (.ldc2_w 83, 3) := by decide +kernel
theorem d_cX5_gatherUse_38 : decode cX5_gatherUse 38 = .ok (.lxor, 1) := by decide +kernel
theorem d_cX5_gatherUse_39 : decode cX5_gatherUse 39 = .ok (.land, 1) := by decide +kernel
theorem d_cX5_gatherUse_40 : decode cX5_gatherUse 40 = .ok (.lor, 1) := by decide +kernel
theorem d_cX5_gatherUse_41 : decode cX5_gatherUse 41 = .ok (.lastore, 1) := by decide +kernel
theorem d_cX5_isName_0 : decode cX5_isName 0 = .ok (.iload_n 1, 1) := by decide +kernel
theorem d_cX5_isName_1 : decode cX5_isName 1 = .ok (.ifCond .lt 15, 3) := by decide +kernel
theorem d_cX5_isName_16 : decode cX5_isName 16 = .ok (.iconst 0, 1) := by decide +kernel
theorem d_cX5_isName_17 : decode cX5_isName 17 = .ok (.ireturn, 1) := by decide +kernel
theorem d_cX5_isName_4 : decode cX5_isName 4 = .ok (.iload_n 1, 1) := by decide +kernel
theorem d_cX5_isName_5 : decode cX5_isName 5 = .ok (.aload_n 0, 1) := by decide +kernel
theorem d_cX5_isName_6 : decode cX5_isName 6 = .ok (.getfield 33, 3) := by decide +kernel
theorem d_cX5_isName_9 : decode cX5_isName 9 = .ok (.if_icmp .ge 7, 3) := by decide +kernel
theorem d_cX5_isName_12 : decode cX5_isName 12 = .ok (.iconst 1, 1) := by decide +kernel
theorem d_cX5_isName_13 : decode cX5_isName 13 = .ok (.goto 4, 3) := by decide +kernel
abbrev ky_12161_Live_enterBehind : gKey := (cX5_enterBehind, 8, yX5_enterBehind.cls, none, [], yX5_enterBehind.name, fun _ _ => True)
abbrev po_12161_Live_enterBehind (I : FieldType → ClassId) (q12124 : Nat) (q12125 : Nat) (q12126 : Nat) (q12127 : Nat) (q12128 : Nat) (q12129 : Nat) (q12130 : Nat) (q12131 : Nat) (q12132 : Nat) (q12133 : Nat) (q12134 : Nat) (q12135 : Nat) (q12136 : Nat) (q12137 : Nat) (q12138 : Nat) (p12139 : Int32) (p12140 : Int32) (p12141 : Int32) (p12142 : Int32) (p12143 : Int32) (p12144 : Int32) (p12145 : Int32) (f12146 : Nat → Int64) (f12147 : Nat → Int64) (f12148 : Nat → Int64) (f12149 : Nat → Int64) (f12150 : Nat → Int32) (f12151 : Nat → Int32) (f12152 : Nat → Int32) (f12153 : Nat → Int32) (f12154 : Nat → Int32) (f12155 : Nat → Int32) (f12156 : Nat → Int32) (f12157 : Nat → Int32) (f12158 : Nat → Int32) : Option Value → va_W → Prop := fun r w => ∃ (f12589 : Nat → Int64), r = none ∧ w = [(q12124, .inr (10, [.ref q12126, .ref q12127, .ref q12128, .ref q12129, .int p12140, .int p12141, .int p12142])), (q12125, .inr (5, [.ref q12130, .ref q12131, .ref q12132, .ref q12133, .ref q12134, .ref q12135, .ref q12136, .ref q12137, .ref q12138, .int p12143, .int p12144, .int p12145])), (q12126, .inl (I .long, 480, .inr (.inl f12146))), (q12127, .inl (I .long, 480, .inr (.inl f12147))), (q12128, .inl (I .long, 480, .inr (.inl f12148))), (q12129, .inl (I .long, 12, .inr (.inl f12589))), (q12130, .inl (I .int, 40, .inl f12150)), (q12131, .inl (I .int, 40, .inl f12151)), (q12132, .inl (I .int, 40, .inl f12152)), (q12133, .inl (I .int, 200, .inl f12153)), (q12134, .inl (I .int, 200, .inl f12154)), (q12135, .inl (I .int, 200, .inl f12155)), (q12136, .inl (I .int, 200, .inl f12156)), (q12137, .inl (I .int, 200, .inl f12157)), (q12138, .inl (I .int, 200, .inl f12158))] ∧ lb_W f12589 (p12141.toInt) (p12141.toInt) (p12140.toInt) ∧ tr_Live_enterBehind p12139 p12141 p12143 f12146 f12149 f12151 f12152 f12589
set_option maxRecDepth 100000 in
set_option maxHeartbeats 4000000 in
theorem ct_12161_Live_enterBehind (l : Launch) (hl0 : l.stackTraces = false) (D : va_G) (I : FieldType → ClassId) (q12124 : Nat) (q12125 : Nat) (q12126 : Nat) (q12127 : Nat) (q12128 : Nat) (q12129 : Nat) (q12130 : Nat) (q12131 : Nat) (q12132 : Nat) (q12133 : Nat) (q12134 : Nat) (q12135 : Nat) (q12136 : Nat) (q12137 : Nat) (q12138 : Nat) (p12139 : Int32) (p12140 : Int32) (p12141 : Int32) (p12142 : Int32) (p12143 : Int32) (p12144 : Int32) (p12145 : Int32) (f12146 : Nat → Int64) (f12147 : Nat → Int64) (f12148 : Nat → Int64) (f12149 : Nat → Int64) (f12150 : Nat → Int32) (f12151 : Nat → Int32) (f12152 : Nat → Int32) (f12153 : Nat → Int32) (f12154 : Nat → Int32) (f12155 : Nat → Int32) (f12156 : Nat → Int32) (f12157 : Nat → Int32) (f12158 : Nat → Int32) (bp12139 : gB p12139 0 39) (bp12140 : gB p12140 0 720) (bp12141 : gB p12141 0 12) (bp12142 : gB p12142 0 1) (bp12143 : gB p12143 0 40) (bp12144 : gB p12144 0 200) (bp12145 : gB p12145 0 1) (bf12150 : gF f12150 0 200) (bf12153 : gF f12153 0 21) (x12159 : lb_W f12146 (p12143.toInt * p12141.toInt) (p12141.toInt) (p12140.toInt)) (x12160 : p12141.toInt = (p12140.toInt + 63) / 64) : Ct (gV D I) l yX5_enterBehind cX5_enterBehind 8 none 0 0 0 0 [.ref q12124, .ref q12125, .int p12139] [(q12124, .inr (10, [.ref q12126, .ref q12127, .ref q12128, .ref q12129, .int p12140, .int p12141, .int p12142])), (q12125, .inr (5, [.ref q12130, .ref q12131, .ref q12132, .ref q12133, .ref q12134, .ref q12135, .ref q12136, .ref q12137, .ref q12138, .int p12143, .int p12144, .int p12145])), (q12126, .inl (I .long, 480, .inr (.inl f12146))), (q12127, .inl (I .long, 480, .inr (.inl f12147))), (q12128, .inl (I .long, 480, .inr (.inl f12148))), (q12129, .inl (I .long, 12, .inr (.inl f12149))), (q12130, .inl (I .int, 40, .inl f12150)), (q12131, .inl (I .int, 40, .inl f12151)), (q12132, .inl (I .int, 40, .inl f12152)), (q12133, .inl (I .int, 200, .inl f12153)), (q12134, .inl (I .int, 200, .inl f12154)), (q12135, .inl (I .int, 200, .inl f12155)), (q12136, .inl (I .int, 200, .inl f12156)), (q12137, .inl (I .int, 200, .inl f12157)), (q12138, .inl (I .int, 200, .inl f12158))] (po_12161_Live_enterBehind I q12124 q12125 q12126 q12127 q12128 q12129 q12130 q12131 q12132 q12133 q12134 q12135 q12136 q12137 q12138 p12139 p12140 p12141 p12142 p12143 p12144 p12145 f12146 f12147 f12148 f12149 f12150 f12151 f12152 f12153 f12154 f12155 f12156 f12157 f12158) gN := by
  refine Ct_of hl0 (by decide) (Nat.le_of_ble_eq_true rfl) ?_
  refine G_aload_n 1 d_cX5_enterBehind_0 rfl ?_
  refine G_getfN 1 1 d_cX5_enterBehind_1 rfl (gk_X0 D I) (Nat.le_of_ble_eq_true rfl) (fun _ _ _ h => gn_w 9 rfl h) rfl ?_
  refine G_iload_n 2 d_cX5_enterBehind_4 rfl ?_
  refine G_iald 7 0 d_cX5_enterBehind_5 rfl rfl (gB_in bp12139 (by decide) (by decide)) (G_nam fun z12162 hz12162 => ?_)
  have bz12162 : gB z12162 (-2147483648) 2147483647 := gB_any z12162
  refine G_istore_n (L' := [(3, .int z12162), (0, .ref q12124), (1, .ref q12125), (2, .int p12139)]) d_cX5_enterBehind_6 (Nat.le_of_ble_eq_true rfl) rfl ?_
  refine G_aload_n 2 d_cX5_enterBehind_7 rfl ?_
  refine G_getfN 1 2 d_cX5_enterBehind_8 rfl (gk_X0 D I) (Nat.le_of_ble_eq_true rfl) (fun _ _ _ h => gn_w 13 rfl h) rfl ?_
  refine G_iload_n 3 d_cX5_enterBehind_11 rfl ?_
  refine G_iald 8 0 d_cX5_enterBehind_12 rfl rfl (gB_in bp12139 (by decide) (by decide)) (G_nam fun z12163 hz12163 => ?_)
  have bz12163 : gB z12163 (-2147483648) 2147483647 := gB_any z12163
  refine G_istore (L' := [(4, .int z12163), (3, .int z12162), (0, .ref q12124), (1, .ref q12125), (2, .int p12139)]) d_cX5_enterBehind_13 (Nat.le_of_ble_eq_true rfl) rfl ?_
  refine G_iconst 0 d_cX5_enterBehind_15 (by decide +kernel) ?_
  refine G_istore (L' := [(5, .int 0), (4, .int z12163), (3, .int z12162), (0, .ref q12124), (1, .ref q12125), (2, .int p12139)]) d_cX5_enterBehind_16 (Nat.le_of_ble_eq_true rfl) rfl ?_
  have hlp18_12527 : ∀ (n18_12527 : Nat) (g12525 : Int32) (f12526 : Nat → Int64), gB g12525 0 12 → lb_W f12526 (g12525.toInt) (p12141.toInt) (p12140.toInt) → (∀ (k : Nat) (e1 : Nat → Int64), tl_Live_enterBehind_18 p12141 z12162 z12163 p12143 f12146 g12525 f12526 k e1 → tl_Live_enterBehind_18 p12141 z12162 z12163 p12143 f12146 (0 : Int32) f12149 k e1) → ((13 : Int) - g12525.toInt).toNat < n18_12527 → G (gV D I) l (gRm 0 0 0 0) (gM (gV D I) (po_12161_Live_enterBehind I q12124 q12125 q12126 q12127 q12128 q12129 q12130 q12131 q12132 q12133 q12134 q12135 q12136 q12137 q12138 p12139 p12140 p12141 p12142 p12143 p12144 p12145 f12146 f12147 f12148 f12149 f12150 f12151 f12152 f12153 f12154 f12155 f12156 f12157 f12158) gN 0 0) ky_12161_Live_enterBehind 18 [(5, .int g12525), (4, .int z12163), (3, .int z12162), (0, .ref q12124), (1, .ref q12125), (2, .int p12139)] [] [(q12124, .inr (10, [.ref q12126, .ref q12127, .ref q12128, .ref q12129, .int p12140, .int p12141, .int p12142])), (q12125, .inr (5, [.ref q12130, .ref q12131, .ref q12132, .ref q12133, .ref q12134, .ref q12135, .ref q12136, .ref q12137, .ref q12138, .int p12143, .int p12144, .int p12145])), (q12126, .inl (I .long, 480, .inr (.inl f12146))), (q12127, .inl (I .long, 480, .inr (.inl f12147))), (q12128, .inl (I .long, 480, .inr (.inl f12148))), (q12129, .inl (I .long, 12, .inr (.inl f12526))), (q12130, .inl (I .int, 40, .inl f12150)), (q12131, .inl (I .int, 40, .inl f12151)), (q12132, .inl (I .int, 40, .inl f12152)), (q12133, .inl (I .int, 200, .inl f12153)), (q12134, .inl (I .int, 200, .inl f12154)), (q12135, .inl (I .int, 200, .inl f12155)), (q12136, .inl (I .int, 200, .inl f12156)), (q12137, .inl (I .int, 200, .inl f12157)), (q12138, .inl (I .int, 200, .inl f12158))] 0 0 := by
    intro n18_12527
    induction n18_12527 with
    | zero => intro g12525 f12526 bg12525 x12527 kt18_12527 hm18_12527; exact absurd hm18_12527 (Nat.not_lt_zero _)
    | succ n18_12527 ih18_12527 =>
      intro g12525 f12526 bg12525 x12527 kt18_12527 hm18_12527
      refine G_iload 0 d_cX5_enterBehind_18 rfl ?_
      refine G_aload_n 3 d_cX5_enterBehind_20 rfl ?_
      refine G_getf 0 5 d_cX5_enterBehind_21 rfl (gk_X5 D I) (Nat.le_of_ble_eq_true rfl) w_2_29 rfl ?_
      refine G_icmp_ge 109 d_cX5_enterBehind_24 (by decide +kernel) (fun hc12528 => ?_) (fun hc12528 => ?_)
      · have r12529 : p12141.toInt ≤ g12525.toInt := gC_le hc12528
        have hx12530 : tl_Live_enterBehind_18 p12141 z12162 z12163 p12143 f12146 (0 : Int32) f12149 109 f12526 := kt18_12527 109 f12526 (fun R c1 c2 c3 c4 c5 c6 c7 c8 c9 c10 => c1 g12525 f12526 bg12525 r12529)
        exact G_vret d_cX5_enterBehind_109 rfl (Nat.le_of_ble_eq_true rfl) (Nat.le_of_ble_eq_true rfl) ⟨f12526, rfl, rfl, (lb_Wle x12527 (by omega)), (fun R c1 => c1 z12162 z12163 f12526 hz12162 hz12163 hx12530)⟩
      · have r12531 : g12525.toInt < p12141.toInt := gC_nle hc12528
        have bg12525' : gB g12525 0 11 := ⟨by omega, by omega⟩
        have bp12141' : gB p12141 1 12 := ⟨by omega, by omega⟩
        refine G_iload_n 2 d_cX5_enterBehind_27 rfl ?_
        refine G_if_lt 56 d_cX5_enterBehind_28 (by decide +kernel) (fun hc12532 => ?_) (fun hc12532 => ?_)
        · have r12533 : z12162.toInt < 0 := gj_lt hc12532 (show Int32.toInt 0 = 0 by decide)
          have bz12162' : gB z12162 (-2147483648) (-1) := ⟨by omega, by omega⟩
          refine G_lconst 0 d_cX5_enterBehind_56 rfl ?_
          refine G_lstore (L' := [(6, .long 0), (5, .int g12525), (4, .int z12163), (3, .int z12162), (0, .ref q12124), (1, .ref q12125), (2, .int p12139)]) d_cX5_enterBehind_57 (Nat.le_of_ble_eq_true rfl) rfl ?_
          refine G_aload_n 4 d_cX5_enterBehind_59 rfl ?_
          refine G_getf 0 3 d_cX5_enterBehind_60 rfl (gk_X5 D I) (Nat.le_of_ble_eq_true rfl) w_2_25 rfl ?_
          refine G_iload 1 d_cX5_enterBehind_63 rfl ?_
          refine G_iload 2 d_cX5_enterBehind_65 rfl ?_
          refine G_if_lt 100 d_cX5_enterBehind_67 (by decide +kernel) (fun hc12534 => ?_) (fun hc12534 => ?_)
          · have r12535 : z12163.toInt < 0 := gj_lt hc12534 (show Int32.toInt 0 = 0 by decide)
            have bz12163' : gB z12163 (-2147483648) (-1) := ⟨by omega, by omega⟩
            refine G_lload 0 d_cX5_enterBehind_100 rfl ?_
            refine G_lastN 5 2 d_cX5_enterBehind_102 rfl rfl (gB_in bg12525' (by decide) (by decide)) (fun f12536 hf12536 => ?_)
            refine G_ws (ws' := [(q12124, .inr (10, [.ref q12126, .ref q12127, .ref q12128, .ref q12129, .int p12140, .int p12141, .int p12142])), (q12125, .inr (5, [.ref q12130, .ref q12131, .ref q12132, .ref q12133, .ref q12134, .ref q12135, .ref q12136, .ref q12137, .ref q12138, .int p12143, .int p12144, .int p12145])), (q12126, .inl (I .long, 480, .inr (.inl f12146))), (q12127, .inl (I .long, 480, .inr (.inl f12147))), (q12128, .inl (I .long, 480, .inr (.inl f12148))), (q12129, .inl (I .long, 12, .inr (.inl f12536))), (q12130, .inl (I .int, 40, .inl f12150)), (q12131, .inl (I .int, 40, .inl f12151)), (q12132, .inl (I .int, 40, .inl f12152)), (q12133, .inl (I .int, 200, .inl f12153)), (q12134, .inl (I .int, 200, .inl f12154)), (q12135, .inl (I .int, 200, .inl f12155)), (q12136, .inl (I .int, 200, .inl f12156)), (q12137, .inl (I .int, 200, .inl f12157)), (q12138, .inl (I .int, 200, .inl f12158))]) (cs' := 0) (sl' := 0) rfl rfl rfl ?_
            have wf12536 : lb_W f12536 (g12525.toInt + 1) (p12141.toInt) (p12140.toInt) := lb_Wext hf12536 x12527 (by omega) (lb_Mod0 (by omega) (by omega)) lb_Q0
            obtain ⟨z12537, hz12537⟩ : ∃ z : Int32, z = g12525 + Int32.ofInt 1 := ⟨_, rfl⟩
            have ez12537 : z12537.toInt = g12525.toInt + 1 := gI_inc hz12537 (by decide) bg12525' (by decide) (by decide)
            have bz12537 : gB z12537 1 12 := ⟨by omega, by omega⟩
            refine G_iinc (L' := [(5, .int z12537), (6, .long 0), (4, .int z12163), (3, .int z12162), (0, .ref q12124), (1, .ref q12125), (2, .int p12139)]) z12537 1 d_cX5_enterBehind_103 rfl hz12537.symm (Nat.le_of_ble_eq_true rfl) rfl ?_
            refine G_goto 18 d_cX5_enterBehind_106 (by decide +kernel) ?_
            refine G_lv (L' := [(5, .int z12537), (4, .int z12163), (3, .int z12162), (0, .ref q12124), (1, .ref q12125), (2, .int p12139)]) [0, 2, 3, 4, 5, 6] rfl ?_
            exact ih18_12527 z12537 f12536 (gB_w bz12537 (by decide) (by decide)) (lb_Wle wf12536 (by omega)) (fun k e1 ht => kt18_12527 k e1 (fun R c1 c2 c3 c4 c5 c6 c7 c8 c9 c10 => c2 g12525 f12526 f12536 z12537 k e1 bg12525 r12531 r12533 r12535 hf12536 ez12537 (ht R c1 c2 c3 c4 c5 c6 c7 c8 c9 c10))) (by omega)
          · have r12538 : 0 ≤ z12163.toInt := gj_nlt hc12534 (show Int32.toInt 0 = 0 by decide)
            have bz12163' : gB z12163 0 2147483647 := ⟨by omega, by omega⟩
            refine G_iload 2 d_cX5_enterBehind_70 rfl ?_
            refine G_aload_n 5 d_cX5_enterBehind_72 rfl ?_
            refine G_getfN 1 9 d_cX5_enterBehind_73 rfl (gk_X0 D I) (Nat.le_of_ble_eq_true rfl) (fun _ _ _ h => gn_w 37 rfl h) rfl ?_
            refine G_icmp_ge 100 d_cX5_enterBehind_76 (by decide +kernel) (fun hc12539 => ?_) (fun hc12539 => ?_)
            · have r12540 : p12143.toInt ≤ z12163.toInt := gC_le hc12539
              refine G_lload 0 d_cX5_enterBehind_100 rfl ?_
              refine G_lastN 5 2 d_cX5_enterBehind_102 rfl rfl (gB_in bg12525' (by decide) (by decide)) (fun f12541 hf12541 => ?_)
              refine G_ws (ws' := [(q12124, .inr (10, [.ref q12126, .ref q12127, .ref q12128, .ref q12129, .int p12140, .int p12141, .int p12142])), (q12125, .inr (5, [.ref q12130, .ref q12131, .ref q12132, .ref q12133, .ref q12134, .ref q12135, .ref q12136, .ref q12137, .ref q12138, .int p12143, .int p12144, .int p12145])), (q12126, .inl (I .long, 480, .inr (.inl f12146))), (q12127, .inl (I .long, 480, .inr (.inl f12147))), (q12128, .inl (I .long, 480, .inr (.inl f12148))), (q12129, .inl (I .long, 12, .inr (.inl f12541))), (q12130, .inl (I .int, 40, .inl f12150)), (q12131, .inl (I .int, 40, .inl f12151)), (q12132, .inl (I .int, 40, .inl f12152)), (q12133, .inl (I .int, 200, .inl f12153)), (q12134, .inl (I .int, 200, .inl f12154)), (q12135, .inl (I .int, 200, .inl f12155)), (q12136, .inl (I .int, 200, .inl f12156)), (q12137, .inl (I .int, 200, .inl f12157)), (q12138, .inl (I .int, 200, .inl f12158))]) (cs' := 0) (sl' := 0) rfl rfl rfl ?_
              have wf12541 : lb_W f12541 (g12525.toInt + 1) (p12141.toInt) (p12140.toInt) := lb_Wext hf12541 x12527 (by omega) (lb_Mod0 (by omega) (by omega)) lb_Q0
              obtain ⟨z12542, hz12542⟩ : ∃ z : Int32, z = g12525 + Int32.ofInt 1 := ⟨_, rfl⟩
              have ez12542 : z12542.toInt = g12525.toInt + 1 := gI_inc hz12542 (by decide) bg12525' (by decide) (by decide)
              have bz12542 : gB z12542 1 12 := ⟨by omega, by omega⟩
              refine G_iinc (L' := [(5, .int z12542), (6, .long 0), (4, .int z12163), (3, .int z12162), (0, .ref q12124), (1, .ref q12125), (2, .int p12139)]) z12542 1 d_cX5_enterBehind_103 rfl hz12542.symm (Nat.le_of_ble_eq_true rfl) rfl ?_
              refine G_goto 18 d_cX5_enterBehind_106 (by decide +kernel) ?_
              refine G_lv (L' := [(5, .int z12542), (4, .int z12163), (3, .int z12162), (0, .ref q12124), (1, .ref q12125), (2, .int p12139)]) [0, 2, 3, 4, 5, 6] rfl ?_
              exact ih18_12527 z12542 f12541 (gB_w bz12542 (by decide) (by decide)) (lb_Wle wf12541 (by omega)) (fun k e1 ht => kt18_12527 k e1 (fun R c1 c2 c3 c4 c5 c6 c7 c8 c9 c10 => c3 g12525 f12526 f12541 z12542 k e1 bg12525 r12531 r12533 r12538 r12540 hf12541 ez12542 (ht R c1 c2 c3 c4 c5 c6 c7 c8 c9 c10))) (by omega)
            · have r12543 : z12163.toInt < p12143.toInt := gC_nle hc12539
              have bz12163'' : gB z12163 0 39 := ⟨by omega, by omega⟩
              have bp12143' : gB p12143 1 40 := ⟨by omega, by omega⟩
              refine G_lload 0 d_cX5_enterBehind_79 rfl ?_
              refine G_aload_n 4 d_cX5_enterBehind_81 rfl ?_
              refine G_getf 0 0 d_cX5_enterBehind_82 rfl (gk_X5 D I) (Nat.le_of_ble_eq_true rfl) w_2_22 rfl ?_
              refine G_iload 2 d_cX5_enterBehind_85 rfl ?_
              refine G_aload_n 4 d_cX5_enterBehind_87 rfl ?_
              refine G_getf 0 5 d_cX5_enterBehind_88 rfl (gk_X5 D I) (Nat.le_of_ble_eq_true rfl) w_2_29 rfl ?_
              refine G_imul d_cX5_enterBehind_91 (G_nam fun z12544 hz12544 => ?_)
              have ez12544 : z12544.toInt = z12163.toInt * p12141.toInt := by rw [gI_mul hz12544 bz12163'' bp12141' (by decide) (by decide) (by decide)]
              have bz12544 : gB z12544 0 468 := gB_mul hz12544 bz12163'' bp12141' (by decide) (by decide) (by decide) (by decide)
              refine G_iload 1 d_cX5_enterBehind_92 rfl ?_
              refine G_iadd d_cX5_enterBehind_94 (G_nam fun z12545 hz12545 => ?_)
              have ez12545 : z12545.toInt = z12544.toInt + g12525.toInt := by rw [gI_add hz12545 bz12544 bg12525' (by decide) (by decide)]
              have bz12545 : gB z12545 0 479 := gB_add (gI_add hz12545 bz12544 bg12525' (by decide) (by decide)) bz12544 bg12525' (by decide) (by decide)
              refine G_lald 2 2 d_cX5_enterBehind_95 rfl rfl (gB_in bz12545 (by decide) (by decide)) (G_namL fun u12546 hu12546 => ?_)
              have qu12546 : lb_Q u12546 (p12140.toInt - 64 * g12525.toInt) := lb_Wld hu12546 x12159 (by omega) (lb_Lt1 ez12545 ez12544 (by omega) (by omega) (by omega)) (lb_Mod1 ez12545 ez12544 (by omega) (by omega))
              refine G_lor d_cX5_enterBehind_96 (G_namL fun u12547 hu12547 => ?_)
              have qu12547 : lb_Q u12547 (p12140.toInt - 64 * g12525.toInt) := lb_Qor hu12547 lb_Q0 qu12546
              refine G_goto 102 d_cX5_enterBehind_97 (by decide +kernel) ?_
              refine G_lastN 5 2 d_cX5_enterBehind_102 rfl rfl (gB_in bg12525' (by decide) (by decide)) (fun f12548 hf12548 => ?_)
              refine G_ws (ws' := [(q12124, .inr (10, [.ref q12126, .ref q12127, .ref q12128, .ref q12129, .int p12140, .int p12141, .int p12142])), (q12125, .inr (5, [.ref q12130, .ref q12131, .ref q12132, .ref q12133, .ref q12134, .ref q12135, .ref q12136, .ref q12137, .ref q12138, .int p12143, .int p12144, .int p12145])), (q12126, .inl (I .long, 480, .inr (.inl f12146))), (q12127, .inl (I .long, 480, .inr (.inl f12147))), (q12128, .inl (I .long, 480, .inr (.inl f12148))), (q12129, .inl (I .long, 12, .inr (.inl f12548))), (q12130, .inl (I .int, 40, .inl f12150)), (q12131, .inl (I .int, 40, .inl f12151)), (q12132, .inl (I .int, 40, .inl f12152)), (q12133, .inl (I .int, 200, .inl f12153)), (q12134, .inl (I .int, 200, .inl f12154)), (q12135, .inl (I .int, 200, .inl f12155)), (q12136, .inl (I .int, 200, .inl f12156)), (q12137, .inl (I .int, 200, .inl f12157)), (q12138, .inl (I .int, 200, .inl f12158))]) (cs' := 0) (sl' := 0) rfl rfl rfl ?_
              have wf12548 : lb_W f12548 (g12525.toInt + 1) (p12141.toInt) (p12140.toInt) := lb_Wext hf12548 x12527 (by omega) (lb_Mod0 (by omega) (by omega)) qu12547
              obtain ⟨z12549, hz12549⟩ : ∃ z : Int32, z = g12525 + Int32.ofInt 1 := ⟨_, rfl⟩
              have ez12549 : z12549.toInt = g12525.toInt + 1 := gI_inc hz12549 (by decide) bg12525' (by decide) (by decide)
              have bz12549 : gB z12549 1 12 := ⟨by omega, by omega⟩
              refine G_iinc (L' := [(5, .int z12549), (6, .long 0), (4, .int z12163), (3, .int z12162), (0, .ref q12124), (1, .ref q12125), (2, .int p12139)]) z12549 1 d_cX5_enterBehind_103 rfl hz12549.symm (Nat.le_of_ble_eq_true rfl) rfl ?_
              refine G_goto 18 d_cX5_enterBehind_106 (by decide +kernel) ?_
              refine G_lv (L' := [(5, .int z12549), (4, .int z12163), (3, .int z12162), (0, .ref q12124), (1, .ref q12125), (2, .int p12139)]) [0, 2, 3, 4, 5, 6] rfl ?_
              exact ih18_12527 z12549 f12548 (gB_w bz12549 (by decide) (by decide)) (lb_Wle wf12548 (by omega)) (fun k e1 ht => kt18_12527 k e1 (fun R c1 c2 c3 c4 c5 c6 c7 c8 c9 c10 => c4 g12525 f12526 z12544 z12545 u12546 u12547 f12548 z12549 k e1 bg12525 r12531 r12533 r12538 r12543 ez12544 ez12545 hu12546 hu12547 hf12548 ez12549 (ht R c1 c2 c3 c4 c5 c6 c7 c8 c9 c10))) (by omega)
        · have r12550 : 0 ≤ z12162.toInt := gj_nlt hc12532 (show Int32.toInt 0 = 0 by decide)
          have bz12162' : gB z12162 0 2147483647 := ⟨by omega, by omega⟩
          refine G_iload_n 2 d_cX5_enterBehind_31 rfl ?_
          refine G_aload_n 4 d_cX5_enterBehind_32 rfl ?_
          refine G_getfN 1 9 d_cX5_enterBehind_33 rfl (gk_X0 D I) (Nat.le_of_ble_eq_true rfl) (fun _ _ _ h => gn_w 37 rfl h) rfl ?_
          refine G_icmp_ge 56 d_cX5_enterBehind_36 (by decide +kernel) (fun hc12551 => ?_) (fun hc12551 => ?_)
          · have r12552 : p12143.toInt ≤ z12162.toInt := gC_le hc12551
            refine G_lconst 0 d_cX5_enterBehind_56 rfl ?_
            refine G_lstore (L' := [(6, .long 0), (5, .int g12525), (4, .int z12163), (3, .int z12162), (0, .ref q12124), (1, .ref q12125), (2, .int p12139)]) d_cX5_enterBehind_57 (Nat.le_of_ble_eq_true rfl) rfl ?_
            refine G_aload_n 4 d_cX5_enterBehind_59 rfl ?_
            refine G_getf 0 3 d_cX5_enterBehind_60 rfl (gk_X5 D I) (Nat.le_of_ble_eq_true rfl) w_2_25 rfl ?_
            refine G_iload 1 d_cX5_enterBehind_63 rfl ?_
            refine G_iload 2 d_cX5_enterBehind_65 rfl ?_
            refine G_if_lt 100 d_cX5_enterBehind_67 (by decide +kernel) (fun hc12553 => ?_) (fun hc12553 => ?_)
            · have r12554 : z12163.toInt < 0 := gj_lt hc12553 (show Int32.toInt 0 = 0 by decide)
              have bz12163' : gB z12163 (-2147483648) (-1) := ⟨by omega, by omega⟩
              refine G_lload 0 d_cX5_enterBehind_100 rfl ?_
              refine G_lastN 5 2 d_cX5_enterBehind_102 rfl rfl (gB_in bg12525' (by decide) (by decide)) (fun f12555 hf12555 => ?_)
              refine G_ws (ws' := [(q12124, .inr (10, [.ref q12126, .ref q12127, .ref q12128, .ref q12129, .int p12140, .int p12141, .int p12142])), (q12125, .inr (5, [.ref q12130, .ref q12131, .ref q12132, .ref q12133, .ref q12134, .ref q12135, .ref q12136, .ref q12137, .ref q12138, .int p12143, .int p12144, .int p12145])), (q12126, .inl (I .long, 480, .inr (.inl f12146))), (q12127, .inl (I .long, 480, .inr (.inl f12147))), (q12128, .inl (I .long, 480, .inr (.inl f12148))), (q12129, .inl (I .long, 12, .inr (.inl f12555))), (q12130, .inl (I .int, 40, .inl f12150)), (q12131, .inl (I .int, 40, .inl f12151)), (q12132, .inl (I .int, 40, .inl f12152)), (q12133, .inl (I .int, 200, .inl f12153)), (q12134, .inl (I .int, 200, .inl f12154)), (q12135, .inl (I .int, 200, .inl f12155)), (q12136, .inl (I .int, 200, .inl f12156)), (q12137, .inl (I .int, 200, .inl f12157)), (q12138, .inl (I .int, 200, .inl f12158))]) (cs' := 0) (sl' := 0) rfl rfl rfl ?_
              have wf12555 : lb_W f12555 (g12525.toInt + 1) (p12141.toInt) (p12140.toInt) := lb_Wext hf12555 x12527 (by omega) (lb_Mod0 (by omega) (by omega)) lb_Q0
              obtain ⟨z12556, hz12556⟩ : ∃ z : Int32, z = g12525 + Int32.ofInt 1 := ⟨_, rfl⟩
              have ez12556 : z12556.toInt = g12525.toInt + 1 := gI_inc hz12556 (by decide) bg12525' (by decide) (by decide)
              have bz12556 : gB z12556 1 12 := ⟨by omega, by omega⟩
              refine G_iinc (L' := [(5, .int z12556), (6, .long 0), (4, .int z12163), (3, .int z12162), (0, .ref q12124), (1, .ref q12125), (2, .int p12139)]) z12556 1 d_cX5_enterBehind_103 rfl hz12556.symm (Nat.le_of_ble_eq_true rfl) rfl ?_
              refine G_goto 18 d_cX5_enterBehind_106 (by decide +kernel) ?_
              refine G_lv (L' := [(5, .int z12556), (4, .int z12163), (3, .int z12162), (0, .ref q12124), (1, .ref q12125), (2, .int p12139)]) [0, 2, 3, 4, 5, 6] rfl ?_
              exact ih18_12527 z12556 f12555 (gB_w bz12556 (by decide) (by decide)) (lb_Wle wf12555 (by omega)) (fun k e1 ht => kt18_12527 k e1 (fun R c1 c2 c3 c4 c5 c6 c7 c8 c9 c10 => c5 g12525 f12526 f12555 z12556 k e1 bg12525 r12531 r12550 r12552 r12554 hf12555 ez12556 (ht R c1 c2 c3 c4 c5 c6 c7 c8 c9 c10))) (by omega)
            · have r12557 : 0 ≤ z12163.toInt := gj_nlt hc12553 (show Int32.toInt 0 = 0 by decide)
              have bz12163' : gB z12163 0 2147483647 := ⟨by omega, by omega⟩
              refine G_iload 2 d_cX5_enterBehind_70 rfl ?_
              refine G_aload_n 5 d_cX5_enterBehind_72 rfl ?_
              refine G_getfN 1 9 d_cX5_enterBehind_73 rfl (gk_X0 D I) (Nat.le_of_ble_eq_true rfl) (fun _ _ _ h => gn_w 37 rfl h) rfl ?_
              refine G_icmp_ge 100 d_cX5_enterBehind_76 (by decide +kernel) (fun hc12558 => ?_) (fun hc12558 => ?_)
              · have r12559 : p12143.toInt ≤ z12163.toInt := gC_le hc12558
                refine G_lload 0 d_cX5_enterBehind_100 rfl ?_
                refine G_lastN 5 2 d_cX5_enterBehind_102 rfl rfl (gB_in bg12525' (by decide) (by decide)) (fun f12560 hf12560 => ?_)
                refine G_ws (ws' := [(q12124, .inr (10, [.ref q12126, .ref q12127, .ref q12128, .ref q12129, .int p12140, .int p12141, .int p12142])), (q12125, .inr (5, [.ref q12130, .ref q12131, .ref q12132, .ref q12133, .ref q12134, .ref q12135, .ref q12136, .ref q12137, .ref q12138, .int p12143, .int p12144, .int p12145])), (q12126, .inl (I .long, 480, .inr (.inl f12146))), (q12127, .inl (I .long, 480, .inr (.inl f12147))), (q12128, .inl (I .long, 480, .inr (.inl f12148))), (q12129, .inl (I .long, 12, .inr (.inl f12560))), (q12130, .inl (I .int, 40, .inl f12150)), (q12131, .inl (I .int, 40, .inl f12151)), (q12132, .inl (I .int, 40, .inl f12152)), (q12133, .inl (I .int, 200, .inl f12153)), (q12134, .inl (I .int, 200, .inl f12154)), (q12135, .inl (I .int, 200, .inl f12155)), (q12136, .inl (I .int, 200, .inl f12156)), (q12137, .inl (I .int, 200, .inl f12157)), (q12138, .inl (I .int, 200, .inl f12158))]) (cs' := 0) (sl' := 0) rfl rfl rfl ?_
                have wf12560 : lb_W f12560 (g12525.toInt + 1) (p12141.toInt) (p12140.toInt) := lb_Wext hf12560 x12527 (by omega) (lb_Mod0 (by omega) (by omega)) lb_Q0
                obtain ⟨z12561, hz12561⟩ : ∃ z : Int32, z = g12525 + Int32.ofInt 1 := ⟨_, rfl⟩
                have ez12561 : z12561.toInt = g12525.toInt + 1 := gI_inc hz12561 (by decide) bg12525' (by decide) (by decide)
                have bz12561 : gB z12561 1 12 := ⟨by omega, by omega⟩
                refine G_iinc (L' := [(5, .int z12561), (6, .long 0), (4, .int z12163), (3, .int z12162), (0, .ref q12124), (1, .ref q12125), (2, .int p12139)]) z12561 1 d_cX5_enterBehind_103 rfl hz12561.symm (Nat.le_of_ble_eq_true rfl) rfl ?_
                refine G_goto 18 d_cX5_enterBehind_106 (by decide +kernel) ?_
                refine G_lv (L' := [(5, .int z12561), (4, .int z12163), (3, .int z12162), (0, .ref q12124), (1, .ref q12125), (2, .int p12139)]) [0, 2, 3, 4, 5, 6] rfl ?_
                exact ih18_12527 z12561 f12560 (gB_w bz12561 (by decide) (by decide)) (lb_Wle wf12560 (by omega)) (fun k e1 ht => kt18_12527 k e1 (fun R c1 c2 c3 c4 c5 c6 c7 c8 c9 c10 => c6 g12525 f12526 f12560 z12561 k e1 bg12525 r12531 r12550 r12552 r12557 r12559 hf12560 ez12561 (ht R c1 c2 c3 c4 c5 c6 c7 c8 c9 c10))) (by omega)
              · have r12562 : z12163.toInt < p12143.toInt := gC_nle hc12558
                have bz12163'' : gB z12163 0 39 := ⟨by omega, by omega⟩
                have bp12143' : gB p12143 1 40 := ⟨by omega, by omega⟩
                refine G_lload 0 d_cX5_enterBehind_79 rfl ?_
                refine G_aload_n 4 d_cX5_enterBehind_81 rfl ?_
                refine G_getf 0 0 d_cX5_enterBehind_82 rfl (gk_X5 D I) (Nat.le_of_ble_eq_true rfl) w_2_22 rfl ?_
                refine G_iload 2 d_cX5_enterBehind_85 rfl ?_
                refine G_aload_n 4 d_cX5_enterBehind_87 rfl ?_
                refine G_getf 0 5 d_cX5_enterBehind_88 rfl (gk_X5 D I) (Nat.le_of_ble_eq_true rfl) w_2_29 rfl ?_
                refine G_imul d_cX5_enterBehind_91 (G_nam fun z12563 hz12563 => ?_)
                have ez12563 : z12563.toInt = z12163.toInt * p12141.toInt := by rw [gI_mul hz12563 bz12163'' bp12141' (by decide) (by decide) (by decide)]
                have bz12563 : gB z12563 0 468 := gB_mul hz12563 bz12163'' bp12141' (by decide) (by decide) (by decide) (by decide)
                refine G_iload 1 d_cX5_enterBehind_92 rfl ?_
                refine G_iadd d_cX5_enterBehind_94 (G_nam fun z12564 hz12564 => ?_)
                have ez12564 : z12564.toInt = z12563.toInt + g12525.toInt := by rw [gI_add hz12564 bz12563 bg12525' (by decide) (by decide)]
                have bz12564 : gB z12564 0 479 := gB_add (gI_add hz12564 bz12563 bg12525' (by decide) (by decide)) bz12563 bg12525' (by decide) (by decide)
                refine G_lald 2 2 d_cX5_enterBehind_95 rfl rfl (gB_in bz12564 (by decide) (by decide)) (G_namL fun u12565 hu12565 => ?_)
                have qu12565 : lb_Q u12565 (p12140.toInt - 64 * g12525.toInt) := lb_Wld hu12565 x12159 (by omega) (lb_Lt1 ez12564 ez12563 (by omega) (by omega) (by omega)) (lb_Mod1 ez12564 ez12563 (by omega) (by omega))
                refine G_lor d_cX5_enterBehind_96 (G_namL fun u12566 hu12566 => ?_)
                have qu12566 : lb_Q u12566 (p12140.toInt - 64 * g12525.toInt) := lb_Qor hu12566 lb_Q0 qu12565
                refine G_goto 102 d_cX5_enterBehind_97 (by decide +kernel) ?_
                refine G_lastN 5 2 d_cX5_enterBehind_102 rfl rfl (gB_in bg12525' (by decide) (by decide)) (fun f12567 hf12567 => ?_)
                refine G_ws (ws' := [(q12124, .inr (10, [.ref q12126, .ref q12127, .ref q12128, .ref q12129, .int p12140, .int p12141, .int p12142])), (q12125, .inr (5, [.ref q12130, .ref q12131, .ref q12132, .ref q12133, .ref q12134, .ref q12135, .ref q12136, .ref q12137, .ref q12138, .int p12143, .int p12144, .int p12145])), (q12126, .inl (I .long, 480, .inr (.inl f12146))), (q12127, .inl (I .long, 480, .inr (.inl f12147))), (q12128, .inl (I .long, 480, .inr (.inl f12148))), (q12129, .inl (I .long, 12, .inr (.inl f12567))), (q12130, .inl (I .int, 40, .inl f12150)), (q12131, .inl (I .int, 40, .inl f12151)), (q12132, .inl (I .int, 40, .inl f12152)), (q12133, .inl (I .int, 200, .inl f12153)), (q12134, .inl (I .int, 200, .inl f12154)), (q12135, .inl (I .int, 200, .inl f12155)), (q12136, .inl (I .int, 200, .inl f12156)), (q12137, .inl (I .int, 200, .inl f12157)), (q12138, .inl (I .int, 200, .inl f12158))]) (cs' := 0) (sl' := 0) rfl rfl rfl ?_
                have wf12567 : lb_W f12567 (g12525.toInt + 1) (p12141.toInt) (p12140.toInt) := lb_Wext hf12567 x12527 (by omega) (lb_Mod0 (by omega) (by omega)) qu12566
                obtain ⟨z12568, hz12568⟩ : ∃ z : Int32, z = g12525 + Int32.ofInt 1 := ⟨_, rfl⟩
                have ez12568 : z12568.toInt = g12525.toInt + 1 := gI_inc hz12568 (by decide) bg12525' (by decide) (by decide)
                have bz12568 : gB z12568 1 12 := ⟨by omega, by omega⟩
                refine G_iinc (L' := [(5, .int z12568), (6, .long 0), (4, .int z12163), (3, .int z12162), (0, .ref q12124), (1, .ref q12125), (2, .int p12139)]) z12568 1 d_cX5_enterBehind_103 rfl hz12568.symm (Nat.le_of_ble_eq_true rfl) rfl ?_
                refine G_goto 18 d_cX5_enterBehind_106 (by decide +kernel) ?_
                refine G_lv (L' := [(5, .int z12568), (4, .int z12163), (3, .int z12162), (0, .ref q12124), (1, .ref q12125), (2, .int p12139)]) [0, 2, 3, 4, 5, 6] rfl ?_
                exact ih18_12527 z12568 f12567 (gB_w bz12568 (by decide) (by decide)) (lb_Wle wf12567 (by omega)) (fun k e1 ht => kt18_12527 k e1 (fun R c1 c2 c3 c4 c5 c6 c7 c8 c9 c10 => c7 g12525 f12526 z12563 z12564 u12565 u12566 f12567 z12568 k e1 bg12525 r12531 r12550 r12552 r12557 r12562 ez12563 ez12564 hu12565 hu12566 hf12567 ez12568 (ht R c1 c2 c3 c4 c5 c6 c7 c8 c9 c10))) (by omega)
          · have r12569 : z12162.toInt < p12143.toInt := gC_nle hc12551
            have bz12162'' : gB z12162 0 39 := ⟨by omega, by omega⟩
            have bp12143' : gB p12143 1 40 := ⟨by omega, by omega⟩
            refine G_aload_n 3 d_cX5_enterBehind_39 rfl ?_
            refine G_getf 0 0 d_cX5_enterBehind_40 rfl (gk_X5 D I) (Nat.le_of_ble_eq_true rfl) w_2_22 rfl ?_
            refine G_iload_n 2 d_cX5_enterBehind_43 rfl ?_
            refine G_aload_n 3 d_cX5_enterBehind_44 rfl ?_
            refine G_getf 0 5 d_cX5_enterBehind_45 rfl (gk_X5 D I) (Nat.le_of_ble_eq_true rfl) w_2_29 rfl ?_
            refine G_imul d_cX5_enterBehind_48 (G_nam fun z12570 hz12570 => ?_)
            have ez12570 : z12570.toInt = z12162.toInt * p12141.toInt := by rw [gI_mul hz12570 bz12162'' bp12141' (by decide) (by decide) (by decide)]
            have bz12570 : gB z12570 0 468 := gB_mul hz12570 bz12162'' bp12141' (by decide) (by decide) (by decide) (by decide)
            refine G_iload 0 d_cX5_enterBehind_49 rfl ?_
            refine G_iadd d_cX5_enterBehind_51 (G_nam fun z12571 hz12571 => ?_)
            have ez12571 : z12571.toInt = z12570.toInt + g12525.toInt := by rw [gI_add hz12571 bz12570 bg12525' (by decide) (by decide)]
            have bz12571 : gB z12571 0 479 := gB_add (gI_add hz12571 bz12570 bg12525' (by decide) (by decide)) bz12570 bg12525' (by decide) (by decide)
            refine G_lald 2 2 d_cX5_enterBehind_52 rfl rfl (gB_in bz12571 (by decide) (by decide)) (G_namL fun u12572 hu12572 => ?_)
            have qu12572 : lb_Q u12572 (p12140.toInt - 64 * g12525.toInt) := lb_Wld hu12572 x12159 (by omega) (lb_Lt1 ez12571 ez12570 (by omega) (by omega) (by omega)) (lb_Mod1 ez12571 ez12570 (by omega) (by omega))
            refine G_goto 57 d_cX5_enterBehind_53 (by decide +kernel) ?_
            refine G_lstore (L' := [(6, .long u12572), (5, .int g12525), (4, .int z12163), (3, .int z12162), (0, .ref q12124), (1, .ref q12125), (2, .int p12139)]) d_cX5_enterBehind_57 (Nat.le_of_ble_eq_true rfl) rfl ?_
            refine G_aload_n 4 d_cX5_enterBehind_59 rfl ?_
            refine G_getf 0 3 d_cX5_enterBehind_60 rfl (gk_X5 D I) (Nat.le_of_ble_eq_true rfl) w_2_25 rfl ?_
            refine G_iload 1 d_cX5_enterBehind_63 rfl ?_
            refine G_iload 2 d_cX5_enterBehind_65 rfl ?_
            refine G_if_lt 100 d_cX5_enterBehind_67 (by decide +kernel) (fun hc12573 => ?_) (fun hc12573 => ?_)
            · have r12574 : z12163.toInt < 0 := gj_lt hc12573 (show Int32.toInt 0 = 0 by decide)
              have bz12163' : gB z12163 (-2147483648) (-1) := ⟨by omega, by omega⟩
              refine G_lload 0 d_cX5_enterBehind_100 rfl ?_
              refine G_lastN 5 2 d_cX5_enterBehind_102 rfl rfl (gB_in bg12525' (by decide) (by decide)) (fun f12575 hf12575 => ?_)
              refine G_ws (ws' := [(q12124, .inr (10, [.ref q12126, .ref q12127, .ref q12128, .ref q12129, .int p12140, .int p12141, .int p12142])), (q12125, .inr (5, [.ref q12130, .ref q12131, .ref q12132, .ref q12133, .ref q12134, .ref q12135, .ref q12136, .ref q12137, .ref q12138, .int p12143, .int p12144, .int p12145])), (q12126, .inl (I .long, 480, .inr (.inl f12146))), (q12127, .inl (I .long, 480, .inr (.inl f12147))), (q12128, .inl (I .long, 480, .inr (.inl f12148))), (q12129, .inl (I .long, 12, .inr (.inl f12575))), (q12130, .inl (I .int, 40, .inl f12150)), (q12131, .inl (I .int, 40, .inl f12151)), (q12132, .inl (I .int, 40, .inl f12152)), (q12133, .inl (I .int, 200, .inl f12153)), (q12134, .inl (I .int, 200, .inl f12154)), (q12135, .inl (I .int, 200, .inl f12155)), (q12136, .inl (I .int, 200, .inl f12156)), (q12137, .inl (I .int, 200, .inl f12157)), (q12138, .inl (I .int, 200, .inl f12158))]) (cs' := 0) (sl' := 0) rfl rfl rfl ?_
              have wf12575 : lb_W f12575 (g12525.toInt + 1) (p12141.toInt) (p12140.toInt) := lb_Wext hf12575 x12527 (by omega) (lb_Mod0 (by omega) (by omega)) qu12572
              obtain ⟨z12576, hz12576⟩ : ∃ z : Int32, z = g12525 + Int32.ofInt 1 := ⟨_, rfl⟩
              have ez12576 : z12576.toInt = g12525.toInt + 1 := gI_inc hz12576 (by decide) bg12525' (by decide) (by decide)
              have bz12576 : gB z12576 1 12 := ⟨by omega, by omega⟩
              refine G_iinc (L' := [(5, .int z12576), (6, .long u12572), (4, .int z12163), (3, .int z12162), (0, .ref q12124), (1, .ref q12125), (2, .int p12139)]) z12576 1 d_cX5_enterBehind_103 rfl hz12576.symm (Nat.le_of_ble_eq_true rfl) rfl ?_
              refine G_goto 18 d_cX5_enterBehind_106 (by decide +kernel) ?_
              refine G_lv (L' := [(5, .int z12576), (4, .int z12163), (3, .int z12162), (0, .ref q12124), (1, .ref q12125), (2, .int p12139)]) [0, 2, 3, 4, 5, 6] rfl ?_
              exact ih18_12527 z12576 f12575 (gB_w bz12576 (by decide) (by decide)) (lb_Wle wf12575 (by omega)) (fun k e1 ht => kt18_12527 k e1 (fun R c1 c2 c3 c4 c5 c6 c7 c8 c9 c10 => c8 g12525 f12526 z12570 z12571 u12572 f12575 z12576 k e1 bg12525 r12531 r12550 r12569 ez12570 ez12571 hu12572 r12574 hf12575 ez12576 (ht R c1 c2 c3 c4 c5 c6 c7 c8 c9 c10))) (by omega)
            · have r12577 : 0 ≤ z12163.toInt := gj_nlt hc12573 (show Int32.toInt 0 = 0 by decide)
              have bz12163' : gB z12163 0 2147483647 := ⟨by omega, by omega⟩
              refine G_iload 2 d_cX5_enterBehind_70 rfl ?_
              refine G_aload_n 5 d_cX5_enterBehind_72 rfl ?_
              refine G_getfN 1 9 d_cX5_enterBehind_73 rfl (gk_X0 D I) (Nat.le_of_ble_eq_true rfl) (fun _ _ _ h => gn_w 37 rfl h) rfl ?_
              refine G_icmp_ge 100 d_cX5_enterBehind_76 (by decide +kernel) (fun hc12578 => ?_) (fun hc12578 => ?_)
              · have r12579 : p12143.toInt ≤ z12163.toInt := gC_le hc12578
                have bz12163'' : gB z12163 1 2147483647 := ⟨by omega, by omega⟩
                refine G_lload 0 d_cX5_enterBehind_100 rfl ?_
                refine G_lastN 5 2 d_cX5_enterBehind_102 rfl rfl (gB_in bg12525' (by decide) (by decide)) (fun f12580 hf12580 => ?_)
                refine G_ws (ws' := [(q12124, .inr (10, [.ref q12126, .ref q12127, .ref q12128, .ref q12129, .int p12140, .int p12141, .int p12142])), (q12125, .inr (5, [.ref q12130, .ref q12131, .ref q12132, .ref q12133, .ref q12134, .ref q12135, .ref q12136, .ref q12137, .ref q12138, .int p12143, .int p12144, .int p12145])), (q12126, .inl (I .long, 480, .inr (.inl f12146))), (q12127, .inl (I .long, 480, .inr (.inl f12147))), (q12128, .inl (I .long, 480, .inr (.inl f12148))), (q12129, .inl (I .long, 12, .inr (.inl f12580))), (q12130, .inl (I .int, 40, .inl f12150)), (q12131, .inl (I .int, 40, .inl f12151)), (q12132, .inl (I .int, 40, .inl f12152)), (q12133, .inl (I .int, 200, .inl f12153)), (q12134, .inl (I .int, 200, .inl f12154)), (q12135, .inl (I .int, 200, .inl f12155)), (q12136, .inl (I .int, 200, .inl f12156)), (q12137, .inl (I .int, 200, .inl f12157)), (q12138, .inl (I .int, 200, .inl f12158))]) (cs' := 0) (sl' := 0) rfl rfl rfl ?_
                have wf12580 : lb_W f12580 (g12525.toInt + 1) (p12141.toInt) (p12140.toInt) := lb_Wext hf12580 x12527 (by omega) (lb_Mod0 (by omega) (by omega)) qu12572
                obtain ⟨z12581, hz12581⟩ : ∃ z : Int32, z = g12525 + Int32.ofInt 1 := ⟨_, rfl⟩
                have ez12581 : z12581.toInt = g12525.toInt + 1 := gI_inc hz12581 (by decide) bg12525' (by decide) (by decide)
                have bz12581 : gB z12581 1 12 := ⟨by omega, by omega⟩
                refine G_iinc (L' := [(5, .int z12581), (6, .long u12572), (4, .int z12163), (3, .int z12162), (0, .ref q12124), (1, .ref q12125), (2, .int p12139)]) z12581 1 d_cX5_enterBehind_103 rfl hz12581.symm (Nat.le_of_ble_eq_true rfl) rfl ?_
                refine G_goto 18 d_cX5_enterBehind_106 (by decide +kernel) ?_
                refine G_lv (L' := [(5, .int z12581), (4, .int z12163), (3, .int z12162), (0, .ref q12124), (1, .ref q12125), (2, .int p12139)]) [0, 2, 3, 4, 5, 6] rfl ?_
                exact ih18_12527 z12581 f12580 (gB_w bz12581 (by decide) (by decide)) (lb_Wle wf12580 (by omega)) (fun k e1 ht => kt18_12527 k e1 (fun R c1 c2 c3 c4 c5 c6 c7 c8 c9 c10 => c9 g12525 f12526 z12570 z12571 u12572 f12580 z12581 k e1 bg12525 r12531 r12550 r12569 ez12570 ez12571 hu12572 r12577 r12579 hf12580 ez12581 (ht R c1 c2 c3 c4 c5 c6 c7 c8 c9 c10))) (by omega)
              · have r12582 : z12163.toInt < p12143.toInt := gC_nle hc12578
                have bz12163'' : gB z12163 0 39 := ⟨by omega, by omega⟩
                refine G_lload 0 d_cX5_enterBehind_79 rfl ?_
                refine G_aload_n 4 d_cX5_enterBehind_81 rfl ?_
                refine G_getf 0 0 d_cX5_enterBehind_82 rfl (gk_X5 D I) (Nat.le_of_ble_eq_true rfl) w_2_22 rfl ?_
                refine G_iload 2 d_cX5_enterBehind_85 rfl ?_
                refine G_aload_n 4 d_cX5_enterBehind_87 rfl ?_
                refine G_getf 0 5 d_cX5_enterBehind_88 rfl (gk_X5 D I) (Nat.le_of_ble_eq_true rfl) w_2_29 rfl ?_
                refine G_imul d_cX5_enterBehind_91 (G_nam fun z12583 hz12583 => ?_)
                have ez12583 : z12583.toInt = z12163.toInt * p12141.toInt := by rw [gI_mul hz12583 bz12163'' bp12141' (by decide) (by decide) (by decide)]
                have bz12583 : gB z12583 0 468 := gB_mul hz12583 bz12163'' bp12141' (by decide) (by decide) (by decide) (by decide)
                refine G_iload 1 d_cX5_enterBehind_92 rfl ?_
                refine G_iadd d_cX5_enterBehind_94 (G_nam fun z12584 hz12584 => ?_)
                have ez12584 : z12584.toInt = z12583.toInt + g12525.toInt := by rw [gI_add hz12584 bz12583 bg12525' (by decide) (by decide)]
                have bz12584 : gB z12584 0 479 := gB_add (gI_add hz12584 bz12583 bg12525' (by decide) (by decide)) bz12583 bg12525' (by decide) (by decide)
                refine G_lald 2 2 d_cX5_enterBehind_95 rfl rfl (gB_in bz12584 (by decide) (by decide)) (G_namL fun u12585 hu12585 => ?_)
                have qu12585 : lb_Q u12585 (p12140.toInt - 64 * g12525.toInt) := lb_Wld hu12585 x12159 (by omega) (lb_Lt1 ez12584 ez12583 (by omega) (by omega) (by omega)) (lb_Mod1 ez12584 ez12583 (by omega) (by omega))
                refine G_lor d_cX5_enterBehind_96 (G_namL fun u12586 hu12586 => ?_)
                have qu12586 : lb_Q u12586 (p12140.toInt - 64 * g12525.toInt) := lb_Qor hu12586 qu12572 qu12585
                refine G_goto 102 d_cX5_enterBehind_97 (by decide +kernel) ?_
                refine G_lastN 5 2 d_cX5_enterBehind_102 rfl rfl (gB_in bg12525' (by decide) (by decide)) (fun f12587 hf12587 => ?_)
                refine G_ws (ws' := [(q12124, .inr (10, [.ref q12126, .ref q12127, .ref q12128, .ref q12129, .int p12140, .int p12141, .int p12142])), (q12125, .inr (5, [.ref q12130, .ref q12131, .ref q12132, .ref q12133, .ref q12134, .ref q12135, .ref q12136, .ref q12137, .ref q12138, .int p12143, .int p12144, .int p12145])), (q12126, .inl (I .long, 480, .inr (.inl f12146))), (q12127, .inl (I .long, 480, .inr (.inl f12147))), (q12128, .inl (I .long, 480, .inr (.inl f12148))), (q12129, .inl (I .long, 12, .inr (.inl f12587))), (q12130, .inl (I .int, 40, .inl f12150)), (q12131, .inl (I .int, 40, .inl f12151)), (q12132, .inl (I .int, 40, .inl f12152)), (q12133, .inl (I .int, 200, .inl f12153)), (q12134, .inl (I .int, 200, .inl f12154)), (q12135, .inl (I .int, 200, .inl f12155)), (q12136, .inl (I .int, 200, .inl f12156)), (q12137, .inl (I .int, 200, .inl f12157)), (q12138, .inl (I .int, 200, .inl f12158))]) (cs' := 0) (sl' := 0) rfl rfl rfl ?_
                have wf12587 : lb_W f12587 (g12525.toInt + 1) (p12141.toInt) (p12140.toInt) := lb_Wext hf12587 x12527 (by omega) (lb_Mod0 (by omega) (by omega)) qu12586
                obtain ⟨z12588, hz12588⟩ : ∃ z : Int32, z = g12525 + Int32.ofInt 1 := ⟨_, rfl⟩
                have ez12588 : z12588.toInt = g12525.toInt + 1 := gI_inc hz12588 (by decide) bg12525' (by decide) (by decide)
                have bz12588 : gB z12588 1 12 := ⟨by omega, by omega⟩
                refine G_iinc (L' := [(5, .int z12588), (6, .long u12572), (4, .int z12163), (3, .int z12162), (0, .ref q12124), (1, .ref q12125), (2, .int p12139)]) z12588 1 d_cX5_enterBehind_103 rfl hz12588.symm (Nat.le_of_ble_eq_true rfl) rfl ?_
                refine G_goto 18 d_cX5_enterBehind_106 (by decide +kernel) ?_
                refine G_lv (L' := [(5, .int z12588), (4, .int z12163), (3, .int z12162), (0, .ref q12124), (1, .ref q12125), (2, .int p12139)]) [0, 2, 3, 4, 5, 6] rfl ?_
                exact ih18_12527 z12588 f12587 (gB_w bz12588 (by decide) (by decide)) (lb_Wle wf12587 (by omega)) (fun k e1 ht => kt18_12527 k e1 (fun R c1 c2 c3 c4 c5 c6 c7 c8 c9 c10 => c10 g12525 f12526 z12570 z12571 u12572 z12583 z12584 u12585 u12586 f12587 z12588 k e1 bg12525 r12531 r12550 r12569 ez12570 ez12571 hu12572 r12577 r12582 ez12583 ez12584 hu12585 hu12586 hf12587 ez12588 (ht R c1 c2 c3 c4 c5 c6 c7 c8 c9 c10))) (by omega)
  exact hlp18_12527 (((13 : Int) - 0).toNat + 1) 0 f12149 (gB_w (gBl (show Int32.toInt 0 = 0 by decide)) (by decide) (by decide)) lb_W0 (fun k e1 ht => ht) (Nat.lt_succ_self _)
/- tl_Live_sweep_22: l4, l2, Live_in; out: l2, Live_in -/
def tl_Live_sweep_22 (Live_words : Int32) (l3_1 : Int32) (Live_used : Nat → Int64) (c1 : Nat → Int64) (Live_set : Nat → Int64) (s1 : Int32) (s2 : Int32) (s3 : Nat → Int64) (k : Nat) (e1 : Int32) (e2 : Nat → Int64) : Prop := ∀ R : (Int32) → (Int32) → (Nat → Int64) → Nat → (Int32) → (Nat → Int64) → Prop,
  (∀ (l4_2 : Int32) (l2_2 : Int32) (Live_in_2 : Nat → Int64), gB l4_2 0 12 → gB l2_2 0 1 → Live_words.toInt ≤ l4_2.toInt → R l4_2 l2_2 Live_in_2 109 l2_2 Live_in_2) →
  (∀ (l4_2 : Int32) (l2_2 : Int32) (Live_in_2 : Nat → Int64) (x1 : Int32) (x2 : Int32) (x3 : Int64) (x4 : Int64) (x5 : Int64) (x6 : Int64) (x7 : Int64) (x8 : Int64) (x9 : Nat → Int64) (x10 : Int32) (k : Nat) (e1 : Int32) (e2 : Nat → Int64), gB l4_2 0 12 → gB l2_2 0 1 → l4_2.toInt < Live_words.toInt → x1.toInt = l3_1.toInt * Live_words.toInt → x2.toInt = x1.toInt + l4_2.toInt → x3 = Live_used x2.toNatClampNeg → x4 = c1 l4_2.toNatClampNeg → x5 = Live_set x2.toNatClampNeg → x6 = x5 ^^^ (-1 : Int64) → x7 = x4 &&& x6 → x8 = x3 ||| x7 → l2_2.toInt ≠ 0 → x9 = vp_updL Live_in_2 x2.toNatClampNeg x8 → x10.toInt = l4_2.toInt + 1 → R x10 (1 : Int32) x9 k e1 e2 → R l4_2 l2_2 Live_in_2 k e1 e2) →
  (∀ (l4_2 : Int32) (l2_2 : Int32) (Live_in_2 : Nat → Int64) (x1 : Int32) (x2 : Int32) (x3 : Int64) (x4 : Int64) (x5 : Int64) (x6 : Int64) (x7 : Int64) (x8 : Int64) (x9 : Int64) (x10 : Nat → Int64) (x11 : Int32) (k : Nat) (e1 : Int32) (e2 : Nat → Int64), gB l4_2 0 12 → gB l2_2 0 1 → l4_2.toInt < Live_words.toInt → x1.toInt = l3_1.toInt * Live_words.toInt → x2.toInt = x1.toInt + l4_2.toInt → x3 = Live_used x2.toNatClampNeg → x4 = c1 l4_2.toNatClampNeg → x5 = Live_set x2.toNatClampNeg → x6 = x5 ^^^ (-1 : Int64) → x7 = x4 &&& x6 → x8 = x3 ||| x7 → l2_2.toInt = 0 → x9 = Live_in_2 x2.toNatClampNeg → x8 = x9 → x10 = vp_updL Live_in_2 x2.toNatClampNeg x8 → x11.toInt = l4_2.toInt + 1 → R x11 (0 : Int32) x10 k e1 e2 → R l4_2 l2_2 Live_in_2 k e1 e2) →
  (∀ (l4_2 : Int32) (l2_2 : Int32) (Live_in_2 : Nat → Int64) (x1 : Int32) (x2 : Int32) (x3 : Int64) (x4 : Int64) (x5 : Int64) (x6 : Int64) (x7 : Int64) (x8 : Int64) (x9 : Int64) (x10 : Nat → Int64) (x11 : Int32) (k : Nat) (e1 : Int32) (e2 : Nat → Int64), gB l4_2 0 12 → gB l2_2 0 1 → l4_2.toInt < Live_words.toInt → x1.toInt = l3_1.toInt * Live_words.toInt → x2.toInt = x1.toInt + l4_2.toInt → x3 = Live_used x2.toNatClampNeg → x4 = c1 l4_2.toNatClampNeg → x5 = Live_set x2.toNatClampNeg → x6 = x5 ^^^ (-1 : Int64) → x7 = x4 &&& x6 → x8 = x3 ||| x7 → l2_2.toInt = 0 → x9 = Live_in_2 x2.toNatClampNeg → (¬ x8 = x9) → x10 = vp_updL Live_in_2 x2.toNatClampNeg x8 → x11.toInt = l4_2.toInt + 1 → R x11 (1 : Int32) x10 k e1 e2 → R l4_2 l2_2 Live_in_2 k e1 e2) →
  R s1 s2 s3 k e1 e2
/- tl_Live_sweep_9: l3, Live_now, l2, Live_in; out: l2, Live_in, Live_now -/
def tl_Live_sweep_9 (Live_words : Int32) (Code_blocks : Int32) (Code_firstGoal : Nat → Int32) (Code_secondGoal : Nat → Int32) (Live_used : Nat → Int64) (Live_set : Nat → Int64) (s1 : Int32) (s2 : Nat → Int64) (s3 : Int32) (s4 : Nat → Int64) (k : Nat) (e1 : Int32) (e2 : Nat → Int64) (e3 : Nat → Int64) : Prop := ∀ R : (Int32) → (Nat → Int64) → (Int32) → (Nat → Int64) → Nat → (Int32) → (Nat → Int64) → (Nat → Int64) → Prop,
  (∀ (l3_1 : Int32) (Live_now_1 : Nat → Int64) (l2_1 : Int32) (Live_in_1 : Nat → Int64), gB l3_1 (-1) 39 → gB l2_1 0 1 → l3_1.toInt < 0 → R l3_1 Live_now_1 l2_1 Live_in_1 115 l2_1 Live_in_1 Live_now_1) →
  (∀ (l3_1 : Int32) (Live_now_1 : Nat → Int64) (l2_1 : Int32) (Live_in_1 : Nat → Int64) (x1 : Nat → Int64) (x2 : Int32) (x3 : Nat → Int64) (x4 : Int32) (k : Nat) (e1 : Int32) (e2 : Nat → Int64) (e3 : Nat → Int64), gB l3_1 (-1) 39 → gB l2_1 0 1 → 0 ≤ l3_1.toInt → tr_Live_enterBehind l3_1 Live_words Code_blocks Live_in_1 Live_now_1 Code_firstGoal Code_secondGoal x1 → tl_Live_sweep_22 Live_words l3_1 Live_used x1 Live_set (0 : Int32) l2_1 Live_in_1 109 x2 x3 → x4.toInt = l3_1.toInt + (-1) → R x4 x1 x2 x3 k e1 e2 e3 → R l3_1 Live_now_1 l2_1 Live_in_1 k e1 e2 e3) →
  R s1 s2 s3 s4 k e1 e2 e3
/- tr_Live_sweep: result, Live_in, Live_now -/
def tr_Live_sweep (Live_words : Int32) (Code_blocks : Int32) (Live_in : Nat → Int64) (Live_used : Nat → Int64) (Live_set : Nat → Int64) (Live_now : Nat → Int64) (Code_firstGoal : Nat → Int32) (Code_secondGoal : Nat → Int32) (o1 : Int32) (o2 : Nat → Int64) (o3 : Nat → Int64) : Prop := ∀ R : (Int32) → (Nat → Int64) → (Nat → Int64) → Prop,
  (∀ (x1 : Int32) (x2 : Int32) (x3 : Nat → Int64) (x4 : Nat → Int64), x1.toInt = Code_blocks.toInt - 1 → tl_Live_sweep_9 Live_words Code_blocks Code_firstGoal Code_secondGoal Live_used Live_set x1 Live_now (0 : Int32) Live_in 115 x2 x3 x4 → R x2 x3 x4) →
  R o1 o2 o3
abbrev ky_12119_Live_sweep : gKey := (cX5_sweep, 8, yX5_sweep.cls, (some FieldType.boolean), [], yX5_sweep.name, fun _ _ => True)
abbrev po_12119_Live_sweep (I : FieldType → ClassId) (q12082 : Nat) (q12083 : Nat) (q12084 : Nat) (q12085 : Nat) (q12086 : Nat) (q12087 : Nat) (q12088 : Nat) (q12089 : Nat) (q12090 : Nat) (q12091 : Nat) (q12092 : Nat) (q12093 : Nat) (q12094 : Nat) (q12095 : Nat) (q12096 : Nat) (p12097 : Int32) (p12098 : Int32) (p12099 : Int32) (p12100 : Int32) (p12101 : Int32) (p12102 : Int32) (f12103 : Nat → Int64) (f12104 : Nat → Int64) (f12105 : Nat → Int64) (f12106 : Nat → Int64) (f12107 : Nat → Int32) (f12108 : Nat → Int32) (f12109 : Nat → Int32) (f12110 : Nat → Int32) (f12111 : Nat → Int32) (f12112 : Nat → Int32) (f12113 : Nat → Int32) (f12114 : Nat → Int32) (f12115 : Nat → Int32) : Option Value → va_W → Prop := fun r w => ∃ (o13209 : Int32) (f13207 : Nat → Int64) (f13208 : Nat → Int64), r = some (.int o13209) ∧ w = [(q12082, .inr (10, [.ref q12084, .ref q12085, .ref q12086, .ref q12087, .int p12097, .int p12098, .int p12099])), (q12083, .inr (5, [.ref q12088, .ref q12089, .ref q12090, .ref q12091, .ref q12092, .ref q12093, .ref q12094, .ref q12095, .ref q12096, .int p12100, .int p12101, .int p12102])), (q12084, .inl (I .long, 480, .inr (.inl f13207))), (q12085, .inl (I .long, 480, .inr (.inl f12104))), (q12086, .inl (I .long, 480, .inr (.inl f12105))), (q12087, .inl (I .long, 12, .inr (.inl f13208))), (q12088, .inl (I .int, 40, .inl f12107)), (q12089, .inl (I .int, 40, .inl f12108)), (q12090, .inl (I .int, 40, .inl f12109)), (q12091, .inl (I .int, 200, .inl f12110)), (q12092, .inl (I .int, 200, .inl f12111)), (q12093, .inl (I .int, 200, .inl f12112)), (q12094, .inl (I .int, 200, .inl f12113)), (q12095, .inl (I .int, 200, .inl f12114)), (q12096, .inl (I .int, 200, .inl f12115))] ∧ gB o13209 0 1 ∧ lb_W f13207 (p12100.toInt * p12098.toInt) (p12098.toInt) (p12097.toInt) ∧ tr_Live_sweep p12098 p12100 f12103 f12104 f12105 f12106 f12108 f12109 o13209 f13207 f13208
set_option maxRecDepth 100000 in
set_option maxHeartbeats 4000000 in
theorem ct_12119_Live_sweep (l : Launch) (hl0 : l.stackTraces = false) (D : va_G) (I : FieldType → ClassId) (q12082 : Nat) (q12083 : Nat) (q12084 : Nat) (q12085 : Nat) (q12086 : Nat) (q12087 : Nat) (q12088 : Nat) (q12089 : Nat) (q12090 : Nat) (q12091 : Nat) (q12092 : Nat) (q12093 : Nat) (q12094 : Nat) (q12095 : Nat) (q12096 : Nat) (p12097 : Int32) (p12098 : Int32) (p12099 : Int32) (p12100 : Int32) (p12101 : Int32) (p12102 : Int32) (f12103 : Nat → Int64) (f12104 : Nat → Int64) (f12105 : Nat → Int64) (f12106 : Nat → Int64) (f12107 : Nat → Int32) (f12108 : Nat → Int32) (f12109 : Nat → Int32) (f12110 : Nat → Int32) (f12111 : Nat → Int32) (f12112 : Nat → Int32) (f12113 : Nat → Int32) (f12114 : Nat → Int32) (f12115 : Nat → Int32) (bp12097 : gB p12097 0 720) (bp12098 : gB p12098 0 12) (bp12099 : gB p12099 0 1) (bp12100 : gB p12100 0 40) (bp12101 : gB p12101 0 200) (bp12102 : gB p12102 0 1) (bf12107 : gF f12107 0 200) (bf12110 : gF f12110 0 21) (x12116 : lb_W f12103 (p12100.toInt * p12098.toInt) (p12098.toInt) (p12097.toInt)) (x12117 : lb_W f12104 (p12100.toInt * p12098.toInt) (p12098.toInt) (p12097.toInt)) (x12118 : p12098.toInt = (p12097.toInt + 63) / 64) : Ct (gV D I) l yX5_sweep cX5_sweep 8 (some FieldType.boolean) 1 27 0 0 [.ref q12082, .ref q12083] [(q12082, .inr (10, [.ref q12084, .ref q12085, .ref q12086, .ref q12087, .int p12097, .int p12098, .int p12099])), (q12083, .inr (5, [.ref q12088, .ref q12089, .ref q12090, .ref q12091, .ref q12092, .ref q12093, .ref q12094, .ref q12095, .ref q12096, .int p12100, .int p12101, .int p12102])), (q12084, .inl (I .long, 480, .inr (.inl f12103))), (q12085, .inl (I .long, 480, .inr (.inl f12104))), (q12086, .inl (I .long, 480, .inr (.inl f12105))), (q12087, .inl (I .long, 12, .inr (.inl f12106))), (q12088, .inl (I .int, 40, .inl f12107)), (q12089, .inl (I .int, 40, .inl f12108)), (q12090, .inl (I .int, 40, .inl f12109)), (q12091, .inl (I .int, 200, .inl f12110)), (q12092, .inl (I .int, 200, .inl f12111)), (q12093, .inl (I .int, 200, .inl f12112)), (q12094, .inl (I .int, 200, .inl f12113)), (q12095, .inl (I .int, 200, .inl f12114)), (q12096, .inl (I .int, 200, .inl f12115))] (po_12119_Live_sweep I q12082 q12083 q12084 q12085 q12086 q12087 q12088 q12089 q12090 q12091 q12092 q12093 q12094 q12095 q12096 p12097 p12098 p12099 p12100 p12101 p12102 f12103 f12104 f12105 f12106 f12107 f12108 f12109 f12110 f12111 f12112 f12113 f12114 f12115) gN := by
  refine Ct_of hl0 (by decide) (Nat.le_of_ble_eq_true rfl) ?_
  refine G_iconst 0 d_cX5_sweep_0 (by decide +kernel) ?_
  refine G_istore_n (L' := [(2, .int 0), (0, .ref q12082), (1, .ref q12083)]) d_cX5_sweep_1 (Nat.le_of_ble_eq_true rfl) rfl ?_
  refine G_aload_n 2 d_cX5_sweep_2 rfl ?_
  refine G_getfN 1 9 d_cX5_sweep_3 rfl (gk_X0 D I) (Nat.le_of_ble_eq_true rfl) (fun _ _ _ h => gn_w 37 rfl h) rfl ?_
  refine G_iconst 1 d_cX5_sweep_6 (by decide +kernel) ?_
  refine G_isub d_cX5_sweep_7 (G_nam fun z12120 hz12120 => ?_)
  have ez12120 : z12120.toInt = p12100.toInt - 1 := by rw [gI_sub hz12120 bp12100 (gBl (show Int32.toInt 1 = 1 by decide)) (by decide) (by decide), show Int32.toInt 1 = 1 from by decide]
  have bz12120 : gB z12120 (-1) 39 := gB_sub (gI_sub hz12120 bp12100 (gBl (show Int32.toInt 1 = 1 by decide)) (by decide) (by decide)) bp12100 (gBl (show Int32.toInt 1 = 1 by decide)) (by decide) (by decide)
  refine G_istore_n (L' := [(3, .int z12120), (2, .int 0), (0, .ref q12082), (1, .ref q12083)]) d_cX5_sweep_8 (Nat.le_of_ble_eq_true rfl) rfl ?_
  have hlp9_13000 : ∀ (n9_13000 : Nat) (g12995 : Int32) (f12996 : Nat → Int64) (g12997 : Int32) (f12998 : Nat → Int64), gB g12995 (-1) 39 → gB g12997 0 1 → g12995.toInt < p12100.toInt → lb_W f12998 (p12100.toInt * p12098.toInt) (p12098.toInt) (p12097.toInt) → (∀ (k : Nat) (e1 : Int32) (e2 : Nat → Int64) (e3 : Nat → Int64), tl_Live_sweep_9 p12098 p12100 f12108 f12109 f12104 f12105 g12995 f12996 g12997 f12998 k e1 e2 e3 → tl_Live_sweep_9 p12098 p12100 f12108 f12109 f12104 f12105 z12120 f12106 (0 : Int32) f12103 k e1 e2 e3) → ((g12995.toInt : Int) - (-2)).toNat < n9_13000 → G (gV D I) l (gRm 1 27 0 0) (gM (gV D I) (po_12119_Live_sweep I q12082 q12083 q12084 q12085 q12086 q12087 q12088 q12089 q12090 q12091 q12092 q12093 q12094 q12095 q12096 p12097 p12098 p12099 p12100 p12101 p12102 f12103 f12104 f12105 f12106 f12107 f12108 f12109 f12110 f12111 f12112 f12113 f12114 f12115) gN 0 0) ky_12119_Live_sweep 9 [(3, .int g12995), (2, .int g12997), (0, .ref q12082), (1, .ref q12083)] [] [(q12082, .inr (10, [.ref q12084, .ref q12085, .ref q12086, .ref q12087, .int p12097, .int p12098, .int p12099])), (q12083, .inr (5, [.ref q12088, .ref q12089, .ref q12090, .ref q12091, .ref q12092, .ref q12093, .ref q12094, .ref q12095, .ref q12096, .int p12100, .int p12101, .int p12102])), (q12084, .inl (I .long, 480, .inr (.inl f12998))), (q12085, .inl (I .long, 480, .inr (.inl f12104))), (q12086, .inl (I .long, 480, .inr (.inl f12105))), (q12087, .inl (I .long, 12, .inr (.inl f12996))), (q12088, .inl (I .int, 40, .inl f12107)), (q12089, .inl (I .int, 40, .inl f12108)), (q12090, .inl (I .int, 40, .inl f12109)), (q12091, .inl (I .int, 200, .inl f12110)), (q12092, .inl (I .int, 200, .inl f12111)), (q12093, .inl (I .int, 200, .inl f12112)), (q12094, .inl (I .int, 200, .inl f12113)), (q12095, .inl (I .int, 200, .inl f12114)), (q12096, .inl (I .int, 200, .inl f12115))] 0 0 := by
    intro n9_13000
    induction n9_13000 with
    | zero => intro g12995 f12996 g12997 f12998 bg12995 bg12997 x12999 x13000 kt9_13000 hm9_13000; exact absurd hm9_13000 (Nat.not_lt_zero _)
    | succ n9_13000 ih9_13000 =>
      intro g12995 f12996 g12997 f12998 bg12995 bg12997 x12999 x13000 kt9_13000 hm9_13000
      refine G_iload_n 0 d_cX5_sweep_9 rfl ?_
      refine G_if_lt 115 d_cX5_sweep_10 (by decide +kernel) (fun hc13001 => ?_) (fun hc13001 => ?_)
      · have r13002 : g12995.toInt < 0 := gj_lt hc13001 (show Int32.toInt 0 = 0 by decide)
        have bg12995' : gB g12995 (-1) (-1) := ⟨by omega, by omega⟩
        have hx13003 : tl_Live_sweep_9 p12098 p12100 f12108 f12109 f12104 f12105 z12120 f12106 (0 : Int32) f12103 115 g12997 f12998 f12996 := kt9_13000 115 g12997 f12998 f12996 (fun R c1 c2 => c1 g12995 f12996 g12997 f12998 bg12995 bg12997 r13002)
        refine G_iload_n 1 d_cX5_sweep_115 rfl ?_
        exact G_zret FieldType.boolean d_cX5_sweep_116 rfl (gN_bool bg12997) (Nat.le_of_ble_eq_true rfl) (Nat.le_of_ble_eq_true rfl) ⟨g12997, f12998, f12996, rfl, rfl, bg12997, x13000, (fun R c1 => c1 z12120 g12997 f12998 f12996 ez12120 hx13003)⟩
      · have r13004 : 0 ≤ g12995.toInt := gj_nlt hc13001 (show Int32.toInt 0 = 0 by decide)
        have bg12995' : gB g12995 0 39 := ⟨by omega, by omega⟩
        refine G_aload_n 2 d_cX5_sweep_13 rfl ?_
        refine G_aload_n 3 d_cX5_sweep_14 rfl ?_
        refine G_iload_n 0 d_cX5_sweep_15 rfl ?_
        refine G_callV (As := [.ref q12083, .int g12995]) (wr := []) (gV_ok D I) (ct_12161_Live_enterBehind l hl0 D I q12082 q12083 q12084 q12085 q12086 q12087 q12088 q12089 q12090 q12091 q12092 q12093 q12094 q12095 q12096 g12995 p12097 p12098 p12099 p12100 p12101 p12102 f12998 f12104 f12105 f12996 f12107 f12108 f12109 f12110 f12111 f12112 f12113 f12114 f12115 bg12995' bp12097 bp12098 bp12099 bp12100 bp12101 bp12102 bf12107 bf12110 x13000 (by omega)) d_cX5_sweep_16 ⟨w_4_64, w_1_10, w_4_67, by decide, rfl, (Nat.le_of_ble_eq_true rfl), (Nat.le_of_ble_eq_true rfl)⟩ w_4_65 w_4_66 0 rfl rfl [0, 1, 2, 3, 4, 5, 6, 7, 8, 9, 10, 11, 12, 13, 14] [] rfl rfl rfl rfl (by decide) (Nat.le_of_ble_eq_true rfl) (Nat.le_of_ble_eq_true rfl) (Nat.le_of_ble_eq_true rfl) (fun r w hp => ?_) (fun _ _ _ z => z.elim)
        obtain ⟨f13005, rfl, rfl, x13006, ht13007⟩ := hp
        change G _ _ _ _ _ _ _ _ _ _ _
        refine G_ws (ws' := [(q12082, .inr (10, [.ref q12084, .ref q12085, .ref q12086, .ref q12087, .int p12097, .int p12098, .int p12099])), (q12083, .inr (5, [.ref q12088, .ref q12089, .ref q12090, .ref q12091, .ref q12092, .ref q12093, .ref q12094, .ref q12095, .ref q12096, .int p12100, .int p12101, .int p12102])), (q12084, .inl (I .long, 480, .inr (.inl f12998))), (q12085, .inl (I .long, 480, .inr (.inl f12104))), (q12086, .inl (I .long, 480, .inr (.inl f12105))), (q12087, .inl (I .long, 12, .inr (.inl f13005))), (q12088, .inl (I .int, 40, .inl f12107)), (q12089, .inl (I .int, 40, .inl f12108)), (q12090, .inl (I .int, 40, .inl f12109)), (q12091, .inl (I .int, 200, .inl f12110)), (q12092, .inl (I .int, 200, .inl f12111)), (q12093, .inl (I .int, 200, .inl f12112)), (q12094, .inl (I .int, 200, .inl f12113)), (q12095, .inl (I .int, 200, .inl f12114)), (q12096, .inl (I .int, 200, .inl f12115))]) (cs' := 0) (sl' := 0) rfl rfl rfl ?_
        refine G_iconst 0 d_cX5_sweep_19 (by decide +kernel) ?_
        refine G_istore (L' := [(4, .int 0), (3, .int g12995), (2, .int g12997), (0, .ref q12082), (1, .ref q12083)]) d_cX5_sweep_20 (Nat.le_of_ble_eq_true rfl) rfl ?_
        have hlp22_13179 : ∀ (n22_13179 : Nat) (g13176 : Int32) (g13177 : Int32) (f13178 : Nat → Int64), gB g13176 0 12 → gB g13177 0 1 → lb_W f13178 (p12100.toInt * p12098.toInt) (p12098.toInt) (p12097.toInt) → (∀ (k : Nat) (e1 : Int32) (e2 : Nat → Int64), tl_Live_sweep_22 p12098 g12995 f12104 f13005 f12105 g13176 g13177 f13178 k e1 e2 → tl_Live_sweep_22 p12098 g12995 f12104 f13005 f12105 (0 : Int32) g12997 f12998 k e1 e2) → ((13 : Int) - g13176.toInt).toNat < n22_13179 → G (gV D I) l (gRm 1 27 0 0) (gM (gV D I) (po_12119_Live_sweep I q12082 q12083 q12084 q12085 q12086 q12087 q12088 q12089 q12090 q12091 q12092 q12093 q12094 q12095 q12096 p12097 p12098 p12099 p12100 p12101 p12102 f12103 f12104 f12105 f12106 f12107 f12108 f12109 f12110 f12111 f12112 f12113 f12114 f12115) gN 0 0) ky_12119_Live_sweep 22 [(4, .int g13176), (3, .int g12995), (2, .int g13177), (0, .ref q12082), (1, .ref q12083)] [] [(q12082, .inr (10, [.ref q12084, .ref q12085, .ref q12086, .ref q12087, .int p12097, .int p12098, .int p12099])), (q12083, .inr (5, [.ref q12088, .ref q12089, .ref q12090, .ref q12091, .ref q12092, .ref q12093, .ref q12094, .ref q12095, .ref q12096, .int p12100, .int p12101, .int p12102])), (q12084, .inl (I .long, 480, .inr (.inl f13178))), (q12085, .inl (I .long, 480, .inr (.inl f12104))), (q12086, .inl (I .long, 480, .inr (.inl f12105))), (q12087, .inl (I .long, 12, .inr (.inl f13005))), (q12088, .inl (I .int, 40, .inl f12107)), (q12089, .inl (I .int, 40, .inl f12108)), (q12090, .inl (I .int, 40, .inl f12109)), (q12091, .inl (I .int, 200, .inl f12110)), (q12092, .inl (I .int, 200, .inl f12111)), (q12093, .inl (I .int, 200, .inl f12112)), (q12094, .inl (I .int, 200, .inl f12113)), (q12095, .inl (I .int, 200, .inl f12114)), (q12096, .inl (I .int, 200, .inl f12115))] 0 0 := by
          intro n22_13179
          induction n22_13179 with
          | zero => intro g13176 g13177 f13178 bg13176 bg13177 x13179 kt22_13179 hm22_13179; exact absurd hm22_13179 (Nat.not_lt_zero _)
          | succ n22_13179 ih22_13179 =>
            intro g13176 g13177 f13178 bg13176 bg13177 x13179 kt22_13179 hm22_13179
            refine G_iload 0 d_cX5_sweep_22 rfl ?_
            refine G_aload_n 3 d_cX5_sweep_24 rfl ?_
            refine G_getf 0 5 d_cX5_sweep_25 rfl (gk_X5 D I) (Nat.le_of_ble_eq_true rfl) w_2_29 rfl ?_
            refine G_icmp_ge 109 d_cX5_sweep_28 (by decide +kernel) (fun hc13180 => ?_) (fun hc13180 => ?_)
            · have r13181 : p12098.toInt ≤ g13176.toInt := gC_le hc13180
              have hx13182 : tl_Live_sweep_22 p12098 g12995 f12104 f13005 f12105 (0 : Int32) g12997 f12998 109 g13177 f13178 := kt22_13179 109 g13177 f13178 (fun R c1 c2 c3 c4 => c1 g13176 g13177 f13178 bg13176 bg13177 r13181)
              obtain ⟨z13183, hz13183⟩ : ∃ z : Int32, z = g12995 + Int32.ofInt (-1) := ⟨_, rfl⟩
              have ez13183 : z13183.toInt = g12995.toInt + (-1) := gI_inc hz13183 (by decide) bg12995' (by decide) (by decide)
              have bz13183 : gB z13183 (-1) 38 := ⟨by omega, by omega⟩
              refine G_iinc (L' := [(3, .int z13183), (4, .int g13176), (2, .int g13177), (0, .ref q12082), (1, .ref q12083)]) z13183 1 d_cX5_sweep_109 rfl hz13183.symm (Nat.le_of_ble_eq_true rfl) rfl ?_
              refine G_goto 9 d_cX5_sweep_112 (by decide +kernel) ?_
              refine G_lv (L' := [(3, .int z13183), (2, .int g13177), (0, .ref q12082), (1, .ref q12083)]) [0, 2, 3, 4] rfl ?_
              exact ih9_13000 z13183 f13005 g13177 f13178 (gB_w bz13183 (by decide) (by decide)) bg13177 (by omega) x13179 (fun k e1 e2 e3 ht => kt9_13000 k e1 e2 e3 (fun R c1 c2 => c2 g12995 f12996 g12997 f12998 f13005 g13177 f13178 z13183 k e1 e2 e3 bg12995 bg12997 r13004 ht13007 hx13182 ez13183 (ht R c1 c2))) (by omega)
            · have r13184 : g13176.toInt < p12098.toInt := gC_nle hc13180
              have bg13176' : gB g13176 0 11 := ⟨by omega, by omega⟩
              have bp12098' : gB p12098 1 12 := ⟨by omega, by omega⟩
              refine G_iload_n 1 d_cX5_sweep_31 rfl ?_
              refine G_aload_n 3 d_cX5_sweep_32 rfl ?_
              refine G_getf 0 5 d_cX5_sweep_33 rfl (gk_X5 D I) (Nat.le_of_ble_eq_true rfl) w_2_29 rfl ?_
              refine G_imul d_cX5_sweep_36 (G_nam fun z13185 hz13185 => ?_)
              have ez13185 : z13185.toInt = g12995.toInt * p12098.toInt := by rw [gI_mul hz13185 bg12995' bp12098' (by decide) (by decide) (by decide)]
              have bz13185 : gB z13185 0 468 := gB_mul hz13185 bg12995' bp12098' (by decide) (by decide) (by decide) (by decide)
              refine G_iload 0 d_cX5_sweep_37 rfl ?_
              refine G_iadd d_cX5_sweep_39 (G_nam fun z13186 hz13186 => ?_)
              have ez13186 : z13186.toInt = z13185.toInt + g13176.toInt := by rw [gI_add hz13186 bz13185 bg13176' (by decide) (by decide)]
              have bz13186 : gB z13186 0 479 := gB_add (gI_add hz13186 bz13185 bg13176' (by decide) (by decide)) bz13185 bg13176' (by decide) (by decide)
              refine G_istore (L' := [(5, .int z13186), (4, .int g13176), (3, .int g12995), (2, .int g13177), (0, .ref q12082), (1, .ref q12083)]) d_cX5_sweep_40 (Nat.le_of_ble_eq_true rfl) rfl ?_
              refine G_aload_n 4 d_cX5_sweep_42 rfl ?_
              refine G_getf 0 1 d_cX5_sweep_43 rfl (gk_X5 D I) (Nat.le_of_ble_eq_true rfl) w_2_23 rfl ?_
              refine G_iload 0 d_cX5_sweep_46 rfl ?_
              refine G_lald 3 2 d_cX5_sweep_48 rfl rfl (gB_in bz13186 (by decide) (by decide)) (G_namL fun u13187 hu13187 => ?_)
              have qu13187 : lb_Q u13187 (p12097.toInt - 64 * g13176.toInt) := lb_Wld hu13187 x12117 (by omega) (lb_Lt1 ez13186 ez13185 (by omega) (by omega) (by omega)) (lb_Mod1 ez13186 ez13185 (by omega) (by omega))
              refine G_aload_n 4 d_cX5_sweep_49 rfl ?_
              refine G_getf 0 3 d_cX5_sweep_50 rfl (gk_X5 D I) (Nat.le_of_ble_eq_true rfl) w_2_25 rfl ?_
              refine G_iload 1 d_cX5_sweep_53 rfl ?_
              refine G_lald 5 2 d_cX5_sweep_55 rfl rfl (gB_in bg13176' (by decide) (by decide)) (G_namL fun u13188 hu13188 => ?_)
              have qu13188 : lb_Q u13188 (p12097.toInt - 64 * g13176.toInt) := lb_Wld hu13188 x13006 (by omega) (by omega) (lb_Mod0 (by omega) (by omega))
              refine G_aload_n 4 d_cX5_sweep_56 rfl ?_
              refine G_getf 0 2 d_cX5_sweep_57 rfl (gk_X5 D I) (Nat.le_of_ble_eq_true rfl) w_2_24 rfl ?_
              refine G_iload 0 d_cX5_sweep_60 rfl ?_
              refine G_lald 4 2 d_cX5_sweep_62 rfl rfl (gB_in bz13186 (by decide) (by decide)) (G_namL fun u13189 hu13189 => ?_)
              refine G_ldc2 (-1) d_cX5_sweep_63 w_4_47 ?_
              refine G_lxor d_cX5_sweep_66 (G_namL fun u13190 hu13190 => ?_)
              refine G_land d_cX5_sweep_67 (G_namL fun u13191 hu13191 => ?_)
              have qu13191 : lb_Q u13191 (p12097.toInt - 64 * g13176.toInt) := lb_QandL hu13191 qu13188
              refine G_lor d_cX5_sweep_68 (G_namL fun u13192 hu13192 => ?_)
              have qu13192 : lb_Q u13192 (p12097.toInt - 64 * g13176.toInt) := lb_Qor hu13192 qu13187 qu13191
              refine G_lstore (L' := [(6, .long u13192), (5, .int z13186), (4, .int g13176), (3, .int g12995), (2, .int g13177), (0, .ref q12082), (1, .ref q12083)]) d_cX5_sweep_69 (Nat.le_of_ble_eq_true rfl) rfl ?_
              refine G_iload_n 4 d_cX5_sweep_71 rfl ?_
              refine G_if_ne 88 d_cX5_sweep_72 (by decide +kernel) (fun hc13193 => ?_) (fun hc13193 => ?_)
              · have r13194 : g13177.toInt ≠ 0 := gj_neq hc13193 (show Int32.toInt 0 = 0 by decide)
                have bg13177' : gB g13177 1 1 := ⟨by omega, by omega⟩
                refine G_iconst 1 d_cX5_sweep_88 (by decide +kernel) ?_
                refine G_goto 93 d_cX5_sweep_89 (by decide +kernel) ?_
                refine G_istore_n (L' := [(2, .int 1), (6, .long u13192), (5, .int z13186), (4, .int g13176), (3, .int g12995), (0, .ref q12082), (1, .ref q12083)]) d_cX5_sweep_93 (Nat.le_of_ble_eq_true rfl) rfl ?_
                refine G_aload_n 5 d_cX5_sweep_94 rfl ?_
                refine G_getf 0 0 d_cX5_sweep_95 rfl (gk_X5 D I) (Nat.le_of_ble_eq_true rfl) w_2_22 rfl ?_
                refine G_iload 2 d_cX5_sweep_98 rfl ?_
                refine G_lload 1 d_cX5_sweep_100 rfl ?_
                refine G_lastN 2 2 d_cX5_sweep_102 rfl rfl (gB_in bz13186 (by decide) (by decide)) (fun f13195 hf13195 => ?_)
                refine G_ws (ws' := [(q12082, .inr (10, [.ref q12084, .ref q12085, .ref q12086, .ref q12087, .int p12097, .int p12098, .int p12099])), (q12083, .inr (5, [.ref q12088, .ref q12089, .ref q12090, .ref q12091, .ref q12092, .ref q12093, .ref q12094, .ref q12095, .ref q12096, .int p12100, .int p12101, .int p12102])), (q12084, .inl (I .long, 480, .inr (.inl f13195))), (q12085, .inl (I .long, 480, .inr (.inl f12104))), (q12086, .inl (I .long, 480, .inr (.inl f12105))), (q12087, .inl (I .long, 12, .inr (.inl f13005))), (q12088, .inl (I .int, 40, .inl f12107)), (q12089, .inl (I .int, 40, .inl f12108)), (q12090, .inl (I .int, 40, .inl f12109)), (q12091, .inl (I .int, 200, .inl f12110)), (q12092, .inl (I .int, 200, .inl f12111)), (q12093, .inl (I .int, 200, .inl f12112)), (q12094, .inl (I .int, 200, .inl f12113)), (q12095, .inl (I .int, 200, .inl f12114)), (q12096, .inl (I .int, 200, .inl f12115))]) (cs' := 0) (sl' := 0) rfl rfl rfl ?_
                have wf13195 : lb_W f13195 (p12100.toInt * p12098.toInt) (p12098.toInt) (p12097.toInt) := lb_Wst hf13195 x13179 (by omega) (lb_Mod1 ez13186 ez13185 (by omega) (by omega)) qu13192
                obtain ⟨z13196, hz13196⟩ : ∃ z : Int32, z = g13176 + Int32.ofInt 1 := ⟨_, rfl⟩
                have ez13196 : z13196.toInt = g13176.toInt + 1 := gI_inc hz13196 (by decide) bg13176' (by decide) (by decide)
                have bz13196 : gB z13196 1 12 := ⟨by omega, by omega⟩
                refine G_iinc (L' := [(4, .int z13196), (2, .int 1), (6, .long u13192), (5, .int z13186), (3, .int g12995), (0, .ref q12082), (1, .ref q12083)]) z13196 3 d_cX5_sweep_103 rfl hz13196.symm (Nat.le_of_ble_eq_true rfl) rfl ?_
                refine G_goto 22 d_cX5_sweep_106 (by decide +kernel) ?_
                refine G_lv (L' := [(4, .int z13196), (3, .int g12995), (2, .int 1), (0, .ref q12082), (1, .ref q12083)]) [0, 4, 1, 5, 6] rfl ?_
                exact ih22_13179 z13196 1 f13195 (gB_w bz13196 (by decide) (by decide)) (gB_w (gBl (show Int32.toInt 1 = 1 by decide)) (by decide) (by decide)) wf13195 (fun k e1 e2 ht => kt22_13179 k e1 e2 (fun R c1 c2 c3 c4 => c2 g13176 g13177 f13178 z13185 z13186 u13187 u13188 u13189 u13190 u13191 u13192 f13195 z13196 k e1 e2 bg13176 bg13177 r13184 ez13185 ez13186 hu13187 hu13188 hu13189 hu13190 hu13191 hu13192 r13194 hf13195 ez13196 (ht R c1 c2 c3 c4))) (by have qa0 : Int32.toInt 1 = 1 := (by decide); omega)
              · have r13197 : g13177.toInt = 0 := gj_eq hc13193 (show Int32.toInt 0 = 0 by decide)
                have bg13177' : gB g13177 0 0 := ⟨by omega, by omega⟩
                refine G_lload 0 d_cX5_sweep_75 rfl ?_
                refine G_aload_n 5 d_cX5_sweep_77 rfl ?_
                refine G_getf 0 0 d_cX5_sweep_78 rfl (gk_X5 D I) (Nat.le_of_ble_eq_true rfl) w_2_22 rfl ?_
                refine G_iload 1 d_cX5_sweep_81 rfl ?_
                refine G_lald 2 2 d_cX5_sweep_83 rfl rfl (gB_in bz13186 (by decide) (by decide)) (G_namL fun u13198 hu13198 => ?_)
                have qu13198 : lb_Q u13198 (p12097.toInt - 64 * g13176.toInt) := lb_Wld hu13198 x13179 (by omega) (lb_Lt1 ez13186 ez13185 (by omega) (by omega) (by omega)) (lb_Mod1 ez13186 ez13185 (by omega) (by omega))
                refine G_lcmp d_cX5_sweep_84 (G_nam fun z13199 hz13199 => ?_)
                have bz13199 : gB z13199 (-1) 1 := gB_cmp hz13199
                refine G_if_eq 92 d_cX5_sweep_85 (by decide +kernel) (fun hc13200 => ?_) (fun hc13200 => ?_)
                · have r13201 : z13199.toInt = 0 := gj_eq hc13200 (show Int32.toInt 0 = 0 by decide)
                  have bz13199' : gB z13199 0 0 := ⟨by omega, by omega⟩
                  have lhc13200 := gC_cmpE hz13199 hc13200
                  refine G_iconst 0 d_cX5_sweep_92 (by decide +kernel) ?_
                  refine G_istore_n (L' := [(2, .int 0), (6, .long u13192), (5, .int z13186), (4, .int g13176), (3, .int g12995), (0, .ref q12082), (1, .ref q12083)]) d_cX5_sweep_93 (Nat.le_of_ble_eq_true rfl) rfl ?_
                  refine G_aload_n 5 d_cX5_sweep_94 rfl ?_
                  refine G_getf 0 0 d_cX5_sweep_95 rfl (gk_X5 D I) (Nat.le_of_ble_eq_true rfl) w_2_22 rfl ?_
                  refine G_iload 2 d_cX5_sweep_98 rfl ?_
                  refine G_lload 1 d_cX5_sweep_100 rfl ?_
                  refine G_lastN 2 2 d_cX5_sweep_102 rfl rfl (gB_in bz13186 (by decide) (by decide)) (fun f13202 hf13202 => ?_)
                  refine G_ws (ws' := [(q12082, .inr (10, [.ref q12084, .ref q12085, .ref q12086, .ref q12087, .int p12097, .int p12098, .int p12099])), (q12083, .inr (5, [.ref q12088, .ref q12089, .ref q12090, .ref q12091, .ref q12092, .ref q12093, .ref q12094, .ref q12095, .ref q12096, .int p12100, .int p12101, .int p12102])), (q12084, .inl (I .long, 480, .inr (.inl f13202))), (q12085, .inl (I .long, 480, .inr (.inl f12104))), (q12086, .inl (I .long, 480, .inr (.inl f12105))), (q12087, .inl (I .long, 12, .inr (.inl f13005))), (q12088, .inl (I .int, 40, .inl f12107)), (q12089, .inl (I .int, 40, .inl f12108)), (q12090, .inl (I .int, 40, .inl f12109)), (q12091, .inl (I .int, 200, .inl f12110)), (q12092, .inl (I .int, 200, .inl f12111)), (q12093, .inl (I .int, 200, .inl f12112)), (q12094, .inl (I .int, 200, .inl f12113)), (q12095, .inl (I .int, 200, .inl f12114)), (q12096, .inl (I .int, 200, .inl f12115))]) (cs' := 0) (sl' := 0) rfl rfl rfl ?_
                  have wf13202 : lb_W f13202 (p12100.toInt * p12098.toInt) (p12098.toInt) (p12097.toInt) := lb_Wst hf13202 x13179 (by omega) (lb_Mod1 ez13186 ez13185 (by omega) (by omega)) qu13192
                  obtain ⟨z13203, hz13203⟩ : ∃ z : Int32, z = g13176 + Int32.ofInt 1 := ⟨_, rfl⟩
                  have ez13203 : z13203.toInt = g13176.toInt + 1 := gI_inc hz13203 (by decide) bg13176' (by decide) (by decide)
                  have bz13203 : gB z13203 1 12 := ⟨by omega, by omega⟩
                  refine G_iinc (L' := [(4, .int z13203), (2, .int 0), (6, .long u13192), (5, .int z13186), (3, .int g12995), (0, .ref q12082), (1, .ref q12083)]) z13203 3 d_cX5_sweep_103 rfl hz13203.symm (Nat.le_of_ble_eq_true rfl) rfl ?_
                  refine G_goto 22 d_cX5_sweep_106 (by decide +kernel) ?_
                  refine G_lv (L' := [(4, .int z13203), (3, .int g12995), (2, .int 0), (0, .ref q12082), (1, .ref q12083)]) [0, 4, 1, 5, 6] rfl ?_
                  exact ih22_13179 z13203 0 f13202 (gB_w bz13203 (by decide) (by decide)) (gB_w (gBl (show Int32.toInt 0 = 0 by decide)) (by decide) (by decide)) wf13202 (fun k e1 e2 ht => kt22_13179 k e1 e2 (fun R c1 c2 c3 c4 => c3 g13176 g13177 f13178 z13185 z13186 u13187 u13188 u13189 u13190 u13191 u13192 u13198 f13202 z13203 k e1 e2 bg13176 bg13177 r13184 ez13185 ez13186 hu13187 hu13188 hu13189 hu13190 hu13191 hu13192 r13197 hu13198 lhc13200 hf13202 ez13203 (ht R c1 c2 c3 c4))) (by have qa0 : Int32.toInt 0 = 0 := (by decide); omega)
                · have r13204 : z13199.toInt ≠ 0 := gj_neq hc13200 (show Int32.toInt 0 = 0 by decide)
                  have lhc13200 := gC_cmpN hz13199 hc13200
                  refine G_iconst 1 d_cX5_sweep_88 (by decide +kernel) ?_
                  refine G_goto 93 d_cX5_sweep_89 (by decide +kernel) ?_
                  refine G_istore_n (L' := [(2, .int 1), (6, .long u13192), (5, .int z13186), (4, .int g13176), (3, .int g12995), (0, .ref q12082), (1, .ref q12083)]) d_cX5_sweep_93 (Nat.le_of_ble_eq_true rfl) rfl ?_
                  refine G_aload_n 5 d_cX5_sweep_94 rfl ?_
                  refine G_getf 0 0 d_cX5_sweep_95 rfl (gk_X5 D I) (Nat.le_of_ble_eq_true rfl) w_2_22 rfl ?_
                  refine G_iload 2 d_cX5_sweep_98 rfl ?_
                  refine G_lload 1 d_cX5_sweep_100 rfl ?_
                  refine G_lastN 2 2 d_cX5_sweep_102 rfl rfl (gB_in bz13186 (by decide) (by decide)) (fun f13205 hf13205 => ?_)
                  refine G_ws (ws' := [(q12082, .inr (10, [.ref q12084, .ref q12085, .ref q12086, .ref q12087, .int p12097, .int p12098, .int p12099])), (q12083, .inr (5, [.ref q12088, .ref q12089, .ref q12090, .ref q12091, .ref q12092, .ref q12093, .ref q12094, .ref q12095, .ref q12096, .int p12100, .int p12101, .int p12102])), (q12084, .inl (I .long, 480, .inr (.inl f13205))), (q12085, .inl (I .long, 480, .inr (.inl f12104))), (q12086, .inl (I .long, 480, .inr (.inl f12105))), (q12087, .inl (I .long, 12, .inr (.inl f13005))), (q12088, .inl (I .int, 40, .inl f12107)), (q12089, .inl (I .int, 40, .inl f12108)), (q12090, .inl (I .int, 40, .inl f12109)), (q12091, .inl (I .int, 200, .inl f12110)), (q12092, .inl (I .int, 200, .inl f12111)), (q12093, .inl (I .int, 200, .inl f12112)), (q12094, .inl (I .int, 200, .inl f12113)), (q12095, .inl (I .int, 200, .inl f12114)), (q12096, .inl (I .int, 200, .inl f12115))]) (cs' := 0) (sl' := 0) rfl rfl rfl ?_
                  have wf13205 : lb_W f13205 (p12100.toInt * p12098.toInt) (p12098.toInt) (p12097.toInt) := lb_Wst hf13205 x13179 (by omega) (lb_Mod1 ez13186 ez13185 (by omega) (by omega)) qu13192
                  obtain ⟨z13206, hz13206⟩ : ∃ z : Int32, z = g13176 + Int32.ofInt 1 := ⟨_, rfl⟩
                  have ez13206 : z13206.toInt = g13176.toInt + 1 := gI_inc hz13206 (by decide) bg13176' (by decide) (by decide)
                  have bz13206 : gB z13206 1 12 := ⟨by omega, by omega⟩
                  refine G_iinc (L' := [(4, .int z13206), (2, .int 1), (6, .long u13192), (5, .int z13186), (3, .int g12995), (0, .ref q12082), (1, .ref q12083)]) z13206 3 d_cX5_sweep_103 rfl hz13206.symm (Nat.le_of_ble_eq_true rfl) rfl ?_
                  refine G_goto 22 d_cX5_sweep_106 (by decide +kernel) ?_
                  refine G_lv (L' := [(4, .int z13206), (3, .int g12995), (2, .int 1), (0, .ref q12082), (1, .ref q12083)]) [0, 4, 1, 5, 6] rfl ?_
                  exact ih22_13179 z13206 1 f13205 (gB_w bz13206 (by decide) (by decide)) (gB_w (gBl (show Int32.toInt 1 = 1 by decide)) (by decide) (by decide)) wf13205 (fun k e1 e2 ht => kt22_13179 k e1 e2 (fun R c1 c2 c3 c4 => c4 g13176 g13177 f13178 z13185 z13186 u13187 u13188 u13189 u13190 u13191 u13192 u13198 f13205 z13206 k e1 e2 bg13176 bg13177 r13184 ez13185 ez13186 hu13187 hu13188 hu13189 hu13190 hu13191 hu13192 r13197 hu13198 lhc13200 hf13205 ez13206 (ht R c1 c2 c3 c4))) (by have qa0 : Int32.toInt 1 = 1 := (by decide); omega)
        exact hlp22_13179 (((13 : Int) - 0).toNat + 1) 0 g12997 f12998 (gB_w (gBl (show Int32.toInt 0 = 0 by decide)) (by decide) (by decide)) bg12997 x13000 (fun k e1 e2 ht => ht) (Nat.lt_succ_self _)
  exact hlp9_13000 (((z12120.toInt : Int) - (-2)).toNat + 1) z12120 f12106 0 f12103 bz12120 (gB_w (gBl (show Int32.toInt 0 = 0 by decide)) (by decide) (by decide)) (by have qa0 : Int32.toInt 0 = 0 := (by decide); omega) x12116 (fun k e1 e2 e3 ht => ht) (Nat.lt_succ_self _)
/- tr_Live_gatherUse: Live_used -/
def tr_Live_gatherUse (a1 : Int32) (a2 : Int32) (Live_names : Int32) (Live_used : Nat → Int64) (Live_set : Nat → Int64) (o1 : Nat → Int64) : Prop := ∀ R : (Nat → Int64) → Prop,
  (a2.toInt < 0 → R Live_used) →
  (0 ≤ a2.toInt → Live_names.toInt ≤ a2.toInt → R Live_used) →
  (∀ (x1 : Int32) (x2 : Int32) (x3 : Int64) (x4 : Int64) (x5 : Int64) (x6 : Int64) (x7 : Int64) (x8 : Int64) (x9 : Nat → Int64), 0 ≤ a2.toInt → a2.toInt < Live_names.toInt → x1.toInt = a2.toInt / 64 → x2.toInt = a1.toInt + x1.toInt → x3 = Live_used x2.toNatClampNeg → x4 = (1 : Int64) <<< (a2.toInt64 &&& 63) → x5 = Live_set x2.toNatClampNeg → x6 = x5 ^^^ (-1 : Int64) → x7 = x4 &&& x6 → x8 = x3 ||| x7 → x9 = vp_updL Live_used x2.toNatClampNeg x8 → R x9) →
  R o1
abbrev ky_13344_Live_gatherUse : gKey := (cX5_gatherUse, 4, yX5_gatherUse.cls, none, [], yX5_gatherUse.name, fun _ _ => True)
abbrev po_13344_Live_gatherUse (I : FieldType → ClassId) (q13325 : Nat) (q13326 : Nat) (q13327 : Nat) (q13328 : Nat) (q13329 : Nat) (p13330 : Int32) (p13331 : Int32) (p13332 : Int32) (p13333 : Int32) (p13334 : Int32) (f13335 : Nat → Int64) (f13336 : Nat → Int64) (f13337 : Nat → Int64) (f13338 : Nat → Int64) (N13343 : Int) : Option Value → va_W → Prop := fun r w => ∃ (f13360 : Nat → Int64), r = none ∧ w = [(q13325, .inr (10, [.ref q13326, .ref q13327, .ref q13328, .ref q13329, .int p13332, .int p13333, .int p13334])), (q13326, .inl (I .long, 480, .inr (.inl f13335))), (q13327, .inl (I .long, 480, .inr (.inl f13360))), (q13328, .inl (I .long, 480, .inr (.inl f13337))), (q13329, .inl (I .long, 12, .inr (.inl f13338)))] ∧ lb_W f13360 (N13343) (p13333.toInt) (p13332.toInt) ∧ tr_Live_gatherUse p13330 p13331 p13332 f13336 f13337 f13360
set_option maxRecDepth 100000 in
set_option maxHeartbeats 4000000 in
theorem ct_13344_Live_gatherUse (l : Launch) (hl0 : l.stackTraces = false) (D : va_G) (I : FieldType → ClassId) (q13325 : Nat) (q13326 : Nat) (q13327 : Nat) (q13328 : Nat) (q13329 : Nat) (p13330 : Int32) (p13331 : Int32) (p13332 : Int32) (p13333 : Int32) (p13334 : Int32) (f13335 : Nat → Int64) (f13336 : Nat → Int64) (f13337 : Nat → Int64) (f13338 : Nat → Int64) (N13343 : Int) (bp13330 : gB p13330 0 468) (bp13332 : gB p13332 0 720) (bp13333 : gB p13333 0 12) (bp13334 : gB p13334 0 1) (x13339 : p13330.toInt + p13333.toInt ≤ N13343) (x13340 : p13330.toInt % p13333.toInt = 0) (x13341 : lb_W f13336 (N13343) (p13333.toInt) (p13332.toInt)) (x13342 : p13333.toInt = (p13332.toInt + 63) / 64) : Ct (gV D I) l yX5_gatherUse cX5_gatherUse 4 none 0 0 0 0 [.ref q13325, .int p13330, .int p13331] [(q13325, .inr (10, [.ref q13326, .ref q13327, .ref q13328, .ref q13329, .int p13332, .int p13333, .int p13334])), (q13326, .inl (I .long, 480, .inr (.inl f13335))), (q13327, .inl (I .long, 480, .inr (.inl f13336))), (q13328, .inl (I .long, 480, .inr (.inl f13337))), (q13329, .inl (I .long, 12, .inr (.inl f13338)))] (po_13344_Live_gatherUse I q13325 q13326 q13327 q13328 q13329 p13330 p13331 p13332 p13333 p13334 f13335 f13336 f13337 f13338 N13343) gN := by
  refine Ct_of hl0 (by decide) (Nat.le_of_ble_eq_true rfl) ?_
  have bp13331 := gB_any p13331
  refine G_iload_n 2 d_cX5_gatherUse_0 rfl ?_
  refine G_if_lt 42 d_cX5_gatherUse_1 (by decide +kernel) (fun hc13345 => ?_) (fun hc13345 => ?_)
  · have r13346 : p13331.toInt < 0 := gj_lt hc13345 (show Int32.toInt 0 = 0 by decide)
    have bp13331' : gB p13331 (-2147483648) (-1) := ⟨by omega, by omega⟩
    exact G_vret d_cX5_gatherUse_42 rfl (Nat.le_of_ble_eq_true rfl) (Nat.le_of_ble_eq_true rfl) ⟨f13336, rfl, rfl, x13341, (fun R c1 c2 c3 => c1 r13346)⟩
  · have r13347 : 0 ≤ p13331.toInt := gj_nlt hc13345 (show Int32.toInt 0 = 0 by decide)
    have bp13331' : gB p13331 0 2147483647 := ⟨by omega, by omega⟩
    refine G_iload_n 2 d_cX5_gatherUse_4 rfl ?_
    refine G_aload_n 0 d_cX5_gatherUse_5 rfl ?_
    refine G_getf 0 4 d_cX5_gatherUse_6 rfl (gk_X5 D I) (Nat.le_of_ble_eq_true rfl) w_2_27 rfl ?_
    refine G_icmp_ge 42 d_cX5_gatherUse_9 (by decide +kernel) (fun hc13348 => ?_) (fun hc13348 => ?_)
    · have r13349 : p13332.toInt ≤ p13331.toInt := gC_le hc13348
      exact G_vret d_cX5_gatherUse_42 rfl (Nat.le_of_ble_eq_true rfl) (Nat.le_of_ble_eq_true rfl) ⟨f13336, rfl, rfl, x13341, (fun R c1 c2 c3 => c2 r13347 r13349)⟩
    · have r13350 : p13331.toInt < p13332.toInt := gC_nle hc13348
      have bp13331'' : gB p13331 0 719 := ⟨by omega, by omega⟩
      have bp13332' : gB p13332 1 720 := ⟨by omega, by omega⟩
      refine G_iload_n 1 d_cX5_gatherUse_12 rfl ?_
      refine G_iload_n 2 d_cX5_gatherUse_13 rfl ?_
      refine G_bipush 6 d_cX5_gatherUse_14 (by decide +kernel) ?_
      refine G_ishr d_cX5_gatherUse_16 (G_nam fun z13351 hz13351 => ?_)
      have ez13351 : z13351.toInt = p13331.toInt / 64 := gI_shr (k := 6) hz13351 (by decide)
      have bz13351 : gB z13351 0 11 := ⟨by omega, by omega⟩
      refine G_iadd d_cX5_gatherUse_17 (G_nam fun z13352 hz13352 => ?_)
      have ez13352 : z13352.toInt = p13330.toInt + z13351.toInt := by rw [gI_add hz13352 bp13330 bz13351 (by decide) (by decide)]
      have bz13352 : gB z13352 0 479 := gB_add (gI_add hz13352 bp13330 bz13351 (by decide) (by decide)) bp13330 bz13351 (by decide) (by decide)
      refine G_istore_n (L' := [(3, .int z13352), (0, .ref q13325), (1, .int p13330), (2, .int p13331)]) d_cX5_gatherUse_18 (Nat.le_of_ble_eq_true rfl) rfl ?_
      refine G_aload_n 1 d_cX5_gatherUse_19 rfl ?_
      refine G_getf 0 1 d_cX5_gatherUse_20 rfl (gk_X5 D I) (Nat.le_of_ble_eq_true rfl) w_2_23 rfl ?_
      refine G_iload_n 0 d_cX5_gatherUse_23 rfl ?_
      refine G_dup2_11 d_cX5_gatherUse_24 rfl rfl ?_
      refine G_lald 2 2 d_cX5_gatherUse_25 rfl rfl (gB_in bz13352 (by decide) (by decide)) (G_namL fun u13353 hu13353 => ?_)
      have qu13353 : lb_Q u13353 (p13332.toInt - 64 * z13351.toInt) := lb_Wld hu13353 x13341 (by omega) (by omega) (lb_Mod2 ez13352 x13340 (by omega) (by omega))
      refine G_lconst 1 d_cX5_gatherUse_26 rfl ?_
      refine G_iload_n 3 d_cX5_gatherUse_27 rfl ?_
      refine G_lshl d_cX5_gatherUse_28 (G_namL fun u13354 hu13354 => ?_)
      have qu13354 : lb_Q u13354 (p13331.toInt % 64 + 1) := lb_Qshl hu13354 (by omega)
      refine G_aload_n 1 d_cX5_gatherUse_29 rfl ?_
      refine G_getf 0 2 d_cX5_gatherUse_30 rfl (gk_X5 D I) (Nat.le_of_ble_eq_true rfl) w_2_24 rfl ?_
      refine G_iload_n 0 d_cX5_gatherUse_33 rfl ?_
      refine G_lald 3 2 d_cX5_gatherUse_34 rfl rfl (gB_in bz13352 (by decide) (by decide)) (G_namL fun u13355 hu13355 => ?_)
      refine G_ldc2 (-1) d_cX5_gatherUse_35 w_4_47 ?_
      refine G_lxor d_cX5_gatherUse_38 (G_namL fun u13356 hu13356 => ?_)
      refine G_land d_cX5_gatherUse_39 (G_namL fun u13357 hu13357 => ?_)
      have qu13357 : lb_Q u13357 (p13331.toInt % 64 + 1) := lb_QandL hu13357 qu13354
      refine G_lor d_cX5_gatherUse_40 (G_namL fun u13358 hu13358 => ?_)
      have qu13358 : lb_Q u13358 (p13332.toInt - 64 * z13351.toInt) := lb_Qor hu13358 qu13353 (lb_Qw qu13357 (by omega))
      refine G_lastN 2 2 d_cX5_gatherUse_41 rfl rfl (gB_in bz13352 (by decide) (by decide)) (fun f13359 hf13359 => ?_)
      refine G_ws (ws' := [(q13325, .inr (10, [.ref q13326, .ref q13327, .ref q13328, .ref q13329, .int p13332, .int p13333, .int p13334])), (q13326, .inl (I .long, 480, .inr (.inl f13335))), (q13327, .inl (I .long, 480, .inr (.inl f13359))), (q13328, .inl (I .long, 480, .inr (.inl f13337))), (q13329, .inl (I .long, 12, .inr (.inl f13338)))]) (cs' := 0) (sl' := 0) rfl rfl rfl ?_
      have wf13359 : lb_W f13359 (N13343) (p13333.toInt) (p13332.toInt) := lb_Wst hf13359 x13341 (by omega) (lb_Mod2 ez13352 x13340 (by omega) (by omega)) qu13358
      exact G_vret d_cX5_gatherUse_42 rfl (Nat.le_of_ble_eq_true rfl) (Nat.le_of_ble_eq_true rfl) ⟨f13359, rfl, rfl, wf13359, (fun R c1 c2 c3 => c3 z13351 z13352 u13353 u13354 u13355 u13356 u13357 u13358 f13359 r13347 r13350 ez13351 ez13352 hu13353 hu13354 hu13355 hu13356 hu13357 hu13358 hf13359)⟩
/- tr_Live_isName: result -/
def tr_Live_isName (a1 : Int32) (Live_names : Int32) (o1 : Int32) : Prop := ∀ R : (Int32) → Prop,
  (a1.toInt < 0 → R (0 : Int32)) →
  (0 ≤ a1.toInt → Live_names.toInt ≤ a1.toInt → R (0 : Int32)) →
  (0 ≤ a1.toInt → a1.toInt < Live_names.toInt → R (1 : Int32)) →
  R o1
abbrev ky_13403_Live_isName : gKey := (cX5_isName, 2, yX5_isName.cls, (some FieldType.boolean), [], yX5_isName.name, fun _ _ => True)
abbrev po_13403_Live_isName (I : FieldType → ClassId) (q13389 : Nat) (q13390 : Nat) (q13391 : Nat) (q13392 : Nat) (q13393 : Nat) (p13394 : Int32) (p13395 : Int32) (p13396 : Int32) (p13397 : Int32) (f13398 : Nat → Int64) (f13399 : Nat → Int64) (f13400 : Nat → Int64) (f13401 : Nat → Int64) : Option Value → va_W → Prop := fun r w => (r = some (.int 0) ∧ w = [(q13389, .inr (10, [.ref q13390, .ref q13391, .ref q13392, .ref q13393, .int p13395, .int p13396, .int p13397])), (q13390, .inl (I .long, 480, .inr (.inl f13398))), (q13391, .inl (I .long, 480, .inr (.inl f13399))), (q13392, .inl (I .long, 480, .inr (.inl f13400))), (q13393, .inl (I .long, 12, .inr (.inl f13401)))] ∧ p13394.toInt < 0 ∧ tr_Live_isName p13394 p13395 (0 : Int32)) ∨ (r = some (.int 0) ∧ w = [(q13389, .inr (10, [.ref q13390, .ref q13391, .ref q13392, .ref q13393, .int p13395, .int p13396, .int p13397])), (q13390, .inl (I .long, 480, .inr (.inl f13398))), (q13391, .inl (I .long, 480, .inr (.inl f13399))), (q13392, .inl (I .long, 480, .inr (.inl f13400))), (q13393, .inl (I .long, 12, .inr (.inl f13401)))] ∧ 0 ≤ p13394.toInt ∧ p13395.toInt ≤ p13394.toInt ∧ tr_Live_isName p13394 p13395 (0 : Int32)) ∨ (r = some (.int 1) ∧ w = [(q13389, .inr (10, [.ref q13390, .ref q13391, .ref q13392, .ref q13393, .int p13395, .int p13396, .int p13397])), (q13390, .inl (I .long, 480, .inr (.inl f13398))), (q13391, .inl (I .long, 480, .inr (.inl f13399))), (q13392, .inl (I .long, 480, .inr (.inl f13400))), (q13393, .inl (I .long, 12, .inr (.inl f13401)))] ∧ 0 ≤ p13394.toInt ∧ p13394.toInt < p13395.toInt ∧ tr_Live_isName p13394 p13395 (1 : Int32))
set_option maxRecDepth 100000 in
set_option maxHeartbeats 4000000 in
theorem ct_13403_Live_isName (l : Launch) (hl0 : l.stackTraces = false) (D : va_G) (I : FieldType → ClassId) (q13389 : Nat) (q13390 : Nat) (q13391 : Nat) (q13392 : Nat) (q13393 : Nat) (p13394 : Int32) (p13395 : Int32) (p13396 : Int32) (p13397 : Int32) (f13398 : Nat → Int64) (f13399 : Nat → Int64) (f13400 : Nat → Int64) (f13401 : Nat → Int64) (bp13395 : gB p13395 0 720) (bp13396 : gB p13396 0 12) (bp13397 : gB p13397 0 1) (x13402 : p13396.toInt = (p13395.toInt + 63) / 64) : Ct (gV D I) l yX5_isName cX5_isName 2 (some FieldType.boolean) 0 0 0 0 [.ref q13389, .int p13394] [(q13389, .inr (10, [.ref q13390, .ref q13391, .ref q13392, .ref q13393, .int p13395, .int p13396, .int p13397])), (q13390, .inl (I .long, 480, .inr (.inl f13398))), (q13391, .inl (I .long, 480, .inr (.inl f13399))), (q13392, .inl (I .long, 480, .inr (.inl f13400))), (q13393, .inl (I .long, 12, .inr (.inl f13401)))] (po_13403_Live_isName I q13389 q13390 q13391 q13392 q13393 p13394 p13395 p13396 p13397 f13398 f13399 f13400 f13401) gN := by
  refine Ct_of hl0 (by decide) (Nat.le_of_ble_eq_true rfl) ?_
  have bp13394 := gB_any p13394
  refine G_iload_n 1 d_cX5_isName_0 rfl ?_
  refine G_if_lt 16 d_cX5_isName_1 (by decide +kernel) (fun hc13404 => ?_) (fun hc13404 => ?_)
  · have r13405 : p13394.toInt < 0 := gj_lt hc13404 (show Int32.toInt 0 = 0 by decide)
    have bp13394' : gB p13394 (-2147483648) (-1) := ⟨by omega, by omega⟩
    refine G_iconst 0 d_cX5_isName_16 (by decide +kernel) ?_
    exact G_zret FieldType.boolean d_cX5_isName_17 rfl rfl (Nat.le_of_ble_eq_true rfl) (Nat.le_of_ble_eq_true rfl) (Or.inl ⟨rfl, rfl, r13405, (fun R c1 c2 c3 => c1 r13405)⟩)
  · have r13406 : 0 ≤ p13394.toInt := gj_nlt hc13404 (show Int32.toInt 0 = 0 by decide)
    have bp13394' : gB p13394 0 2147483647 := ⟨by omega, by omega⟩
    refine G_iload_n 1 d_cX5_isName_4 rfl ?_
    refine G_aload_n 0 d_cX5_isName_5 rfl ?_
    refine G_getf 0 4 d_cX5_isName_6 rfl (gk_X5 D I) (Nat.le_of_ble_eq_true rfl) w_2_27 rfl ?_
    refine G_icmp_ge 16 d_cX5_isName_9 (by decide +kernel) (fun hc13407 => ?_) (fun hc13407 => ?_)
    · have r13408 : p13395.toInt ≤ p13394.toInt := gC_le hc13407
      refine G_iconst 0 d_cX5_isName_16 (by decide +kernel) ?_
      exact G_zret FieldType.boolean d_cX5_isName_17 rfl rfl (Nat.le_of_ble_eq_true rfl) (Nat.le_of_ble_eq_true rfl) (Or.inr (Or.inl ⟨rfl, rfl, r13406, r13408, (fun R c1 c2 c3 => c2 r13406 r13408)⟩))
    · have r13409 : p13394.toInt < p13395.toInt := gC_nle hc13407
      have bp13394'' : gB p13394 0 719 := ⟨by omega, by omega⟩
      have bp13395' : gB p13395 1 720 := ⟨by omega, by omega⟩
      refine G_iconst 1 d_cX5_isName_12 (by decide +kernel) ?_
      refine G_goto 17 d_cX5_isName_13 (by decide +kernel) ?_
      exact G_zret FieldType.boolean d_cX5_isName_17 rfl rfl (Nat.le_of_ble_eq_true rfl) (Nat.le_of_ble_eq_true rfl) (Or.inr (Or.inr (⟨rfl, rfl, r13406, r13409, (fun R c1 c2 c3 => c3 r13406 r13409)⟩)))
/- tl_Live_gather_15: l4, Live_used, Live_set; out: Live_used, Live_set -/
def tl_Live_gather_15 (a2 : Int32) (Code_blocks : Int32) (Code_lines : Int32) (Code_first : Nat → Int32) (Live_ofSlots : Int32) (Code_op : Nat → Int32) (Code_left : Nat → Int32) (Code_rightNumber : Nat → Int32) (c1 : Int32) (Live_names : Int32) (Code_right : Nat → Int32) (Code_set : Nat → Int32) (s1 : Int32) (s2 : Nat → Int64) (s3 : Nat → Int64) (k : Nat) (e1 : Nat → Int64) (e2 : Nat → Int64) : Prop := ∀ R : (Int32) → (Nat → Int64) → (Nat → Int64) → Nat → (Nat → Int64) → (Nat → Int64) → Prop,
  (∀ (l4_1 : Int32) (Live_used_1 : Nat → Int64) (Live_set_1 : Nat → Int64), gB l4_1 0 200 → tr_Code_blockEnd a2 Code_blocks Code_lines Code_first Code_lines → Code_lines.toInt ≤ l4_1.toInt → R l4_1 Live_used_1 Live_set_1 101 Live_used_1 Live_set_1) →
  (∀ (l4_1 : Int32) (Live_used_1 : Nat → Int64) (Live_set_1 : Nat → Int64) (x1 : Int32) (x2 : Nat → Int64) (x3 : Int32) (x4 : Nat → Int64) (x5 : Int32) (x6 : Int32) (k : Nat) (e1 : Nat → Int64) (e2 : Nat → Int64), gB l4_1 0 200 → tr_Code_blockEnd a2 Code_blocks Code_lines Code_first Code_lines → l4_1.toInt < Code_lines.toInt → tr_Code_firstUse l4_1 Live_ofSlots Code_op Code_left Code_rightNumber x1 → tr_Live_gatherUse c1 x1 Live_names Live_used_1 Live_set_1 x2 → tr_Code_secondUse l4_1 Live_ofSlots Code_right x3 → tr_Live_gatherUse c1 x3 Live_names x2 Live_set_1 x4 → tr_Code_setBy l4_1 Live_ofSlots Code_op Code_set Code_rightNumber x5 → tr_Live_isName x5 Live_names (0 : Int32) → x6.toInt = l4_1.toInt + 1 → R x6 x4 Live_set_1 k e1 e2 → R l4_1 Live_used_1 Live_set_1 k e1 e2) →
  (∀ (l4_1 : Int32) (Live_used_1 : Nat → Int64) (Live_set_1 : Nat → Int64) (x1 : Int32) (x2 : Nat → Int64) (x3 : Int32) (x4 : Nat → Int64) (x5 : Int32) (x6 : Int32) (x7 : Int32) (x8 : Int64) (x9 : Int64) (x10 : Int64) (x11 : Nat → Int64) (x12 : Int32) (k : Nat) (e1 : Nat → Int64) (e2 : Nat → Int64), gB l4_1 0 200 → tr_Code_blockEnd a2 Code_blocks Code_lines Code_first Code_lines → l4_1.toInt < Code_lines.toInt → tr_Code_firstUse l4_1 Live_ofSlots Code_op Code_left Code_rightNumber x1 → tr_Live_gatherUse c1 x1 Live_names Live_used_1 Live_set_1 x2 → tr_Code_secondUse l4_1 Live_ofSlots Code_right x3 → tr_Live_gatherUse c1 x3 Live_names x2 Live_set_1 x4 → tr_Code_setBy l4_1 Live_ofSlots Code_op Code_set Code_rightNumber x5 → tr_Live_isName x5 Live_names (1 : Int32) → x6.toInt = x5.toInt / 64 → x7.toInt = c1.toInt + x6.toInt → x8 = Live_set_1 x7.toNatClampNeg → x9 = (1 : Int64) <<< (x5.toInt64 &&& 63) → x10 = x8 ||| x9 → x11 = vp_updL Live_set_1 x7.toNatClampNeg x10 → x12.toInt = l4_1.toInt + 1 → R x12 x4 x11 k e1 e2 → R l4_1 Live_used_1 Live_set_1 k e1 e2) →
  (∀ (l4_1 : Int32) (Live_used_1 : Nat → Int64) (Live_set_1 : Nat → Int64) (x1 : Int32) (x2 : Nat → Int64) (x3 : Int32) (x4 : Nat → Int64) (x5 : Int32) (k : Nat) (e1 : Nat → Int64) (e2 : Nat → Int64), gB l4_1 0 200 → tr_Code_blockEnd a2 Code_blocks Code_lines Code_first Code_lines → l4_1.toInt < Code_lines.toInt → tr_Code_firstUse l4_1 Live_ofSlots Code_op Code_left Code_rightNumber x1 → tr_Live_gatherUse c1 x1 Live_names Live_used_1 Live_set_1 x2 → tr_Code_secondUse l4_1 Live_ofSlots Code_right x3 → tr_Live_gatherUse c1 x3 Live_names x2 Live_set_1 x4 → tr_Code_setBy l4_1 Live_ofSlots Code_op Code_set Code_rightNumber (-1 : Int32) → tr_Live_isName (-1 : Int32) Live_names (0 : Int32) → x5.toInt = l4_1.toInt + 1 → R x5 x4 Live_set_1 k e1 e2 → R l4_1 Live_used_1 Live_set_1 k e1 e2) →
  (∀ (l4_1 : Int32) (Live_used_1 : Nat → Int64) (Live_set_1 : Nat → Int64) (x1 : Int32) (x2 : Nat → Int64) (x3 : Nat → Int64) (x4 : Int32) (k : Nat) (e1 : Nat → Int64) (e2 : Nat → Int64), gB l4_1 0 200 → tr_Code_blockEnd a2 Code_blocks Code_lines Code_first Code_lines → l4_1.toInt < Code_lines.toInt → tr_Code_firstUse l4_1 Live_ofSlots Code_op Code_left Code_rightNumber x1 → tr_Live_gatherUse c1 x1 Live_names Live_used_1 Live_set_1 x2 → tr_Code_secondUse l4_1 Live_ofSlots Code_right (-1 : Int32) → tr_Live_gatherUse c1 (-1 : Int32) Live_names x2 Live_set_1 x3 → tr_Code_setBy l4_1 Live_ofSlots Code_op Code_set Code_rightNumber (-1 : Int32) → tr_Live_isName (-1 : Int32) Live_names (0 : Int32) → x4.toInt = l4_1.toInt + 1 → R x4 x3 Live_set_1 k e1 e2 → R l4_1 Live_used_1 Live_set_1 k e1 e2) →
  (∀ (l4_1 : Int32) (Live_used_1 : Nat → Int64) (Live_set_1 : Nat → Int64) (x1 : Int32) (x2 : Nat → Int64) (x3 : Nat → Int64) (x4 : Int32) (x5 : Int32) (k : Nat) (e1 : Nat → Int64) (e2 : Nat → Int64), gB l4_1 0 200 → tr_Code_blockEnd a2 Code_blocks Code_lines Code_first Code_lines → l4_1.toInt < Code_lines.toInt → tr_Code_firstUse l4_1 Live_ofSlots Code_op Code_left Code_rightNumber x1 → tr_Live_gatherUse c1 x1 Live_names Live_used_1 Live_set_1 x2 → tr_Code_secondUse l4_1 Live_ofSlots Code_right (-1 : Int32) → tr_Live_gatherUse c1 (-1 : Int32) Live_names x2 Live_set_1 x3 → tr_Code_setBy l4_1 Live_ofSlots Code_op Code_set Code_rightNumber x4 → tr_Live_isName x4 Live_names (0 : Int32) → x5.toInt = l4_1.toInt + 1 → R x5 x3 Live_set_1 k e1 e2 → R l4_1 Live_used_1 Live_set_1 k e1 e2) →
  (∀ (l4_1 : Int32) (Live_used_1 : Nat → Int64) (Live_set_1 : Nat → Int64) (x1 : Int32) (x2 : Nat → Int64) (x3 : Nat → Int64) (x4 : Int32) (x5 : Int32) (x6 : Int32) (x7 : Int64) (x8 : Int64) (x9 : Int64) (x10 : Nat → Int64) (x11 : Int32) (k : Nat) (e1 : Nat → Int64) (e2 : Nat → Int64), gB l4_1 0 200 → tr_Code_blockEnd a2 Code_blocks Code_lines Code_first Code_lines → l4_1.toInt < Code_lines.toInt → tr_Code_firstUse l4_1 Live_ofSlots Code_op Code_left Code_rightNumber x1 → tr_Live_gatherUse c1 x1 Live_names Live_used_1 Live_set_1 x2 → tr_Code_secondUse l4_1 Live_ofSlots Code_right (-1 : Int32) → tr_Live_gatherUse c1 (-1 : Int32) Live_names x2 Live_set_1 x3 → tr_Code_setBy l4_1 Live_ofSlots Code_op Code_set Code_rightNumber x4 → tr_Live_isName x4 Live_names (1 : Int32) → x5.toInt = x4.toInt / 64 → x6.toInt = c1.toInt + x5.toInt → x7 = Live_set_1 x6.toNatClampNeg → x8 = (1 : Int64) <<< (x4.toInt64 &&& 63) → x9 = x7 ||| x8 → x10 = vp_updL Live_set_1 x6.toNatClampNeg x9 → x11.toInt = l4_1.toInt + 1 → R x11 x3 x10 k e1 e2 → R l4_1 Live_used_1 Live_set_1 k e1 e2) →
  (∀ (l4_1 : Int32) (Live_used_1 : Nat → Int64) (Live_set_1 : Nat → Int64) (x1 : Nat → Int64) (x2 : Nat → Int64) (x3 : Int32) (k : Nat) (e1 : Nat → Int64) (e2 : Nat → Int64), gB l4_1 0 200 → tr_Code_blockEnd a2 Code_blocks Code_lines Code_first Code_lines → l4_1.toInt < Code_lines.toInt → tr_Code_firstUse l4_1 Live_ofSlots Code_op Code_left Code_rightNumber (-1 : Int32) → tr_Live_gatherUse c1 (-1 : Int32) Live_names Live_used_1 Live_set_1 x1 → tr_Code_secondUse l4_1 Live_ofSlots Code_right (-1 : Int32) → tr_Live_gatherUse c1 (-1 : Int32) Live_names x1 Live_set_1 x2 → tr_Code_setBy l4_1 Live_ofSlots Code_op Code_set Code_rightNumber (-1 : Int32) → tr_Live_isName (-1 : Int32) Live_names (0 : Int32) → x3.toInt = l4_1.toInt + 1 → R x3 x2 Live_set_1 k e1 e2 → R l4_1 Live_used_1 Live_set_1 k e1 e2) →
  (∀ (l4_1 : Int32) (Live_used_1 : Nat → Int64) (Live_set_1 : Nat → Int64) (x1 : Nat → Int64) (x2 : Nat → Int64) (x3 : Int32) (x4 : Int32) (k : Nat) (e1 : Nat → Int64) (e2 : Nat → Int64), gB l4_1 0 200 → tr_Code_blockEnd a2 Code_blocks Code_lines Code_first Code_lines → l4_1.toInt < Code_lines.toInt → tr_Code_firstUse l4_1 Live_ofSlots Code_op Code_left Code_rightNumber (-1 : Int32) → tr_Live_gatherUse c1 (-1 : Int32) Live_names Live_used_1 Live_set_1 x1 → tr_Code_secondUse l4_1 Live_ofSlots Code_right (-1 : Int32) → tr_Live_gatherUse c1 (-1 : Int32) Live_names x1 Live_set_1 x2 → tr_Code_setBy l4_1 Live_ofSlots Code_op Code_set Code_rightNumber x3 → tr_Live_isName x3 Live_names (0 : Int32) → x4.toInt = l4_1.toInt + 1 → R x4 x2 Live_set_1 k e1 e2 → R l4_1 Live_used_1 Live_set_1 k e1 e2) →
  (∀ (l4_1 : Int32) (Live_used_1 : Nat → Int64) (Live_set_1 : Nat → Int64) (x1 : Nat → Int64) (x2 : Nat → Int64) (x3 : Int32) (x4 : Int32) (x5 : Int32) (x6 : Int64) (x7 : Int64) (x8 : Int64) (x9 : Nat → Int64) (x10 : Int32) (k : Nat) (e1 : Nat → Int64) (e2 : Nat → Int64), gB l4_1 0 200 → tr_Code_blockEnd a2 Code_blocks Code_lines Code_first Code_lines → l4_1.toInt < Code_lines.toInt → tr_Code_firstUse l4_1 Live_ofSlots Code_op Code_left Code_rightNumber (-1 : Int32) → tr_Live_gatherUse c1 (-1 : Int32) Live_names Live_used_1 Live_set_1 x1 → tr_Code_secondUse l4_1 Live_ofSlots Code_right (-1 : Int32) → tr_Live_gatherUse c1 (-1 : Int32) Live_names x1 Live_set_1 x2 → tr_Code_setBy l4_1 Live_ofSlots Code_op Code_set Code_rightNumber x3 → tr_Live_isName x3 Live_names (1 : Int32) → x4.toInt = x3.toInt / 64 → x5.toInt = c1.toInt + x4.toInt → x6 = Live_set_1 x5.toNatClampNeg → x7 = (1 : Int64) <<< (x3.toInt64 &&& 63) → x8 = x6 ||| x7 → x9 = vp_updL Live_set_1 x5.toNatClampNeg x8 → x10.toInt = l4_1.toInt + 1 → R x10 x2 x9 k e1 e2 → R l4_1 Live_used_1 Live_set_1 k e1 e2) →
  (∀ (l4_1 : Int32) (Live_used_1 : Nat → Int64) (Live_set_1 : Nat → Int64) (x1 : Int32), gB l4_1 0 200 → tr_Code_blockEnd a2 Code_blocks Code_lines Code_first x1 → x1.toInt ≤ l4_1.toInt → R l4_1 Live_used_1 Live_set_1 101 Live_used_1 Live_set_1) →
  (∀ (l4_1 : Int32) (Live_used_1 : Nat → Int64) (Live_set_1 : Nat → Int64) (x1 : Int32) (x2 : Int32) (x3 : Nat → Int64) (x4 : Int32) (x5 : Nat → Int64) (x6 : Int32) (x7 : Int32) (k : Nat) (e1 : Nat → Int64) (e2 : Nat → Int64), gB l4_1 0 200 → tr_Code_blockEnd a2 Code_blocks Code_lines Code_first x1 → l4_1.toInt < x1.toInt → tr_Code_firstUse l4_1 Live_ofSlots Code_op Code_left Code_rightNumber x2 → tr_Live_gatherUse c1 x2 Live_names Live_used_1 Live_set_1 x3 → tr_Code_secondUse l4_1 Live_ofSlots Code_right x4 → tr_Live_gatherUse c1 x4 Live_names x3 Live_set_1 x5 → tr_Code_setBy l4_1 Live_ofSlots Code_op Code_set Code_rightNumber x6 → tr_Live_isName x6 Live_names (0 : Int32) → x7.toInt = l4_1.toInt + 1 → R x7 x5 Live_set_1 k e1 e2 → R l4_1 Live_used_1 Live_set_1 k e1 e2) →
  (∀ (l4_1 : Int32) (Live_used_1 : Nat → Int64) (Live_set_1 : Nat → Int64) (x1 : Int32) (x2 : Int32) (x3 : Nat → Int64) (x4 : Int32) (x5 : Nat → Int64) (x6 : Int32) (x7 : Int32) (x8 : Int32) (x9 : Int64) (x10 : Int64) (x11 : Int64) (x12 : Nat → Int64) (x13 : Int32) (k : Nat) (e1 : Nat → Int64) (e2 : Nat → Int64), gB l4_1 0 200 → tr_Code_blockEnd a2 Code_blocks Code_lines Code_first x1 → l4_1.toInt < x1.toInt → tr_Code_firstUse l4_1 Live_ofSlots Code_op Code_left Code_rightNumber x2 → tr_Live_gatherUse c1 x2 Live_names Live_used_1 Live_set_1 x3 → tr_Code_secondUse l4_1 Live_ofSlots Code_right x4 → tr_Live_gatherUse c1 x4 Live_names x3 Live_set_1 x5 → tr_Code_setBy l4_1 Live_ofSlots Code_op Code_set Code_rightNumber x6 → tr_Live_isName x6 Live_names (1 : Int32) → x7.toInt = x6.toInt / 64 → x8.toInt = c1.toInt + x7.toInt → x9 = Live_set_1 x8.toNatClampNeg → x10 = (1 : Int64) <<< (x6.toInt64 &&& 63) → x11 = x9 ||| x10 → x12 = vp_updL Live_set_1 x8.toNatClampNeg x11 → x13.toInt = l4_1.toInt + 1 → R x13 x5 x12 k e1 e2 → R l4_1 Live_used_1 Live_set_1 k e1 e2) →
  (∀ (l4_1 : Int32) (Live_used_1 : Nat → Int64) (Live_set_1 : Nat → Int64) (x1 : Int32) (x2 : Int32) (x3 : Nat → Int64) (x4 : Int32) (x5 : Nat → Int64) (x6 : Int32) (k : Nat) (e1 : Nat → Int64) (e2 : Nat → Int64), gB l4_1 0 200 → tr_Code_blockEnd a2 Code_blocks Code_lines Code_first x1 → l4_1.toInt < x1.toInt → tr_Code_firstUse l4_1 Live_ofSlots Code_op Code_left Code_rightNumber x2 → tr_Live_gatherUse c1 x2 Live_names Live_used_1 Live_set_1 x3 → tr_Code_secondUse l4_1 Live_ofSlots Code_right x4 → tr_Live_gatherUse c1 x4 Live_names x3 Live_set_1 x5 → tr_Code_setBy l4_1 Live_ofSlots Code_op Code_set Code_rightNumber (-1 : Int32) → tr_Live_isName (-1 : Int32) Live_names (0 : Int32) → x6.toInt = l4_1.toInt + 1 → R x6 x5 Live_set_1 k e1 e2 → R l4_1 Live_used_1 Live_set_1 k e1 e2) →
  (∀ (l4_1 : Int32) (Live_used_1 : Nat → Int64) (Live_set_1 : Nat → Int64) (x1 : Int32) (x2 : Int32) (x3 : Nat → Int64) (x4 : Nat → Int64) (x5 : Int32) (k : Nat) (e1 : Nat → Int64) (e2 : Nat → Int64), gB l4_1 0 200 → tr_Code_blockEnd a2 Code_blocks Code_lines Code_first x1 → l4_1.toInt < x1.toInt → tr_Code_firstUse l4_1 Live_ofSlots Code_op Code_left Code_rightNumber x2 → tr_Live_gatherUse c1 x2 Live_names Live_used_1 Live_set_1 x3 → tr_Code_secondUse l4_1 Live_ofSlots Code_right (-1 : Int32) → tr_Live_gatherUse c1 (-1 : Int32) Live_names x3 Live_set_1 x4 → tr_Code_setBy l4_1 Live_ofSlots Code_op Code_set Code_rightNumber (-1 : Int32) → tr_Live_isName (-1 : Int32) Live_names (0 : Int32) → x5.toInt = l4_1.toInt + 1 → R x5 x4 Live_set_1 k e1 e2 → R l4_1 Live_used_1 Live_set_1 k e1 e2) →
  (∀ (l4_1 : Int32) (Live_used_1 : Nat → Int64) (Live_set_1 : Nat → Int64) (x1 : Int32) (x2 : Int32) (x3 : Nat → Int64) (x4 : Nat → Int64) (x5 : Int32) (x6 : Int32) (k : Nat) (e1 : Nat → Int64) (e2 : Nat → Int64), gB l4_1 0 200 → tr_Code_blockEnd a2 Code_blocks Code_lines Code_first x1 → l4_1.toInt < x1.toInt → tr_Code_firstUse l4_1 Live_ofSlots Code_op Code_left Code_rightNumber x2 → tr_Live_gatherUse c1 x2 Live_names Live_used_1 Live_set_1 x3 → tr_Code_secondUse l4_1 Live_ofSlots Code_right (-1 : Int32) → tr_Live_gatherUse c1 (-1 : Int32) Live_names x3 Live_set_1 x4 → tr_Code_setBy l4_1 Live_ofSlots Code_op Code_set Code_rightNumber x5 → tr_Live_isName x5 Live_names (0 : Int32) → x6.toInt = l4_1.toInt + 1 → R x6 x4 Live_set_1 k e1 e2 → R l4_1 Live_used_1 Live_set_1 k e1 e2) →
  (∀ (l4_1 : Int32) (Live_used_1 : Nat → Int64) (Live_set_1 : Nat → Int64) (x1 : Int32) (x2 : Int32) (x3 : Nat → Int64) (x4 : Nat → Int64) (x5 : Int32) (x6 : Int32) (x7 : Int32) (x8 : Int64) (x9 : Int64) (x10 : Int64) (x11 : Nat → Int64) (x12 : Int32) (k : Nat) (e1 : Nat → Int64) (e2 : Nat → Int64), gB l4_1 0 200 → tr_Code_blockEnd a2 Code_blocks Code_lines Code_first x1 → l4_1.toInt < x1.toInt → tr_Code_firstUse l4_1 Live_ofSlots Code_op Code_left Code_rightNumber x2 → tr_Live_gatherUse c1 x2 Live_names Live_used_1 Live_set_1 x3 → tr_Code_secondUse l4_1 Live_ofSlots Code_right (-1 : Int32) → tr_Live_gatherUse c1 (-1 : Int32) Live_names x3 Live_set_1 x4 → tr_Code_setBy l4_1 Live_ofSlots Code_op Code_set Code_rightNumber x5 → tr_Live_isName x5 Live_names (1 : Int32) → x6.toInt = x5.toInt / 64 → x7.toInt = c1.toInt + x6.toInt → x8 = Live_set_1 x7.toNatClampNeg → x9 = (1 : Int64) <<< (x5.toInt64 &&& 63) → x10 = x8 ||| x9 → x11 = vp_updL Live_set_1 x7.toNatClampNeg x10 → x12.toInt = l4_1.toInt + 1 → R x12 x4 x11 k e1 e2 → R l4_1 Live_used_1 Live_set_1 k e1 e2) →
  (∀ (l4_1 : Int32) (Live_used_1 : Nat → Int64) (Live_set_1 : Nat → Int64) (x1 : Int32) (x2 : Nat → Int64) (x3 : Nat → Int64) (x4 : Int32) (k : Nat) (e1 : Nat → Int64) (e2 : Nat → Int64), gB l4_1 0 200 → tr_Code_blockEnd a2 Code_blocks Code_lines Code_first x1 → l4_1.toInt < x1.toInt → tr_Code_firstUse l4_1 Live_ofSlots Code_op Code_left Code_rightNumber (-1 : Int32) → tr_Live_gatherUse c1 (-1 : Int32) Live_names Live_used_1 Live_set_1 x2 → tr_Code_secondUse l4_1 Live_ofSlots Code_right (-1 : Int32) → tr_Live_gatherUse c1 (-1 : Int32) Live_names x2 Live_set_1 x3 → tr_Code_setBy l4_1 Live_ofSlots Code_op Code_set Code_rightNumber (-1 : Int32) → tr_Live_isName (-1 : Int32) Live_names (0 : Int32) → x4.toInt = l4_1.toInt + 1 → R x4 x3 Live_set_1 k e1 e2 → R l4_1 Live_used_1 Live_set_1 k e1 e2) →
  (∀ (l4_1 : Int32) (Live_used_1 : Nat → Int64) (Live_set_1 : Nat → Int64) (x1 : Int32) (x2 : Nat → Int64) (x3 : Nat → Int64) (x4 : Int32) (x5 : Int32) (k : Nat) (e1 : Nat → Int64) (e2 : Nat → Int64), gB l4_1 0 200 → tr_Code_blockEnd a2 Code_blocks Code_lines Code_first x1 → l4_1.toInt < x1.toInt → tr_Code_firstUse l4_1 Live_ofSlots Code_op Code_left Code_rightNumber (-1 : Int32) → tr_Live_gatherUse c1 (-1 : Int32) Live_names Live_used_1 Live_set_1 x2 → tr_Code_secondUse l4_1 Live_ofSlots Code_right (-1 : Int32) → tr_Live_gatherUse c1 (-1 : Int32) Live_names x2 Live_set_1 x3 → tr_Code_setBy l4_1 Live_ofSlots Code_op Code_set Code_rightNumber x4 → tr_Live_isName x4 Live_names (0 : Int32) → x5.toInt = l4_1.toInt + 1 → R x5 x3 Live_set_1 k e1 e2 → R l4_1 Live_used_1 Live_set_1 k e1 e2) →
  (∀ (l4_1 : Int32) (Live_used_1 : Nat → Int64) (Live_set_1 : Nat → Int64) (x1 : Int32) (x2 : Nat → Int64) (x3 : Nat → Int64) (x4 : Int32) (x5 : Int32) (x6 : Int32) (x7 : Int64) (x8 : Int64) (x9 : Int64) (x10 : Nat → Int64) (x11 : Int32) (k : Nat) (e1 : Nat → Int64) (e2 : Nat → Int64), gB l4_1 0 200 → tr_Code_blockEnd a2 Code_blocks Code_lines Code_first x1 → l4_1.toInt < x1.toInt → tr_Code_firstUse l4_1 Live_ofSlots Code_op Code_left Code_rightNumber (-1 : Int32) → tr_Live_gatherUse c1 (-1 : Int32) Live_names Live_used_1 Live_set_1 x2 → tr_Code_secondUse l4_1 Live_ofSlots Code_right (-1 : Int32) → tr_Live_gatherUse c1 (-1 : Int32) Live_names x2 Live_set_1 x3 → tr_Code_setBy l4_1 Live_ofSlots Code_op Code_set Code_rightNumber x4 → tr_Live_isName x4 Live_names (1 : Int32) → x5.toInt = x4.toInt / 64 → x6.toInt = c1.toInt + x5.toInt → x7 = Live_set_1 x6.toNatClampNeg → x8 = (1 : Int64) <<< (x4.toInt64 &&& 63) → x9 = x7 ||| x8 → x10 = vp_updL Live_set_1 x6.toNatClampNeg x9 → x11.toInt = l4_1.toInt + 1 → R x11 x3 x10 k e1 e2 → R l4_1 Live_used_1 Live_set_1 k e1 e2) →
  R s1 s2 s3 k e1 e2
/- tr_Live_gather: Live_used, Live_set -/
def tr_Live_gather (a2 : Int32) (Live_names : Int32) (Live_words : Int32) (Live_ofSlots : Int32) (Code_blocks : Int32) (Code_lines : Int32) (Live_used : Nat → Int64) (Live_set : Nat → Int64) (Code_first : Nat → Int32) (Code_op : Nat → Int32) (Code_set : Nat → Int32) (Code_left : Nat → Int32) (Code_right : Nat → Int32) (Code_rightNumber : Nat → Int32) (o1 : Nat → Int64) (o2 : Nat → Int64) : Prop := ∀ R : (Nat → Int64) → (Nat → Int64) → Prop,
  (∀ (x1 : Int32) (x2 : Int32) (x3 : Nat → Int64) (x4 : Nat → Int64), x1.toInt = a2.toInt * Live_words.toInt → x2 = Code_first a2.toNatClampNeg → gB x2 0 200 → tl_Live_gather_15 a2 Code_blocks Code_lines Code_first Live_ofSlots Code_op Code_left Code_rightNumber x1 Live_names Code_right Code_set x2 Live_used Live_set 101 x3 x4 → R x3 x4) →
  R o1 o2
