theorem d_cX4_addEnd_0 : decode cX4_addEnd 0 = .ok (.aload_n 1, 1) := by decide +kernel
theorem d_cX4_addEnd_1 : decode cX4_addEnd 1 = .ok (.getfield 44, 3) := by decide +kernel
theorem d_cX4_addEnd_4 : decode cX4_addEnd 4 = .ok (.iload_n 3, 1) := by decide +kernel
theorem d_cX4_addEnd_5 : decode cX4_addEnd 5 = .ok (.iaload, 1) := by decide +kernel
theorem d_cX4_addEnd_6 : decode cX4_addEnd 6 = .ok (.bipush 21, 2) := by decide +kernel
theorem d_cX4_addEnd_8 : decode cX4_addEnd 8 = .ok (.if_icmp .ne 28, 3) := by decide +kernel
theorem d_cX4_addEnd_36 : decode cX4_addEnd 36 = .ok (.aload_n 1, 1) := by decide +kernel
theorem d_cX4_addEnd_37 : decode cX4_addEnd 37 = .ok (.getfield 44, 3) := by decide +kernel
theorem d_cX4_addEnd_40 : decode cX4_addEnd 40 = .ok (.iload_n 3, 1) := by decide +kernel
theorem d_cX4_addEnd_41 : decode cX4_addEnd 41 = .ok (.iaload, 1) := by decide +kernel
theorem d_cX4_addEnd_42 : decode cX4_addEnd 42 = .ok (.bipush 19, 2) := by decide +kernel
theorem d_cX4_addEnd_44 : decode cX4_addEnd 44 = .ok (.if_icmp .ne 18, 3) := by decide +kernel
theorem d_cX4_addEnd_62 : decode cX4_addEnd 62 = .ok (.aload_n 0, 1) := by decide +kernel
theorem d_cX4_addEnd_63 : decode cX4_addEnd 63 = .ok (.ldc 76, 2) := by decide +kernel
theorem d_cX4_addEnd_65 : decode cX4_addEnd 65 = .ok (.invokevirtual 32, 3) := by decide +kernel
theorem d_cX4_addEnd_68 : decode cX4_addEnd 68 = .ok (.aload_n 0, 1) := by decide +kernel
theorem d_cX4_addEnd_69 : decode cX4_addEnd 69 = .ok (.aload_n 1, 1) := by decide +kernel
theorem d_cX4_addEnd_70 : decode cX4_addEnd 70 = .ok (.getfield 61, 3) := by decide +kernel
theorem d_cX4_addEnd_73 : decode cX4_addEnd 73 = .ok (.iload_n 3, 1) := by decide +kernel
theorem d_cX4_addEnd_74 : decode cX4_addEnd 74 = .ok (.iaload, 1) := by decide +kernel
theorem d_cX4_addEnd_75 : decode cX4_addEnd 75 = .ok (.aload_n 1, 1) := by decide +kernel
theorem d_cX4_addEnd_76 : decode cX4_addEnd 76 = .ok (.getfield 64, 3) := by decide +kernel
theorem d_cX4_addEnd_79 : decode cX4_addEnd 79 = .ok (.iload_n 3, 1) := by decide +kernel
theorem d_cX4_addEnd_80 : decode cX4_addEnd 80 = .ok (.iaload, 1) := by decide +kernel
theorem d_cX4_addEnd_81 : decode cX4_addEnd 81 = .ok (.invokevirtual 67, 3) := by decide +kernel
theorem d_cX4_addEnd_84 : decode cX4_addEnd 84 = .ok (.aload_n 0, 1) := by decide +kernel
theorem d_cX4_addEnd_85 : decode cX4_addEnd 85 = .ok (.ldc 78, 2) := by decide +kernel
theorem d_cX4_addEnd_87 : decode cX4_addEnd 87 = .ok (.aload_n 1, 1) := by decide +kernel
theorem d_cX4_addEnd_88 : decode cX4_addEnd 88 = .ok (.getfield 73, 3) := by decide +kernel
theorem d_cX4_addEnd_91 : decode cX4_addEnd 91 = .ok (.iload_n 2, 1) := by decide +kernel
theorem d_cX4_addEnd_92 : decode cX4_addEnd 92 = .ok (.iaload, 1) := by decide +kernel
theorem d_cX4_addEnd_93 : decode cX4_addEnd 93 = .ok (.invokevirtual 26, 3) := by decide +kernel
theorem d_cX4_addEnd_96 : decode cX4_addEnd 96 = .ok (.aload_n 0, 1) := by decide +kernel
theorem d_cX4_addEnd_97 : decode cX4_addEnd 97 = .ok (.ldc 78, 2) := by decide +kernel
theorem d_cX4_addEnd_99 : decode cX4_addEnd 99 = .ok (.aload_n 1, 1) := by decide +kernel
theorem d_cX4_addEnd_100 : decode cX4_addEnd 100 = .ok (.getfield 80, 3) := by decide +kernel
theorem d_cX4_addEnd_103 : decode cX4_addEnd 103 = .ok (.iload_n 2, 1) := by decide +kernel
theorem d_cX4_addEnd_104 : decode cX4_addEnd 104 = .ok (.iaload, 1) := by decide +kernel
theorem d_cX4_addEnd_105 : decode cX4_addEnd 105 = .ok (.invokevirtual 26, 3) := by decide +kernel
theorem d_cX4_addEnd_108 : decode cX4_addEnd 108 = .ok (.return_, 1) := by decide +kernel
theorem d_cX4_addEnd_47 : decode cX4_addEnd 47 = .ok (.aload_n 0, 1) := by decide +kernel
theorem d_cX4_addEnd_48 : decode cX4_addEnd 48 = .ok (.ldc 71, 2) := by decide +kernel
theorem d_cX4_addEnd_50 : decode cX4_addEnd 50 = .ok (.aload_n 1, 1) := by decide +kernel
theorem d_cX4_addEnd_51 : decode cX4_addEnd 51 = .ok (.getfield 73, 3) := by decide +kernel
theorem d_cX4_addEnd_54 : decode cX4_addEnd 54 = .ok (.iload_n 2, 1) := by decide +kernel
theorem d_cX4_addEnd_55 : decode cX4_addEnd 55 = .ok (.iaload, 1) := by decide +kernel
theorem d_cX4_addEnd_56 : decode cX4_addEnd 56 = .ok (.invokevirtual 26, 3) := by decide +kernel
theorem d_cX4_addEnd_59 : decode cX4_addEnd 59 = .ok (.goto 49, 3) := by decide +kernel
theorem d_cX4_addEnd_11 : decode cX4_addEnd 11 = .ok (.aload_n 0, 1) := by decide +kernel
theorem d_cX4_addEnd_12 : decode cX4_addEnd 12 = .ok (.ldc 59, 2) := by decide +kernel
theorem d_cX4_addEnd_14 : decode cX4_addEnd 14 = .ok (.invokevirtual 32, 3) := by decide +kernel
theorem d_cX4_addEnd_17 : decode cX4_addEnd 17 = .ok (.aload_n 0, 1) := by decide +kernel
theorem d_cX4_addEnd_18 : decode cX4_addEnd 18 = .ok (.aload_n 1, 1) := by decide +kernel
theorem d_cX4_addEnd_19 : decode cX4_addEnd 19 = .ok (.getfield 61, 3) := by decide +kernel
theorem d_cX4_addEnd_22 : decode cX4_addEnd 22 = .ok (.iload_n 3, 1) := by decide +kernel
theorem d_cX4_addEnd_23 : decode cX4_addEnd 23 = .ok (.iaload, 1) := by decide +kernel
theorem d_cX4_addEnd_24 : decode cX4_addEnd 24 = .ok (.aload_n 1, 1) := by decide +kernel
theorem d_cX4_addEnd_25 : decode cX4_addEnd 25 = .ok (.getfield 64, 3) := by decide +kernel
theorem d_cX4_addEnd_28 : decode cX4_addEnd 28 = .ok (.iload_n 3, 1) := by decide +kernel
theorem d_cX4_addEnd_29 : decode cX4_addEnd 29 = .ok (.iaload, 1) := by decide +kernel
theorem d_cX4_addEnd_30 : decode cX4_addEnd 30 = .ok (.invokevirtual 67, 3) := by decide +kernel
theorem d_cX4_addEnd_33 : decode cX4_addEnd 33 = .ok (.goto 75, 3) := by decide +kernel
theorem d_cX4_write_0 : decode cX4_write 0 = .ok (.aload_n 0, 1) := by decide +kernel
theorem d_cX4_write_1 : decode cX4_write 1 = .ok (.iconst 0, 1) := by decide +kernel
theorem d_cX4_write_2 : decode cX4_write 2 = .ok (.putfield 15, 3) := by decide +kernel
theorem d_cX4_write_5 : decode cX4_write 5 = .ok (.iconst 0, 1) := by decide +kernel
theorem d_cX4_write_6 : decode cX4_write 6 = .ok (.istore_n 2, 1) := by decide +kernel
theorem d_cX4_write_7 : decode cX4_write 7 = .ok (.iload_n 2, 1) := by decide +kernel
theorem d_cX4_write_8 : decode cX4_write 8 = .ok (.aload_n 1, 1) := by decide +kernel
theorem d_cX4_write_9 : decode cX4_write 9 = .ok (.getfield 19, 3) := by decide +kernel
theorem d_cX4_write_12 : decode cX4_write 12 = .ok (.if_icmp .ge 77, 3) := by decide +kernel
theorem d_cX4_write_89 : decode cX4_write 89 = .ok (.return_, 1) := by decide +kernel
theorem d_cX4_write_15 : decode cX4_write 15 = .ok (.aload_n 0, 1) := by decide +kernel
theorem d_cX4_write_16 : decode cX4_write 16 = .ok (.ldc 24, 2) := by decide +kernel
theorem d_cX4_write_18 : decode cX4_write 18 = .ok (.iload_n 2, 1) := by decide +kernel
theorem d_cX4_write_19 : decode cX4_write 19 = .ok (.invokevirtual 26, 3) := by decide +kernel
theorem d_cX4_write_22 : decode cX4_write 22 = .ok (.aload_n 0, 1) := by decide +kernel
theorem d_cX4_write_23 : decode cX4_write 23 = .ok (.ldc 30, 2) := by decide +kernel
theorem d_cX4_write_25 : decode cX4_write 25 = .ok (.invokevirtual 32, 3) := by decide +kernel
theorem d_cX4_write_28 : decode cX4_write 28 = .ok (.aload_n 1, 1) := by decide +kernel
theorem d_cX4_write_29 : decode cX4_write 29 = .ok (.getfield 36, 3) := by decide +kernel
theorem d_cX4_write_32 : decode cX4_write 32 = .ok (.iload_n 2, 1) := by decide +kernel
theorem d_cX4_write_33 : decode cX4_write 33 = .ok (.iaload, 1) := by decide +kernel
theorem d_cX4_write_34 : decode cX4_write 34 = .ok (.istore_n 3, 1) := by decide +kernel
theorem d_cX4_write_35 : decode cX4_write 35 = .ok (.iload_n 3, 1) := by decide +kernel
theorem d_cX4_write_36 : decode cX4_write 36 = .ok (.aload_n 1, 1) := by decide +kernel
theorem d_cX4_write_37 : decode cX4_write 37 = .ok (.iload_n 2, 1) := by decide +kernel
theorem d_cX4_write_38 : decode cX4_write 38 = .ok (.invokevirtual 40, 3) := by decide +kernel
theorem w_6_185 : (Jvm.Cond.methodLink "SpillForge$Listing" (40 : Nat) ({ cls := "SpillForge$Code", name := "blockEnd", desc := "(I)I" } : Jvm.MethodName)) ∈ gw := gw_6 185 rfl rfl
theorem w_4_38 : (Jvm.Cond.code ({ cls := "SpillForge$Code", name := "blockEnd", desc := "(I)I" } : Jvm.MethodName) prog_2_method_4_code (2 : Nat) (Option.some Jvm.ClassFile.FieldType.int)) ∈ gw := gw_4 38 rfl rfl
theorem w_4_36 : (Jvm.Cond.instanceMethod ({ cls := "SpillForge$Code", name := "blockEnd", desc := "(I)I" } : Jvm.MethodName)) ∈ gw := gw_4 36 rfl rfl
theorem w_4_37 : (Jvm.Cond.selects "SpillForge$Code" ({ cls := "SpillForge$Code", name := "blockEnd", desc := "(I)I" } : Jvm.MethodName) ({ cls := "SpillForge$Code", name := "blockEnd", desc := "(I)I" } : Jvm.MethodName)) ∈ gw := gw_4 37 rfl rfl
theorem d_cX4_write_41 : decode cX4_write 41 = .ok (.if_icmp .ge 42, 3) := by decide +kernel
theorem d_cX4_write_83 : decode cX4_write 83 = .ok (.iinc 2 1, 3) := by decide +kernel
theorem d_cX4_write_86 : decode cX4_write 86 = .ok (.goto (-79), 3) := by decide +kernel
theorem d_cX4_write_44 : decode cX4_write 44 = .ok (.aload_n 1, 1) := by decide +kernel
theorem d_cX4_write_45 : decode cX4_write 45 = .ok (.getfield 44, 3) := by decide +kernel
theorem d_cX4_write_48 : decode cX4_write 48 = .ok (.iload_n 3, 1) := by decide +kernel
theorem d_cX4_write_49 : decode cX4_write 49 = .ok (.iaload, 1) := by decide +kernel
theorem d_cX4_write_50 : decode cX4_write 50 = .ok (.bipush 19, 2) := by decide +kernel
theorem d_cX4_write_52 : decode cX4_write 52 = .ok (.if_icmp .lt 13, 3) := by decide +kernel
theorem d_cX4_write_65 : decode cX4_write 65 = .ok (.aload_n 0, 1) := by decide +kernel
theorem d_cX4_write_66 : decode cX4_write 66 = .ok (.aload_n 1, 1) := by decide +kernel
theorem d_cX4_write_67 : decode cX4_write 67 = .ok (.iload_n 3, 1) := by decide +kernel
theorem d_cX4_write_68 : decode cX4_write 68 = .ok (.invokevirtual 51, 3) := by decide +kernel
theorem w_6_199 : (Jvm.Cond.methodLink "SpillForge$Listing" (51 : Nat) ({ cls := "SpillForge$Listing", name := "addRow", desc := "(LSpillForge$Code;I)V" } : Jvm.MethodName)) ∈ gw := gw_6 199 rfl rfl
theorem w_6_202 : (Jvm.Cond.code ({ cls := "SpillForge$Listing", name := "addRow", desc := "(LSpillForge$Code;I)V" } : Jvm.MethodName) prog_6_method_6_code (3 : Nat) (Option.none : Option Jvm.ClassFile.FieldType)) ∈ gw := gw_6 202 rfl rfl
theorem w_6_201 : (Jvm.Cond.instanceMethod ({ cls := "SpillForge$Listing", name := "addRow", desc := "(LSpillForge$Code;I)V" } : Jvm.MethodName)) ∈ gw := gw_6 201 rfl rfl
theorem w_p_70 : Cond.selects "SpillForge$Listing" ⟨"SpillForge$Listing", "addRow", "(LSpillForge$Code;I)V"⟩ ⟨"SpillForge$Listing", "addRow", "(LSpillForge$Code;I)V"⟩ ∈ gw := gw_p _ 70 rfl rfl rfl
theorem d_cX4_write_71 : decode cX4_write 71 = .ok (.aload_n 0, 1) := by decide +kernel
theorem d_cX4_write_72 : decode cX4_write 72 = .ok (.bipush 10, 2) := by decide +kernel
theorem d_cX4_write_74 : decode cX4_write 74 = .ok (.invokevirtual 55, 3) := by decide +kernel
theorem d_cX4_write_77 : decode cX4_write 77 = .ok (.iinc 3 1, 3) := by decide +kernel
theorem d_cX4_write_80 : decode cX4_write 80 = .ok (.goto (-45), 3) := by decide +kernel
theorem d_cX4_write_55 : decode cX4_write 55 = .ok (.aload_n 0, 1) := by decide +kernel
theorem d_cX4_write_56 : decode cX4_write 56 = .ok (.aload_n 1, 1) := by decide +kernel
theorem d_cX4_write_57 : decode cX4_write 57 = .ok (.iload_n 2, 1) := by decide +kernel
theorem d_cX4_write_58 : decode cX4_write 58 = .ok (.iload_n 3, 1) := by decide +kernel
theorem d_cX4_write_59 : decode cX4_write 59 = .ok (.invokevirtual 47, 3) := by decide +kernel
theorem w_6_186 : (Jvm.Cond.methodLink "SpillForge$Listing" (47 : Nat) ({ cls := "SpillForge$Listing", name := "addEnd", desc := "(LSpillForge$Code;II)V" } : Jvm.MethodName)) ∈ gw := gw_6 186 rfl rfl
theorem w_6_189 : (Jvm.Cond.code ({ cls := "SpillForge$Listing", name := "addEnd", desc := "(LSpillForge$Code;II)V" } : Jvm.MethodName) prog_6_method_5_code (4 : Nat) (Option.none : Option Jvm.ClassFile.FieldType)) ∈ gw := gw_6 189 rfl rfl
theorem w_6_188 : (Jvm.Cond.instanceMethod ({ cls := "SpillForge$Listing", name := "addEnd", desc := "(LSpillForge$Code;II)V" } : Jvm.MethodName)) ∈ gw := gw_6 188 rfl rfl
theorem w_p_68 : Cond.selects "SpillForge$Listing" ⟨"SpillForge$Listing", "addEnd", "(LSpillForge$Code;II)V"⟩ ⟨"SpillForge$Listing", "addEnd", "(LSpillForge$Code;II)V"⟩ ∈ gw := gw_p _ 68 rfl rfl rfl
theorem d_cX4_write_62 : decode cX4_write 62 = .ok (.goto 9, 3) := by decide +kernel
theorem d_cX5_enterBehind_0 : decode cX5_enterBehind 0 = .ok (.aload_n 1, 1) := by decide +kernel
theorem d_cX5_enterBehind_1 : decode cX5_enterBehind 1 = .ok (.getfield 88, 3) := by decide +kernel
theorem d_cX5_enterBehind_4 : decode cX5_enterBehind 4 = .ok (.iload_n 2, 1) := by decide +kernel
theorem d_cX5_enterBehind_5 : decode cX5_enterBehind 5 = .ok (.iaload, 1) := by decide +kernel
theorem d_cX5_enterBehind_6 : decode cX5_enterBehind 6 = .ok (.istore_n 3, 1) := by decide +kernel
theorem d_cX5_enterBehind_7 : decode cX5_enterBehind 7 = .ok (.aload_n 1, 1) := by decide +kernel
theorem d_cX5_enterBehind_8 : decode cX5_enterBehind 8 = .ok (.getfield 91, 3) := by decide +kernel
theorem d_cX5_enterBehind_11 : decode cX5_enterBehind 11 = .ok (.iload_n 2, 1) := by decide +kernel
theorem d_cX5_enterBehind_12 : decode cX5_enterBehind 12 = .ok (.iaload, 1) := by decide +kernel
theorem d_cX5_enterBehind_13 : decode cX5_enterBehind 13 = .ok (.istore 4, 2) := by decide +kernel
theorem d_cX5_enterBehind_15 : decode cX5_enterBehind 15 = .ok (.iconst 0, 1) := by decide +kernel
theorem d_cX5_enterBehind_16 : decode cX5_enterBehind 16 = .ok (.istore 5, 2) := by decide +kernel
theorem d_cX5_enterBehind_18 : decode cX5_enterBehind 18 = .ok (.iload 5, 2) := by decide +kernel
theorem d_cX5_enterBehind_20 : decode cX5_enterBehind 20 = .ok (.aload_n 0, 1) := by decide +kernel
theorem d_cX5_enterBehind_21 : decode cX5_enterBehind 21 = .ok (.getfield 37, 3) := by decide +kernel
theorem w_2_29 : (Jvm.Cond.fieldLink "SpillForge$Live" (37 : Nat) "SpillForge$Live" "words" "I") ∈ gw := gw_2 29 rfl rfl
theorem d_cX5_enterBehind_24 : decode cX5_enterBehind 24 = .ok (.if_icmp .ge 85, 3) := by decide +kernel
theorem d_cX5_enterBehind_109 : decode cX5_enterBehind 109 = .ok (.return_, 1) := by decide +kernel
theorem d_cX5_enterBehind_27 : decode cX5_enterBehind 27 = .ok (.iload_n 3, 1) := by decide +kernel
theorem d_cX5_enterBehind_28 : decode cX5_enterBehind 28 = .ok (.ifCond .lt 28, 3) := by decide +kernel
theorem d_cX5_enterBehind_56 : decode cX5_enterBehind 56 = .ok (.lconst 0, 1) := by decide +kernel
theorem d_cX5_enterBehind_57 : decode cX5_enterBehind 57 = .ok (.lstore 6, 2) := by decide +kernel
theorem d_cX5_enterBehind_59 : decode cX5_enterBehind 59 = .ok (.aload_n 0, 1) := by decide +kernel
theorem d_cX5_enterBehind_60 : decode cX5_enterBehind 60 = .ok (.getfield 21, 3) := by decide +kernel
theorem w_2_25 : (Jvm.Cond.fieldLink "SpillForge$Live" (21 : Nat) "SpillForge$Live" "now" "[J") ∈ gw := gw_2 25 rfl rfl
theorem d_cX5_enterBehind_63 : decode cX5_enterBehind 63 = .ok (.iload 5, 2) := by decide +kernel
theorem d_cX5_enterBehind_65 : decode cX5_enterBehind 65 = .ok (.iload 4, 2) := by decide +kernel
theorem d_cX5_enterBehind_67 : decode cX5_enterBehind 67 = .ok (.ifCond .lt 33, 3) := by decide +kernel
theorem d_cX5_enterBehind_100 : decode cX5_enterBehind 100 = .ok (.lload 6, 2) := by decide +kernel
theorem d_cX5_enterBehind_102 : decode cX5_enterBehind 102 = .ok (.lastore, 1) := by decide +kernel
theorem d_cX5_enterBehind_103 : decode cX5_enterBehind 103 = .ok (.iinc 5 1, 3) := by decide +kernel
theorem d_cX5_enterBehind_106 : decode cX5_enterBehind 106 = .ok (.goto (-88), 3) := by decide +kernel
theorem d_cX5_enterBehind_70 : decode cX5_enterBehind 70 = .ok (.iload 4, 2) := by decide +kernel
theorem d_cX5_enterBehind_72 : decode cX5_enterBehind 72 = .ok (.aload_n 1, 1) := by decide +kernel
theorem d_cX5_enterBehind_73 : decode cX5_enterBehind 73 = .ok (.getfield 44, 3) := by decide +kernel
theorem d_cX5_enterBehind_76 : decode cX5_enterBehind 76 = .ok (.if_icmp .ge 24, 3) := by decide +kernel
theorem d_cX5_enterBehind_79 : decode cX5_enterBehind 79 = .ok (.lload 6, 2) := by decide +kernel
theorem d_cX5_enterBehind_81 : decode cX5_enterBehind 81 = .ok (.aload_n 0, 1) := by decide +kernel
theorem d_cX5_enterBehind_82 : decode cX5_enterBehind 82 = .ok (.getfield 9, 3) := by decide +kernel
theorem w_2_22 : (Jvm.Cond.fieldLink "SpillForge$Live" (9 : Nat) "SpillForge$Live" "in" "[J") ∈ gw := gw_2 22 rfl rfl
theorem d_cX5_enterBehind_85 : decode cX5_enterBehind 85 = .ok (.iload 4, 2) := by decide +kernel
theorem d_cX5_enterBehind_87 : decode cX5_enterBehind 87 = .ok (.aload_n 0, 1) := by decide +kernel
theorem d_cX5_enterBehind_88 : decode cX5_enterBehind 88 = .ok (.getfield 37, 3) := by decide +kernel
theorem d_cX5_enterBehind_91 : decode cX5_enterBehind 91 = .ok (.imul, 1) := by decide +kernel
theorem d_cX5_enterBehind_92 : decode cX5_enterBehind 92 = .ok (.iload 5, 2) := by decide +kernel
theorem d_cX5_enterBehind_94 : decode cX5_enterBehind 94 = .ok (.iadd, 1) := by decide +kernel
theorem d_cX5_enterBehind_95 : decode cX5_enterBehind 95 = .ok (.laload, 1) := by decide +kernel
theorem d_cX5_enterBehind_96 : decode cX5_enterBehind 96 = .ok (.lor, 1) := by decide +kernel
theorem d_cX5_enterBehind_97 : decode cX5_enterBehind 97 = .ok (.goto 5, 3) := by decide +kernel
theorem d_cX5_enterBehind_31 : decode cX5_enterBehind 31 = .ok (.iload_n 3, 1) := by decide +kernel
theorem d_cX5_enterBehind_32 : decode cX5_enterBehind 32 = .ok (.aload_n 1, 1) := by decide +kernel
theorem d_cX5_enterBehind_33 : decode cX5_enterBehind 33 = .ok (.getfield 44, 3) := by decide +kernel
theorem d_cX5_enterBehind_36 : decode cX5_enterBehind 36 = .ok (.if_icmp .ge 20, 3) := by decide +kernel
theorem d_cX5_enterBehind_39 : decode cX5_enterBehind 39 = .ok (.aload_n 0, 1) := by decide +kernel
theorem d_cX5_enterBehind_40 : decode cX5_enterBehind 40 = .ok (.getfield 9, 3) := by decide +kernel
theorem d_cX5_enterBehind_43 : decode cX5_enterBehind 43 = .ok (.iload_n 3, 1) := by decide +kernel
theorem d_cX5_enterBehind_44 : decode cX5_enterBehind 44 = .ok (.aload_n 0, 1) := by decide +kernel
theorem d_cX5_enterBehind_45 : decode cX5_enterBehind 45 = .ok (.getfield 37, 3) := by decide +kernel
theorem d_cX5_enterBehind_48 : decode cX5_enterBehind 48 = .ok (.imul, 1) := by decide +kernel
theorem d_cX5_enterBehind_49 : decode cX5_enterBehind 49 = .ok (.iload 5, 2) := by decide +kernel
theorem d_cX5_enterBehind_51 : decode cX5_enterBehind 51 = .ok (.iadd, 1) := by decide +kernel
theorem d_cX5_enterBehind_52 : decode cX5_enterBehind 52 = .ok (.laload, 1) := by decide +kernel
theorem d_cX5_enterBehind_53 : decode cX5_enterBehind 53 = .ok (.goto 4, 3) := by decide +kernel
abbrev ky_10542_Listing_addEnd : gKey := (cX4_addEnd, 4, yX4_addEnd.cls, none, [], yX4_addEnd.name, fun _ _ => True)
abbrev po_10542_Listing_addEnd (I : FieldType → ClassId) (q10514 : Nat) (q10515 : Nat) (q10516 : Nat) (q10517 : Nat) (q10518 : Nat) (q10519 : Nat) (q10520 : Nat) (q10521 : Nat) (q10522 : Nat) (q10523 : Nat) (q10524 : Nat) (q10525 : Nat) (p10526 : Int32) (p10527 : Int32) (p10528 : Int32) (p10529 : Int32) (p10530 : Int32) (p10531 : Int32) (f10532 : Nat → Int32) (f10533 : Nat → Int32) (f10534 : Nat → Int32) (f10535 : Nat → Int32) (f10536 : Nat → Int32) (f10537 : Nat → Int32) (f10538 : Nat → Int32) (f10539 : Nat → Int32) (f10540 : Nat → Int32) (f10541 : Nat → Int32) : Option Value → va_W → Prop := fun r w => ∃ (o10576 : Int32) (f10577 : Nat → Int32), r = none ∧ w = [(q10514, .inr (9, [.ref q10516, .int o10576])), (q10515, .inr (5, [.ref q10517, .ref q10518, .ref q10519, .ref q10520, .ref q10521, .ref q10522, .ref q10523, .ref q10524, .ref q10525, .int p10529, .int p10530, .int p10531])), (q10516, .inl (I .byte, 16384, .inl f10577)), (q10517, .inl (I .int, 40, .inl f10533)), (q10518, .inl (I .int, 40, .inl f10534)), (q10519, .inl (I .int, 40, .inl f10535)), (q10520, .inl (I .int, 200, .inl f10536)), (q10521, .inl (I .int, 200, .inl f10537)), (q10522, .inl (I .int, 200, .inl f10538)), (q10523, .inl (I .int, 200, .inl f10539)), (q10524, .inl (I .int, 200, .inl f10540)), (q10525, .inl (I .int, 200, .inl f10541))] ∧ gB o10576 0 16384 ∧ gF f10577 (-128) 127
set_option maxRecDepth 100000 in
set_option maxHeartbeats 4000000 in
theorem ct_10542_Listing_addEnd (l : Launch) (hl0 : l.stackTraces = false) (D : va_G) (I : FieldType → ClassId) (q10514 : Nat) (q10515 : Nat) (q10516 : Nat) (q10517 : Nat) (q10518 : Nat) (q10519 : Nat) (q10520 : Nat) (q10521 : Nat) (q10522 : Nat) (q10523 : Nat) (q10524 : Nat) (q10525 : Nat) (p10526 : Int32) (p10527 : Int32) (p10528 : Int32) (p10529 : Int32) (p10530 : Int32) (p10531 : Int32) (f10532 : Nat → Int32) (f10533 : Nat → Int32) (f10534 : Nat → Int32) (f10535 : Nat → Int32) (f10536 : Nat → Int32) (f10537 : Nat → Int32) (f10538 : Nat → Int32) (f10539 : Nat → Int32) (f10540 : Nat → Int32) (f10541 : Nat → Int32) (bp10526 : gB p10526 0 39) (bp10527 : gB p10527 0 199) (bp10528 : gB p10528 0 16384) (bp10529 : gB p10529 0 40) (bp10530 : gB p10530 0 200) (bp10531 : gB p10531 0 1) (bf10532 : gF f10532 (-128) 127) (bf10533 : gF f10533 0 200) (bf10536 : gF f10536 0 21) : Ct (gV D I) l yX4_addEnd cX4_addEnd 4 none 7 151 0 0 [.ref q10514, .ref q10515, .int p10526, .int p10527] [(q10514, .inr (9, [.ref q10516, .int p10528])), (q10515, .inr (5, [.ref q10517, .ref q10518, .ref q10519, .ref q10520, .ref q10521, .ref q10522, .ref q10523, .ref q10524, .ref q10525, .int p10529, .int p10530, .int p10531])), (q10516, .inl (I .byte, 16384, .inl f10532)), (q10517, .inl (I .int, 40, .inl f10533)), (q10518, .inl (I .int, 40, .inl f10534)), (q10519, .inl (I .int, 40, .inl f10535)), (q10520, .inl (I .int, 200, .inl f10536)), (q10521, .inl (I .int, 200, .inl f10537)), (q10522, .inl (I .int, 200, .inl f10538)), (q10523, .inl (I .int, 200, .inl f10539)), (q10524, .inl (I .int, 200, .inl f10540)), (q10525, .inl (I .int, 200, .inl f10541))] (po_10542_Listing_addEnd I q10514 q10515 q10516 q10517 q10518 q10519 q10520 q10521 q10522 q10523 q10524 q10525 p10526 p10527 p10528 p10529 p10530 p10531 f10532 f10533 f10534 f10535 f10536 f10537 f10538 f10539 f10540 f10541) gN := by
  refine Ct_of hl0 (by decide) (Nat.le_of_ble_eq_true rfl) ?_
  refine G_aload_n 1 d_cX4_addEnd_0 rfl ?_
  refine G_getfN 1 3 d_cX4_addEnd_1 rfl (gk_X0 D I) (Nat.le_of_ble_eq_true rfl) (fun _ _ _ h => gn_w 15 rfl h) rfl ?_
  refine G_iload_n 3 d_cX4_addEnd_4 rfl ?_
  refine G_iald 6 0 d_cX4_addEnd_5 rfl rfl (gB_in bp10527 (by decide) (by decide)) (G_nam fun z10543 hz10543 => ?_)
  have bz10543 : gB z10543 0 21 := by rw [hz10543]; exact bf10536 _
  refine G_bipush 21 d_cX4_addEnd_6 (by decide +kernel) ?_
  refine G_icmp_ne 36 d_cX4_addEnd_8 (by decide +kernel) (fun hc10544 => ?_) (fun hc10544 => ?_)
  · have r10545 : z10543.toInt ≠ 21 := gj_neq hc10544 (show Int32.toInt 21 = 21 by decide)
    have bz10543' : gB z10543 0 20 := ⟨by omega, by omega⟩
    refine G_aload_n 1 d_cX4_addEnd_36 rfl ?_
    refine G_getfN 1 3 d_cX4_addEnd_37 rfl (gk_X0 D I) (Nat.le_of_ble_eq_true rfl) (fun _ _ _ h => gn_w 15 rfl h) rfl ?_
    refine G_iload_n 3 d_cX4_addEnd_40 rfl ?_
    refine G_iald 6 0 d_cX4_addEnd_41 rfl rfl (gB_in bp10527 (by decide) (by decide)) (G_eqi (y := z10543) hz10543.symm ?_)
    refine G_bipush 19 d_cX4_addEnd_42 (by decide +kernel) ?_
    refine G_icmp_ne 62 d_cX4_addEnd_44 (by decide +kernel) (fun hc10546 => ?_) (fun hc10546 => ?_)
    · have r10547 : z10543.toInt ≠ 19 := gj_neq hc10546 (show Int32.toInt 19 = 19 by decide)
      refine G_aload_n 0 d_cX4_addEnd_62 rfl ?_
      refine G_ldcK (a := D.2 1000 23) d_cX4_addEnd_63 (fun _ _ _ h => gx_vk 23 rfl rfl h) ?_
      have hl23_10547 : (sb_23.length : Int) = 3 := rfl
      refine G_callV (As := [.ref (D.2 1000 23)]) (wr := [(q10515, .inr (5, [.ref q10517, .ref q10518, .ref q10519, .ref q10520, .ref q10521, .ref q10522, .ref q10523, .ref q10524, .ref q10525, .int p10529, .int p10530, .int p10531])), (q10517, .inl (I .int, 40, .inl f10533)), (q10518, .inl (I .int, 40, .inl f10534)), (q10519, .inl (I .int, 40, .inl f10535)), (q10520, .inl (I .int, 200, .inl f10536)), (q10521, .inl (I .int, 200, .inl f10537)), (q10522, .inl (I .int, 200, .inl f10538)), (q10523, .inl (I .int, 200, .inl f10539)), (q10524, .inl (I .int, 200, .inl f10540)), (q10525, .inl (I .int, 200, .inl f10541))]) (gV_ok D I) (ct_7590_Listing_addText l hl0 D I q10514 q10516 (D.2 1000 23) (D.2 1001 23) sb_23 p10528 f10532 (gx_sc 23 rfl rfl) (by omega) bp10528 bf10532) d_cX4_addEnd_65 ⟨w_6_165, w_1_13, w_6_168, by decide, rfl, (Nat.le_of_ble_eq_true rfl), (Nat.le_of_ble_eq_true rfl)⟩ w_6_167 w_p_65 0 rfl rfl [0, 2] [1, 3, 4, 5, 6, 7, 8, 9, 10, 11] rfl rfl rfl rfl (by decide) (Nat.le_of_ble_eq_true rfl) (Nat.le_of_ble_eq_true rfl) (Nat.le_of_ble_eq_true rfl) (fun r w hp => ?_) (fun _ _ _ z => z.elim)
      obtain ⟨o10549, f10550, rfl, rfl, bo10549, bf10550⟩ := hp
      change G _ _ _ _ _ _ _ _ _ _ _
      refine G_ws (ws' := [(q10515, .inr (5, [.ref q10517, .ref q10518, .ref q10519, .ref q10520, .ref q10521, .ref q10522, .ref q10523, .ref q10524, .ref q10525, .int p10529, .int p10530, .int p10531])), (q10517, .inl (I .int, 40, .inl f10533)), (q10518, .inl (I .int, 40, .inl f10534)), (q10519, .inl (I .int, 40, .inl f10535)), (q10520, .inl (I .int, 200, .inl f10536)), (q10521, .inl (I .int, 200, .inl f10537)), (q10522, .inl (I .int, 200, .inl f10538)), (q10523, .inl (I .int, 200, .inl f10539)), (q10524, .inl (I .int, 200, .inl f10540)), (q10525, .inl (I .int, 200, .inl f10541)), (q10514, .inr (9, [.ref q10516, .int o10549])), (q10516, .inl (I .byte, 16384, .inl f10550))]) (cs' := 0) (sl' := 0) rfl rfl rfl ?_
      refine G_aload_n 0 d_cX4_addEnd_68 rfl ?_
      refine G_aload_n 1 d_cX4_addEnd_69 rfl ?_
      refine G_getfN 0 5 d_cX4_addEnd_70 rfl (gk_X0 D I) (Nat.le_of_ble_eq_true rfl) (fun _ _ _ h => gn_w 23 rfl h) rfl ?_
      refine G_iload_n 3 d_cX4_addEnd_73 rfl ?_
      refine G_iald 6 0 d_cX4_addEnd_74 rfl rfl (gB_in bp10527 (by decide) (by decide)) (G_nam fun z10551 hz10551 => ?_)
      have bz10551 : gB z10551 (-2147483648) 2147483647 := gB_any z10551
      refine G_aload_n 1 d_cX4_addEnd_75 rfl ?_
      refine G_getfN 0 6 d_cX4_addEnd_76 rfl (gk_X0 D I) (Nat.le_of_ble_eq_true rfl) (fun _ _ _ h => gn_w 27 rfl h) rfl ?_
      refine G_iload_n 3 d_cX4_addEnd_79 rfl ?_
      refine G_iald 7 0 d_cX4_addEnd_80 rfl rfl (gB_in bp10527 (by decide) (by decide)) (G_nam fun z10552 hz10552 => ?_)
      have bz10552 : gB z10552 (-2147483648) 2147483647 := gB_any z10552
      refine G_callV (As := [.int z10551, .int z10552]) (wr := [(q10515, .inr (5, [.ref q10517, .ref q10518, .ref q10519, .ref q10520, .ref q10521, .ref q10522, .ref q10523, .ref q10524, .ref q10525, .int p10529, .int p10530, .int p10531])), (q10517, .inl (I .int, 40, .inl f10533)), (q10518, .inl (I .int, 40, .inl f10534)), (q10519, .inl (I .int, 40, .inl f10535)), (q10520, .inl (I .int, 200, .inl f10536)), (q10521, .inl (I .int, 200, .inl f10537)), (q10522, .inl (I .int, 200, .inl f10538)), (q10523, .inl (I .int, 200, .inl f10539)), (q10524, .inl (I .int, 200, .inl f10540)), (q10525, .inl (I .int, 200, .inl f10541))]) (gV_ok D I) (ct_10422_Listing_addOperand l hl0 D I q10514 q10516 z10551 z10552 o10549 f10550 bo10549 bf10550) d_cX4_addEnd_81 ⟨w_6_191, w_1_13, w_6_194, by decide, rfl, (Nat.le_of_ble_eq_true rfl), (Nat.le_of_ble_eq_true rfl)⟩ w_6_193 w_p_69 10 rfl rfl [10, 11] [0, 1, 2, 3, 4, 5, 6, 7, 8, 9] rfl rfl rfl rfl (by decide) (Nat.le_of_ble_eq_true rfl) (Nat.le_of_ble_eq_true rfl) (Nat.le_of_ble_eq_true rfl) (fun r w hp => ?_) (fun _ _ _ z => z.elim)
      obtain ⟨o10553, f10554, rfl, rfl, bo10553, bf10554⟩ := hp
      change G _ _ _ _ _ _ _ _ _ _ _
      refine G_ws (ws' := [(q10515, .inr (5, [.ref q10517, .ref q10518, .ref q10519, .ref q10520, .ref q10521, .ref q10522, .ref q10523, .ref q10524, .ref q10525, .int p10529, .int p10530, .int p10531])), (q10517, .inl (I .int, 40, .inl f10533)), (q10518, .inl (I .int, 40, .inl f10534)), (q10519, .inl (I .int, 40, .inl f10535)), (q10520, .inl (I .int, 200, .inl f10536)), (q10521, .inl (I .int, 200, .inl f10537)), (q10522, .inl (I .int, 200, .inl f10538)), (q10523, .inl (I .int, 200, .inl f10539)), (q10524, .inl (I .int, 200, .inl f10540)), (q10525, .inl (I .int, 200, .inl f10541)), (q10514, .inr (9, [.ref q10516, .int o10553])), (q10516, .inl (I .byte, 16384, .inl f10554))]) (cs' := 0) (sl' := 0) rfl rfl rfl ?_
      refine G_aload_n 0 d_cX4_addEnd_84 rfl ?_
      refine G_ldcK (a := D.2 1000 24) d_cX4_addEnd_85 (fun _ _ _ h => gx_vk 24 rfl rfl h) ?_
      have hl24_10554 : (sb_24.length : Int) = 2 := rfl
      refine G_aload_n 1 d_cX4_addEnd_87 rfl ?_
      refine G_getfN 0 1 d_cX4_addEnd_88 rfl (gk_X0 D I) (Nat.le_of_ble_eq_true rfl) (fun _ _ _ h => gn_w 8 rfl h) rfl ?_
      refine G_iload_n 2 d_cX4_addEnd_91 rfl ?_
      refine G_iald 2 0 d_cX4_addEnd_92 rfl rfl (gB_in bp10526 (by decide) (by decide)) (G_nam fun z10556 hz10556 => ?_)
      have bz10556 : gB z10556 (-2147483648) 2147483647 := gB_any z10556
      refine G_callV (As := [.ref (D.2 1000 24), .int z10556]) (wr := [(q10515, .inr (5, [.ref q10517, .ref q10518, .ref q10519, .ref q10520, .ref q10521, .ref q10522, .ref q10523, .ref q10524, .ref q10525, .int p10529, .int p10530, .int p10531])), (q10517, .inl (I .int, 40, .inl f10533)), (q10518, .inl (I .int, 40, .inl f10534)), (q10519, .inl (I .int, 40, .inl f10535)), (q10520, .inl (I .int, 200, .inl f10536)), (q10521, .inl (I .int, 200, .inl f10537)), (q10522, .inl (I .int, 200, .inl f10538)), (q10523, .inl (I .int, 200, .inl f10539)), (q10524, .inl (I .int, 200, .inl f10540)), (q10525, .inl (I .int, 200, .inl f10541))]) (gV_ok D I) (ct_7582_Listing_addNamed l hl0 D I q10514 q10516 (D.2 1000 24) (D.2 1001 24) sb_24 z10556 o10553 f10554 (gx_sc 24 rfl rfl) (by omega) bo10553 bf10554) d_cX4_addEnd_93 ⟨w_6_161, w_1_13, w_6_164, by decide, rfl, (Nat.le_of_ble_eq_true rfl), (Nat.le_of_ble_eq_true rfl)⟩ w_6_163 w_p_64 10 rfl rfl [10, 11] [0, 1, 2, 3, 4, 5, 6, 7, 8, 9] rfl rfl rfl rfl (by decide) (Nat.le_of_ble_eq_true rfl) (Nat.le_of_ble_eq_true rfl) (Nat.le_of_ble_eq_true rfl) (fun r w hp => ?_) (fun _ _ _ z => z.elim)
      obtain ⟨o10557, f10558, rfl, rfl, bo10557, bf10558⟩ := hp
      change G _ _ _ _ _ _ _ _ _ _ _
      refine G_ws (ws' := [(q10515, .inr (5, [.ref q10517, .ref q10518, .ref q10519, .ref q10520, .ref q10521, .ref q10522, .ref q10523, .ref q10524, .ref q10525, .int p10529, .int p10530, .int p10531])), (q10517, .inl (I .int, 40, .inl f10533)), (q10518, .inl (I .int, 40, .inl f10534)), (q10519, .inl (I .int, 40, .inl f10535)), (q10520, .inl (I .int, 200, .inl f10536)), (q10521, .inl (I .int, 200, .inl f10537)), (q10522, .inl (I .int, 200, .inl f10538)), (q10523, .inl (I .int, 200, .inl f10539)), (q10524, .inl (I .int, 200, .inl f10540)), (q10525, .inl (I .int, 200, .inl f10541)), (q10514, .inr (9, [.ref q10516, .int o10557])), (q10516, .inl (I .byte, 16384, .inl f10558))]) (cs' := 0) (sl' := 0) rfl rfl rfl ?_
      refine G_aload_n 0 d_cX4_addEnd_96 rfl ?_
      refine G_ldcK (a := D.2 1000 24) d_cX4_addEnd_97 (fun _ _ _ h => gx_vk 24 rfl rfl h) ?_
      have hl24_10558 : (sb_24.length : Int) = 2 := rfl
      refine G_aload_n 1 d_cX4_addEnd_99 rfl ?_
      refine G_getfN 0 2 d_cX4_addEnd_100 rfl (gk_X0 D I) (Nat.le_of_ble_eq_true rfl) (fun _ _ _ h => gn_w 12 rfl h) rfl ?_
      refine G_iload_n 2 d_cX4_addEnd_103 rfl ?_
      refine G_iald 3 0 d_cX4_addEnd_104 rfl rfl (gB_in bp10526 (by decide) (by decide)) (G_nam fun z10560 hz10560 => ?_)
      have bz10560 : gB z10560 (-2147483648) 2147483647 := gB_any z10560
      refine G_callV (As := [.ref (D.2 1000 24), .int z10560]) (wr := [(q10515, .inr (5, [.ref q10517, .ref q10518, .ref q10519, .ref q10520, .ref q10521, .ref q10522, .ref q10523, .ref q10524, .ref q10525, .int p10529, .int p10530, .int p10531])), (q10517, .inl (I .int, 40, .inl f10533)), (q10518, .inl (I .int, 40, .inl f10534)), (q10519, .inl (I .int, 40, .inl f10535)), (q10520, .inl (I .int, 200, .inl f10536)), (q10521, .inl (I .int, 200, .inl f10537)), (q10522, .inl (I .int, 200, .inl f10538)), (q10523, .inl (I .int, 200, .inl f10539)), (q10524, .inl (I .int, 200, .inl f10540)), (q10525, .inl (I .int, 200, .inl f10541))]) (gV_ok D I) (ct_7582_Listing_addNamed l hl0 D I q10514 q10516 (D.2 1000 24) (D.2 1001 24) sb_24 z10560 o10557 f10558 (gx_sc 24 rfl rfl) (by omega) bo10557 bf10558) d_cX4_addEnd_105 ⟨w_6_161, w_1_13, w_6_164, by decide, rfl, (Nat.le_of_ble_eq_true rfl), (Nat.le_of_ble_eq_true rfl)⟩ w_6_163 w_p_64 10 rfl rfl [10, 11] [0, 1, 2, 3, 4, 5, 6, 7, 8, 9] rfl rfl rfl rfl (by decide) (Nat.le_of_ble_eq_true rfl) (Nat.le_of_ble_eq_true rfl) (Nat.le_of_ble_eq_true rfl) (fun r w hp => ?_) (fun _ _ _ z => z.elim)
      obtain ⟨o10561, f10562, rfl, rfl, bo10561, bf10562⟩ := hp
      change G _ _ _ _ _ _ _ _ _ _ _
      refine G_ws (ws' := [(q10515, .inr (5, [.ref q10517, .ref q10518, .ref q10519, .ref q10520, .ref q10521, .ref q10522, .ref q10523, .ref q10524, .ref q10525, .int p10529, .int p10530, .int p10531])), (q10517, .inl (I .int, 40, .inl f10533)), (q10518, .inl (I .int, 40, .inl f10534)), (q10519, .inl (I .int, 40, .inl f10535)), (q10520, .inl (I .int, 200, .inl f10536)), (q10521, .inl (I .int, 200, .inl f10537)), (q10522, .inl (I .int, 200, .inl f10538)), (q10523, .inl (I .int, 200, .inl f10539)), (q10524, .inl (I .int, 200, .inl f10540)), (q10525, .inl (I .int, 200, .inl f10541)), (q10514, .inr (9, [.ref q10516, .int o10561])), (q10516, .inl (I .byte, 16384, .inl f10562))]) (cs' := 0) (sl' := 0) rfl rfl rfl ?_
      refine G_sub (ws' := [(q10514, .inr (9, [.ref q10516, .int o10561])), (q10515, .inr (5, [.ref q10517, .ref q10518, .ref q10519, .ref q10520, .ref q10521, .ref q10522, .ref q10523, .ref q10524, .ref q10525, .int p10529, .int p10530, .int p10531])), (q10516, .inl (I .byte, 16384, .inl f10562)), (q10517, .inl (I .int, 40, .inl f10533)), (q10518, .inl (I .int, 40, .inl f10534)), (q10519, .inl (I .int, 40, .inl f10535)), (q10520, .inl (I .int, 200, .inl f10536)), (q10521, .inl (I .int, 200, .inl f10537)), (q10522, .inl (I .int, 200, .inl f10538)), (q10523, .inl (I .int, 200, .inl f10539)), (q10524, .inl (I .int, 200, .inl f10540)), (q10525, .inl (I .int, 200, .inl f10541))]) [10, 0, 11, 1, 2, 3, 4, 5, 6, 7, 8, 9] rfl rfl ?_
      exact G_vret d_cX4_addEnd_108 rfl (Nat.le_of_ble_eq_true rfl) (Nat.le_of_ble_eq_true rfl) ⟨o10561, f10562, rfl, rfl, bo10561, bf10562⟩
    · have r10563 : z10543.toInt = 19 := gj_eq hc10546 (show Int32.toInt 19 = 19 by decide)
      have bz10543'' : gB z10543 19 19 := ⟨by omega, by omega⟩
      refine G_aload_n 0 d_cX4_addEnd_47 rfl ?_
      refine G_ldcK (a := D.2 1000 22) d_cX4_addEnd_48 (fun _ _ _ h => gx_vk 22 rfl rfl h) ?_
      have hl22_10563 : (sb_22.length : Int) = 6 := rfl
      refine G_aload_n 1 d_cX4_addEnd_50 rfl ?_
      refine G_getfN 1 1 d_cX4_addEnd_51 rfl (gk_X0 D I) (Nat.le_of_ble_eq_true rfl) (fun _ _ _ h => gn_w 8 rfl h) rfl ?_
      refine G_iload_n 2 d_cX4_addEnd_54 rfl ?_
      refine G_iald 4 0 d_cX4_addEnd_55 rfl rfl (gB_in bp10526 (by decide) (by decide)) (G_nam fun z10565 hz10565 => ?_)
      have bz10565 : gB z10565 (-2147483648) 2147483647 := gB_any z10565
      refine G_callV (As := [.ref (D.2 1000 22), .int z10565]) (wr := [(q10515, .inr (5, [.ref q10517, .ref q10518, .ref q10519, .ref q10520, .ref q10521, .ref q10522, .ref q10523, .ref q10524, .ref q10525, .int p10529, .int p10530, .int p10531])), (q10517, .inl (I .int, 40, .inl f10533)), (q10518, .inl (I .int, 40, .inl f10534)), (q10519, .inl (I .int, 40, .inl f10535)), (q10520, .inl (I .int, 200, .inl f10536)), (q10521, .inl (I .int, 200, .inl f10537)), (q10522, .inl (I .int, 200, .inl f10538)), (q10523, .inl (I .int, 200, .inl f10539)), (q10524, .inl (I .int, 200, .inl f10540)), (q10525, .inl (I .int, 200, .inl f10541))]) (gV_ok D I) (ct_7582_Listing_addNamed l hl0 D I q10514 q10516 (D.2 1000 22) (D.2 1001 22) sb_22 z10565 p10528 f10532 (gx_sc 22 rfl rfl) (by omega) bp10528 bf10532) d_cX4_addEnd_56 ⟨w_6_161, w_1_13, w_6_164, by decide, rfl, (Nat.le_of_ble_eq_true rfl), (Nat.le_of_ble_eq_true rfl)⟩ w_6_163 w_p_64 0 rfl rfl [0, 2] [1, 3, 4, 5, 6, 7, 8, 9, 10, 11] rfl rfl rfl rfl (by decide) (Nat.le_of_ble_eq_true rfl) (Nat.le_of_ble_eq_true rfl) (Nat.le_of_ble_eq_true rfl) (fun r w hp => ?_) (fun _ _ _ z => z.elim)
      obtain ⟨o10566, f10567, rfl, rfl, bo10566, bf10567⟩ := hp
      change G _ _ _ _ _ _ _ _ _ _ _
      refine G_ws (ws' := [(q10515, .inr (5, [.ref q10517, .ref q10518, .ref q10519, .ref q10520, .ref q10521, .ref q10522, .ref q10523, .ref q10524, .ref q10525, .int p10529, .int p10530, .int p10531])), (q10517, .inl (I .int, 40, .inl f10533)), (q10518, .inl (I .int, 40, .inl f10534)), (q10519, .inl (I .int, 40, .inl f10535)), (q10520, .inl (I .int, 200, .inl f10536)), (q10521, .inl (I .int, 200, .inl f10537)), (q10522, .inl (I .int, 200, .inl f10538)), (q10523, .inl (I .int, 200, .inl f10539)), (q10524, .inl (I .int, 200, .inl f10540)), (q10525, .inl (I .int, 200, .inl f10541)), (q10514, .inr (9, [.ref q10516, .int o10566])), (q10516, .inl (I .byte, 16384, .inl f10567))]) (cs' := 0) (sl' := 0) rfl rfl rfl ?_
      refine G_goto 108 d_cX4_addEnd_59 (by decide +kernel) ?_
      refine G_sub (ws' := [(q10514, .inr (9, [.ref q10516, .int o10566])), (q10515, .inr (5, [.ref q10517, .ref q10518, .ref q10519, .ref q10520, .ref q10521, .ref q10522, .ref q10523, .ref q10524, .ref q10525, .int p10529, .int p10530, .int p10531])), (q10516, .inl (I .byte, 16384, .inl f10567)), (q10517, .inl (I .int, 40, .inl f10533)), (q10518, .inl (I .int, 40, .inl f10534)), (q10519, .inl (I .int, 40, .inl f10535)), (q10520, .inl (I .int, 200, .inl f10536)), (q10521, .inl (I .int, 200, .inl f10537)), (q10522, .inl (I .int, 200, .inl f10538)), (q10523, .inl (I .int, 200, .inl f10539)), (q10524, .inl (I .int, 200, .inl f10540)), (q10525, .inl (I .int, 200, .inl f10541))]) [10, 0, 11, 1, 2, 3, 4, 5, 6, 7, 8, 9] rfl rfl ?_
      exact G_vret d_cX4_addEnd_108 rfl (Nat.le_of_ble_eq_true rfl) (Nat.le_of_ble_eq_true rfl) ⟨o10566, f10567, rfl, rfl, bo10566, bf10567⟩
  · have r10568 : z10543.toInt = 21 := gj_eq hc10544 (show Int32.toInt 21 = 21 by decide)
    have bz10543' : gB z10543 21 21 := ⟨by omega, by omega⟩
    refine G_aload_n 0 d_cX4_addEnd_11 rfl ?_
    refine G_ldcK (a := D.2 1000 20) d_cX4_addEnd_12 (fun _ _ _ h => gx_vk 20 rfl rfl h) ?_
    have hl20_10568 : (sb_20.length : Int) = 4 := rfl
    refine G_callV (As := [.ref (D.2 1000 20)]) (wr := [(q10515, .inr (5, [.ref q10517, .ref q10518, .ref q10519, .ref q10520, .ref q10521, .ref q10522, .ref q10523, .ref q10524, .ref q10525, .int p10529, .int p10530, .int p10531])), (q10517, .inl (I .int, 40, .inl f10533)), (q10518, .inl (I .int, 40, .inl f10534)), (q10519, .inl (I .int, 40, .inl f10535)), (q10520, .inl (I .int, 200, .inl f10536)), (q10521, .inl (I .int, 200, .inl f10537)), (q10522, .inl (I .int, 200, .inl f10538)), (q10523, .inl (I .int, 200, .inl f10539)), (q10524, .inl (I .int, 200, .inl f10540)), (q10525, .inl (I .int, 200, .inl f10541))]) (gV_ok D I) (ct_7590_Listing_addText l hl0 D I q10514 q10516 (D.2 1000 20) (D.2 1001 20) sb_20 p10528 f10532 (gx_sc 20 rfl rfl) (by omega) bp10528 bf10532) d_cX4_addEnd_14 ⟨w_6_165, w_1_13, w_6_168, by decide, rfl, (Nat.le_of_ble_eq_true rfl), (Nat.le_of_ble_eq_true rfl)⟩ w_6_167 w_p_65 0 rfl rfl [0, 2] [1, 3, 4, 5, 6, 7, 8, 9, 10, 11] rfl rfl rfl rfl (by decide) (Nat.le_of_ble_eq_true rfl) (Nat.le_of_ble_eq_true rfl) (Nat.le_of_ble_eq_true rfl) (fun r w hp => ?_) (fun _ _ _ z => z.elim)
    obtain ⟨o10570, f10571, rfl, rfl, bo10570, bf10571⟩ := hp
    change G _ _ _ _ _ _ _ _ _ _ _
    refine G_ws (ws' := [(q10515, .inr (5, [.ref q10517, .ref q10518, .ref q10519, .ref q10520, .ref q10521, .ref q10522, .ref q10523, .ref q10524, .ref q10525, .int p10529, .int p10530, .int p10531])), (q10517, .inl (I .int, 40, .inl f10533)), (q10518, .inl (I .int, 40, .inl f10534)), (q10519, .inl (I .int, 40, .inl f10535)), (q10520, .inl (I .int, 200, .inl f10536)), (q10521, .inl (I .int, 200, .inl f10537)), (q10522, .inl (I .int, 200, .inl f10538)), (q10523, .inl (I .int, 200, .inl f10539)), (q10524, .inl (I .int, 200, .inl f10540)), (q10525, .inl (I .int, 200, .inl f10541)), (q10514, .inr (9, [.ref q10516, .int o10570])), (q10516, .inl (I .byte, 16384, .inl f10571))]) (cs' := 0) (sl' := 0) rfl rfl rfl ?_
    refine G_aload_n 0 d_cX4_addEnd_17 rfl ?_
    refine G_aload_n 1 d_cX4_addEnd_18 rfl ?_
    refine G_getfN 0 5 d_cX4_addEnd_19 rfl (gk_X0 D I) (Nat.le_of_ble_eq_true rfl) (fun _ _ _ h => gn_w 23 rfl h) rfl ?_
    refine G_iload_n 3 d_cX4_addEnd_22 rfl ?_
    refine G_iald 6 0 d_cX4_addEnd_23 rfl rfl (gB_in bp10527 (by decide) (by decide)) (G_nam fun z10572 hz10572 => ?_)
    have bz10572 : gB z10572 (-2147483648) 2147483647 := gB_any z10572
    refine G_aload_n 1 d_cX4_addEnd_24 rfl ?_
    refine G_getfN 0 6 d_cX4_addEnd_25 rfl (gk_X0 D I) (Nat.le_of_ble_eq_true rfl) (fun _ _ _ h => gn_w 27 rfl h) rfl ?_
    refine G_iload_n 3 d_cX4_addEnd_28 rfl ?_
    refine G_iald 7 0 d_cX4_addEnd_29 rfl rfl (gB_in bp10527 (by decide) (by decide)) (G_nam fun z10573 hz10573 => ?_)
    have bz10573 : gB z10573 (-2147483648) 2147483647 := gB_any z10573
    refine G_callV (As := [.int z10572, .int z10573]) (wr := [(q10515, .inr (5, [.ref q10517, .ref q10518, .ref q10519, .ref q10520, .ref q10521, .ref q10522, .ref q10523, .ref q10524, .ref q10525, .int p10529, .int p10530, .int p10531])), (q10517, .inl (I .int, 40, .inl f10533)), (q10518, .inl (I .int, 40, .inl f10534)), (q10519, .inl (I .int, 40, .inl f10535)), (q10520, .inl (I .int, 200, .inl f10536)), (q10521, .inl (I .int, 200, .inl f10537)), (q10522, .inl (I .int, 200, .inl f10538)), (q10523, .inl (I .int, 200, .inl f10539)), (q10524, .inl (I .int, 200, .inl f10540)), (q10525, .inl (I .int, 200, .inl f10541))]) (gV_ok D I) (ct_10422_Listing_addOperand l hl0 D I q10514 q10516 z10572 z10573 o10570 f10571 bo10570 bf10571) d_cX4_addEnd_30 ⟨w_6_191, w_1_13, w_6_194, by decide, rfl, (Nat.le_of_ble_eq_true rfl), (Nat.le_of_ble_eq_true rfl)⟩ w_6_193 w_p_69 10 rfl rfl [10, 11] [0, 1, 2, 3, 4, 5, 6, 7, 8, 9] rfl rfl rfl rfl (by decide) (Nat.le_of_ble_eq_true rfl) (Nat.le_of_ble_eq_true rfl) (Nat.le_of_ble_eq_true rfl) (fun r w hp => ?_) (fun _ _ _ z => z.elim)
    obtain ⟨o10574, f10575, rfl, rfl, bo10574, bf10575⟩ := hp
    change G _ _ _ _ _ _ _ _ _ _ _
    refine G_ws (ws' := [(q10515, .inr (5, [.ref q10517, .ref q10518, .ref q10519, .ref q10520, .ref q10521, .ref q10522, .ref q10523, .ref q10524, .ref q10525, .int p10529, .int p10530, .int p10531])), (q10517, .inl (I .int, 40, .inl f10533)), (q10518, .inl (I .int, 40, .inl f10534)), (q10519, .inl (I .int, 40, .inl f10535)), (q10520, .inl (I .int, 200, .inl f10536)), (q10521, .inl (I .int, 200, .inl f10537)), (q10522, .inl (I .int, 200, .inl f10538)), (q10523, .inl (I .int, 200, .inl f10539)), (q10524, .inl (I .int, 200, .inl f10540)), (q10525, .inl (I .int, 200, .inl f10541)), (q10514, .inr (9, [.ref q10516, .int o10574])), (q10516, .inl (I .byte, 16384, .inl f10575))]) (cs' := 0) (sl' := 0) rfl rfl rfl ?_
    refine G_goto 108 d_cX4_addEnd_33 (by decide +kernel) ?_
    refine G_sub (ws' := [(q10514, .inr (9, [.ref q10516, .int o10574])), (q10515, .inr (5, [.ref q10517, .ref q10518, .ref q10519, .ref q10520, .ref q10521, .ref q10522, .ref q10523, .ref q10524, .ref q10525, .int p10529, .int p10530, .int p10531])), (q10516, .inl (I .byte, 16384, .inl f10575)), (q10517, .inl (I .int, 40, .inl f10533)), (q10518, .inl (I .int, 40, .inl f10534)), (q10519, .inl (I .int, 40, .inl f10535)), (q10520, .inl (I .int, 200, .inl f10536)), (q10521, .inl (I .int, 200, .inl f10537)), (q10522, .inl (I .int, 200, .inl f10538)), (q10523, .inl (I .int, 200, .inl f10539)), (q10524, .inl (I .int, 200, .inl f10540)), (q10525, .inl (I .int, 200, .inl f10541))]) [10, 0, 11, 1, 2, 3, 4, 5, 6, 7, 8, 9] rfl rfl ?_
    exact G_vret d_cX4_addEnd_108 rfl (Nat.le_of_ble_eq_true rfl) (Nat.le_of_ble_eq_true rfl) ⟨o10574, f10575, rfl, rfl, bo10574, bf10575⟩
abbrev ky_7569_Listing_write : gKey := (cX4_write, 4, yX4_write.cls, none, [], yX4_write.name, fun _ _ => True)
abbrev po_7569_Listing_write (I : FieldType → ClassId) (q7543 : Nat) (q7544 : Nat) (q7545 : Nat) (q7546 : Nat) (q7547 : Nat) (q7548 : Nat) (q7549 : Nat) (q7550 : Nat) (q7551 : Nat) (q7552 : Nat) (q7553 : Nat) (q7554 : Nat) (p7555 : Int32) (p7556 : Int32) (p7557 : Int32) (p7558 : Int32) (f7559 : Nat → Int32) (f7560 : Nat → Int32) (f7561 : Nat → Int32) (f7562 : Nat → Int32) (f7563 : Nat → Int32) (f7564 : Nat → Int32) (f7565 : Nat → Int32) (f7566 : Nat → Int32) (f7567 : Nat → Int32) (f7568 : Nat → Int32) : Option Value → va_W → Prop := fun r w => ∃ (o11696 : Int32) (f11697 : Nat → Int32), r = none ∧ w = [(q7543, .inr (9, [.ref q7545, .int o11696])), (q7544, .inr (5, [.ref q7546, .ref q7547, .ref q7548, .ref q7549, .ref q7550, .ref q7551, .ref q7552, .ref q7553, .ref q7554, .int p7556, .int p7557, .int p7558])), (q7545, .inl (I .byte, 16384, .inl f11697)), (q7546, .inl (I .int, 40, .inl f7560)), (q7547, .inl (I .int, 40, .inl f7561)), (q7548, .inl (I .int, 40, .inl f7562)), (q7549, .inl (I .int, 200, .inl f7563)), (q7550, .inl (I .int, 200, .inl f7564)), (q7551, .inl (I .int, 200, .inl f7565)), (q7552, .inl (I .int, 200, .inl f7566)), (q7553, .inl (I .int, 200, .inl f7567)), (q7554, .inl (I .int, 200, .inl f7568))] ∧ gB o11696 0 16384 ∧ gF f11697 (-128) 127
set_option maxRecDepth 100000 in
set_option maxHeartbeats 4000000 in
theorem ct_7569_Listing_write (l : Launch) (hl0 : l.stackTraces = false) (D : va_G) (I : FieldType → ClassId) (q7543 : Nat) (q7544 : Nat) (q7545 : Nat) (q7546 : Nat) (q7547 : Nat) (q7548 : Nat) (q7549 : Nat) (q7550 : Nat) (q7551 : Nat) (q7552 : Nat) (q7553 : Nat) (q7554 : Nat) (p7555 : Int32) (p7556 : Int32) (p7557 : Int32) (p7558 : Int32) (f7559 : Nat → Int32) (f7560 : Nat → Int32) (f7561 : Nat → Int32) (f7562 : Nat → Int32) (f7563 : Nat → Int32) (f7564 : Nat → Int32) (f7565 : Nat → Int32) (f7566 : Nat → Int32) (f7567 : Nat → Int32) (f7568 : Nat → Int32) (bp7555 : gB p7555 0 16384) (bp7556 : gB p7556 0 40) (bp7557 : gB p7557 0 200) (bp7558 : gB p7558 0 1) (bf7559 : gF f7559 (-128) 127) (bf7560 : gF f7560 0 200) (bf7563 : gF f7563 0 21) : Ct (gV D I) l yX4_write cX4_write 4 none 9 195 0 0 [.ref q7543, .ref q7544] [(q7543, .inr (9, [.ref q7545, .int p7555])), (q7544, .inr (5, [.ref q7546, .ref q7547, .ref q7548, .ref q7549, .ref q7550, .ref q7551, .ref q7552, .ref q7553, .ref q7554, .int p7556, .int p7557, .int p7558])), (q7545, .inl (I .byte, 16384, .inl f7559)), (q7546, .inl (I .int, 40, .inl f7560)), (q7547, .inl (I .int, 40, .inl f7561)), (q7548, .inl (I .int, 40, .inl f7562)), (q7549, .inl (I .int, 200, .inl f7563)), (q7550, .inl (I .int, 200, .inl f7564)), (q7551, .inl (I .int, 200, .inl f7565)), (q7552, .inl (I .int, 200, .inl f7566)), (q7553, .inl (I .int, 200, .inl f7567)), (q7554, .inl (I .int, 200, .inl f7568))] (po_7569_Listing_write I q7543 q7544 q7545 q7546 q7547 q7548 q7549 q7550 q7551 q7552 q7553 q7554 p7555 p7556 p7557 p7558 f7559 f7560 f7561 f7562 f7563 f7564 f7565 f7566 f7567 f7568) gN := by
  refine Ct_of hl0 (by decide) (Nat.le_of_ble_eq_true rfl) ?_
  refine G_aload_n 0 d_cX4_write_0 rfl ?_
  refine G_iconst 0 d_cX4_write_1 (by decide +kernel) ?_
  refine G_putf (ws' := [(q7543, .inr (9, [.ref q7545, .int 0])), (q7544, .inr (5, [.ref q7546, .ref q7547, .ref q7548, .ref q7549, .ref q7550, .ref q7551, .ref q7552, .ref q7553, .ref q7554, .int p7556, .int p7557, .int p7558])), (q7545, .inl (I .byte, 16384, .inl f7559)), (q7546, .inl (I .int, 40, .inl f7560)), (q7547, .inl (I .int, 40, .inl f7561)), (q7548, .inl (I .int, 40, .inl f7562)), (q7549, .inl (I .int, 200, .inl f7563)), (q7550, .inl (I .int, 200, .inl f7564)), (q7551, .inl (I .int, 200, .inl f7565)), (q7552, .inl (I .int, 200, .inl f7566)), (q7553, .inl (I .int, 200, .inl f7567)), (q7554, .inl (I .int, 200, .inl f7568))]) 0 1 d_cX4_write_2 rfl (gk_X4 D I) (Nat.le_of_ble_eq_true rfl) w_2_201 rfl rfl rfl (Nat.le_of_ble_eq_true rfl) rfl ?_
  refine G_iconst 0 d_cX4_write_5 (by decide +kernel) ?_
  refine G_istore_n (L' := [(2, .int 0), (0, .ref q7543), (1, .ref q7544)]) d_cX4_write_6 (Nat.le_of_ble_eq_true rfl) rfl ?_
  have hlp7_11532 : ∀ (n7_11532 : Nat) (g11530 : Int32) (g11531 : Int32) (f11532 : Nat → Int32), gB g11530 0 40 → gB g11531 0 16384 → gF f11532 (-128) 127 → ((41 : Int) - g11530.toInt).toNat < n7_11532 → G (gV D I) l (gRm 9 195 0 0) (gM (gV D I) (po_7569_Listing_write I q7543 q7544 q7545 q7546 q7547 q7548 q7549 q7550 q7551 q7552 q7553 q7554 p7555 p7556 p7557 p7558 f7559 f7560 f7561 f7562 f7563 f7564 f7565 f7566 f7567 f7568) gN 0 0) ky_7569_Listing_write 7 [(2, .int g11530), (0, .ref q7543), (1, .ref q7544)] [] [(q7543, .inr (9, [.ref q7545, .int g11531])), (q7544, .inr (5, [.ref q7546, .ref q7547, .ref q7548, .ref q7549, .ref q7550, .ref q7551, .ref q7552, .ref q7553, .ref q7554, .int p7556, .int p7557, .int p7558])), (q7545, .inl (I .byte, 16384, .inl f11532)), (q7546, .inl (I .int, 40, .inl f7560)), (q7547, .inl (I .int, 40, .inl f7561)), (q7548, .inl (I .int, 40, .inl f7562)), (q7549, .inl (I .int, 200, .inl f7563)), (q7550, .inl (I .int, 200, .inl f7564)), (q7551, .inl (I .int, 200, .inl f7565)), (q7552, .inl (I .int, 200, .inl f7566)), (q7553, .inl (I .int, 200, .inl f7567)), (q7554, .inl (I .int, 200, .inl f7568))] 0 0 := by
    intro n7_11532
    induction n7_11532 with
    | zero => intro g11530 g11531 f11532 bg11530 bg11531 bf11532 hm7_11532; exact absurd hm7_11532 (Nat.not_lt_zero _)
    | succ n7_11532 ih7_11532 =>
      intro g11530 g11531 f11532 bg11530 bg11531 bf11532 hm7_11532
      refine G_iload_n 0 d_cX4_write_7 rfl ?_
      refine G_aload_n 2 d_cX4_write_8 rfl ?_
      refine G_getfN 1 9 d_cX4_write_9 rfl (gk_X0 D I) (Nat.le_of_ble_eq_true rfl) (fun _ _ _ h => gn_w 39 rfl h) rfl ?_
      refine G_icmp_ge 89 d_cX4_write_12 (by decide +kernel) (fun hc11533 => ?_) (fun hc11533 => ?_)
      · have r11534 : p7556.toInt ≤ g11530.toInt := gC_le hc11533
        exact G_vret d_cX4_write_89 rfl (Nat.le_of_ble_eq_true rfl) (Nat.le_of_ble_eq_true rfl) ⟨g11531, f11532, rfl, rfl, bg11531, bf11532⟩
      · have r11535 : g11530.toInt < p7556.toInt := gC_nle hc11533
        have bg11530' : gB g11530 0 39 := ⟨by omega, by omega⟩
        have bp7556' : gB p7556 1 40 := ⟨by omega, by omega⟩
        refine G_aload_n 1 d_cX4_write_15 rfl ?_
        refine G_ldcK (a := D.2 1000 18) d_cX4_write_16 (fun _ _ _ h => gx_vk 18 rfl rfl h) ?_
        have hl18_11535 : (sb_18.length : Int) = 1 := rfl
        refine G_iload_n 0 d_cX4_write_18 rfl ?_
        refine G_callV (As := [.ref (D.2 1000 18), .int g11530]) (wr := [(q7544, .inr (5, [.ref q7546, .ref q7547, .ref q7548, .ref q7549, .ref q7550, .ref q7551, .ref q7552, .ref q7553, .ref q7554, .int p7556, .int p7557, .int p7558])), (q7546, .inl (I .int, 40, .inl f7560)), (q7547, .inl (I .int, 40, .inl f7561)), (q7548, .inl (I .int, 40, .inl f7562)), (q7549, .inl (I .int, 200, .inl f7563)), (q7550, .inl (I .int, 200, .inl f7564)), (q7551, .inl (I .int, 200, .inl f7565)), (q7552, .inl (I .int, 200, .inl f7566)), (q7553, .inl (I .int, 200, .inl f7567)), (q7554, .inl (I .int, 200, .inl f7568))]) (gV_ok D I) (ct_7582_Listing_addNamed l hl0 D I q7543 q7545 (D.2 1000 18) (D.2 1001 18) sb_18 g11530 g11531 f11532 (gx_sc 18 rfl rfl) (by omega) bg11531 bf11532) d_cX4_write_19 ⟨w_6_161, w_1_13, w_6_164, by decide, rfl, (Nat.le_of_ble_eq_true rfl), (Nat.le_of_ble_eq_true rfl)⟩ w_6_163 w_p_64 0 rfl rfl [0, 2] [1, 3, 4, 5, 6, 7, 8, 9, 10, 11] rfl rfl rfl rfl (by decide) (Nat.le_of_ble_eq_true rfl) (Nat.le_of_ble_eq_true rfl) (Nat.le_of_ble_eq_true rfl) (fun r w hp => ?_) (fun _ _ _ z => z.elim)
        obtain ⟨o11537, f11538, rfl, rfl, bo11537, bf11538⟩ := hp
        change G _ _ _ _ _ _ _ _ _ _ _
        refine G_ws (ws' := [(q7544, .inr (5, [.ref q7546, .ref q7547, .ref q7548, .ref q7549, .ref q7550, .ref q7551, .ref q7552, .ref q7553, .ref q7554, .int p7556, .int p7557, .int p7558])), (q7546, .inl (I .int, 40, .inl f7560)), (q7547, .inl (I .int, 40, .inl f7561)), (q7548, .inl (I .int, 40, .inl f7562)), (q7549, .inl (I .int, 200, .inl f7563)), (q7550, .inl (I .int, 200, .inl f7564)), (q7551, .inl (I .int, 200, .inl f7565)), (q7552, .inl (I .int, 200, .inl f7566)), (q7553, .inl (I .int, 200, .inl f7567)), (q7554, .inl (I .int, 200, .inl f7568)), (q7543, .inr (9, [.ref q7545, .int o11537])), (q7545, .inl (I .byte, 16384, .inl f11538))]) (cs' := 0) (sl' := 0) rfl rfl rfl ?_
        refine G_aload_n 1 d_cX4_write_22 rfl ?_
        refine G_ldcK (a := D.2 1000 19) d_cX4_write_23 (fun _ _ _ h => gx_vk 19 rfl rfl h) ?_
        have hl19_11538 : (sb_19.length : Int) = 2 := rfl
        refine G_callV (As := [.ref (D.2 1000 19)]) (wr := [(q7544, .inr (5, [.ref q7546, .ref q7547, .ref q7548, .ref q7549, .ref q7550, .ref q7551, .ref q7552, .ref q7553, .ref q7554, .int p7556, .int p7557, .int p7558])), (q7546, .inl (I .int, 40, .inl f7560)), (q7547, .inl (I .int, 40, .inl f7561)), (q7548, .inl (I .int, 40, .inl f7562)), (q7549, .inl (I .int, 200, .inl f7563)), (q7550, .inl (I .int, 200, .inl f7564)), (q7551, .inl (I .int, 200, .inl f7565)), (q7552, .inl (I .int, 200, .inl f7566)), (q7553, .inl (I .int, 200, .inl f7567)), (q7554, .inl (I .int, 200, .inl f7568))]) (gV_ok D I) (ct_7590_Listing_addText l hl0 D I q7543 q7545 (D.2 1000 19) (D.2 1001 19) sb_19 o11537 f11538 (gx_sc 19 rfl rfl) (by omega) bo11537 bf11538) d_cX4_write_25 ⟨w_6_165, w_1_13, w_6_168, by decide, rfl, (Nat.le_of_ble_eq_true rfl), (Nat.le_of_ble_eq_true rfl)⟩ w_6_167 w_p_65 10 rfl rfl [10, 11] [0, 1, 2, 3, 4, 5, 6, 7, 8, 9] rfl rfl rfl rfl (by decide) (Nat.le_of_ble_eq_true rfl) (Nat.le_of_ble_eq_true rfl) (Nat.le_of_ble_eq_true rfl) (fun r w hp => ?_) (fun _ _ _ z => z.elim)
        obtain ⟨o11540, f11541, rfl, rfl, bo11540, bf11541⟩ := hp
        change G _ _ _ _ _ _ _ _ _ _ _
        refine G_ws (ws' := [(q7544, .inr (5, [.ref q7546, .ref q7547, .ref q7548, .ref q7549, .ref q7550, .ref q7551, .ref q7552, .ref q7553, .ref q7554, .int p7556, .int p7557, .int p7558])), (q7546, .inl (I .int, 40, .inl f7560)), (q7547, .inl (I .int, 40, .inl f7561)), (q7548, .inl (I .int, 40, .inl f7562)), (q7549, .inl (I .int, 200, .inl f7563)), (q7550, .inl (I .int, 200, .inl f7564)), (q7551, .inl (I .int, 200, .inl f7565)), (q7552, .inl (I .int, 200, .inl f7566)), (q7553, .inl (I .int, 200, .inl f7567)), (q7554, .inl (I .int, 200, .inl f7568)), (q7543, .inr (9, [.ref q7545, .int o11540])), (q7545, .inl (I .byte, 16384, .inl f11541))]) (cs' := 0) (sl' := 0) rfl rfl rfl ?_
        refine G_aload_n 2 d_cX4_write_28 rfl ?_
        refine G_getfN 0 0 d_cX4_write_29 rfl (gk_X0 D I) (Nat.le_of_ble_eq_true rfl) (fun _ _ _ h => gn_w 3 rfl h) rfl ?_
        refine G_iload_n 0 d_cX4_write_32 rfl ?_
        refine G_iald 1 0 d_cX4_write_33 rfl rfl (gB_in bg11530' (by decide) (by decide)) (G_nam fun z11542 hz11542 => ?_)
        have bz11542 : gB z11542 0 200 := by rw [hz11542]; exact bf7560 _
        refine G_istore_n (L' := [(3, .int z11542), (2, .int g11530), (0, .ref q7543), (1, .ref q7544)]) d_cX4_write_34 (Nat.le_of_ble_eq_true rfl) rfl ?_
        have hlp35_11646 : ∀ (n35_11646 : Nat) (g11644 : Int32) (g11645 : Int32) (f11646 : Nat → Int32), gB g11644 0 200 → gB g11645 0 16384 → gF f11646 (-128) 127 → ((201 : Int) - g11644.toInt).toNat < n35_11646 → G (gV D I) l (gRm 9 195 0 0) (gM (gV D I) (po_7569_Listing_write I q7543 q7544 q7545 q7546 q7547 q7548 q7549 q7550 q7551 q7552 q7553 q7554 p7555 p7556 p7557 p7558 f7559 f7560 f7561 f7562 f7563 f7564 f7565 f7566 f7567 f7568) gN 0 0) ky_7569_Listing_write 35 [(3, .int g11644), (2, .int g11530), (0, .ref q7543), (1, .ref q7544)] [] [(q7544, .inr (5, [.ref q7546, .ref q7547, .ref q7548, .ref q7549, .ref q7550, .ref q7551, .ref q7552, .ref q7553, .ref q7554, .int p7556, .int p7557, .int p7558])), (q7546, .inl (I .int, 40, .inl f7560)), (q7547, .inl (I .int, 40, .inl f7561)), (q7548, .inl (I .int, 40, .inl f7562)), (q7549, .inl (I .int, 200, .inl f7563)), (q7550, .inl (I .int, 200, .inl f7564)), (q7551, .inl (I .int, 200, .inl f7565)), (q7552, .inl (I .int, 200, .inl f7566)), (q7553, .inl (I .int, 200, .inl f7567)), (q7554, .inl (I .int, 200, .inl f7568)), (q7543, .inr (9, [.ref q7545, .int g11645])), (q7545, .inl (I .byte, 16384, .inl f11646))] 0 0 := by
          intro n35_11646
          induction n35_11646 with
          | zero => intro g11644 g11645 f11646 bg11644 bg11645 bf11646 hm35_11646; exact absurd hm35_11646 (Nat.not_lt_zero _)
          | succ n35_11646 ih35_11646 =>
            intro g11644 g11645 f11646 bg11644 bg11645 bf11646 hm35_11646
            refine G_iload_n 0 d_cX4_write_35 rfl ?_
            refine G_aload_n 3 d_cX4_write_36 rfl ?_
            refine G_iload_n 1 d_cX4_write_37 rfl ?_
            refine G_callV (As := [.int g11530]) (wr := [(q7543, .inr (9, [.ref q7545, .int g11645])), (q7545, .inl (I .byte, 16384, .inl f11646))]) (gV_ok D I) (ct_752_Code_blockEnd l hl0 D I q7544 q7546 q7547 q7548 q7549 q7550 q7551 q7552 q7553 q7554 g11530 p7556 p7557 p7558 f7560 f7561 f7562 f7563 f7564 f7565 f7566 f7567 f7568 bg11530' (gB_w bp7556' (by decide) (by decide)) bp7557 bp7558 bf7560 bf7563) d_cX4_write_38 ⟨w_6_185, w_1_5, w_4_38, by decide, rfl, (Nat.le_of_ble_eq_true rfl), (Nat.le_of_ble_eq_true rfl)⟩ w_4_36 w_4_37 0 rfl rfl [0, 1, 2, 3, 4, 5, 6, 7, 8, 9] [10, 11] rfl rfl rfl rfl (by decide) (Nat.le_of_ble_eq_true rfl) (Nat.le_of_ble_eq_true rfl) (Nat.le_of_ble_eq_true rfl) (fun r w hp => ?_) (fun _ _ _ z => z.elim)
            rcases hp with ⟨z11647, rfl, rfl, r11648, r11649, r11650⟩ | ⟨z11651, z11652, z11653, rfl, rfl, r11654, r11655, r11656, hz11651, r11657, r11658, r11659⟩
            · change G _ _ _ _ _ _ _ (.int p7557 :: _) _ _ _
              refine G_ws (ws' := [(q7543, .inr (9, [.ref q7545, .int g11645])), (q7545, .inl (I .byte, 16384, .inl f11646)), (q7544, .inr (5, [.ref q7546, .ref q7547, .ref q7548, .ref q7549, .ref q7550, .ref q7551, .ref q7552, .ref q7553, .ref q7554, .int p7556, .int p7557, .int p7558])), (q7546, .inl (I .int, 40, .inl f7560)), (q7547, .inl (I .int, 40, .inl f7561)), (q7548, .inl (I .int, 40, .inl f7562)), (q7549, .inl (I .int, 200, .inl f7563)), (q7550, .inl (I .int, 200, .inl f7564)), (q7551, .inl (I .int, 200, .inl f7565)), (q7552, .inl (I .int, 200, .inl f7566)), (q7553, .inl (I .int, 200, .inl f7567)), (q7554, .inl (I .int, 200, .inl f7568))]) (cs' := 0) (sl' := 0) rfl rfl rfl ?_
              refine G_icmp_ge 83 d_cX4_write_41 (by decide +kernel) (fun hc11660 => ?_) (fun hc11660 => ?_)
              · have r11661 : p7557.toInt ≤ g11644.toInt := gC_le hc11660
                obtain ⟨z11662, hz11662⟩ : ∃ z : Int32, z = g11530 + Int32.ofInt 1 := ⟨_, rfl⟩
                have ez11662 : z11662.toInt = g11530.toInt + 1 := gI_inc hz11662 (by decide) bg11530' (by decide) (by decide)
                have bz11662 : gB z11662 1 40 := ⟨by omega, by omega⟩
                refine G_iinc (L' := [(2, .int z11662), (3, .int g11644), (0, .ref q7543), (1, .ref q7544)]) z11662 1 d_cX4_write_83 rfl hz11662.symm (Nat.le_of_ble_eq_true rfl) rfl ?_
                refine G_goto 7 d_cX4_write_86 (by decide +kernel) ?_
                refine G_lv (L' := [(2, .int z11662), (0, .ref q7543), (1, .ref q7544)]) [0, 2, 3] rfl ?_
                refine G_sub (ws' := [(q7543, .inr (9, [.ref q7545, .int g11645])), (q7544, .inr (5, [.ref q7546, .ref q7547, .ref q7548, .ref q7549, .ref q7550, .ref q7551, .ref q7552, .ref q7553, .ref q7554, .int p7556, .int p7557, .int p7558])), (q7545, .inl (I .byte, 16384, .inl f11646)), (q7546, .inl (I .int, 40, .inl f7560)), (q7547, .inl (I .int, 40, .inl f7561)), (q7548, .inl (I .int, 40, .inl f7562)), (q7549, .inl (I .int, 200, .inl f7563)), (q7550, .inl (I .int, 200, .inl f7564)), (q7551, .inl (I .int, 200, .inl f7565)), (q7552, .inl (I .int, 200, .inl f7566)), (q7553, .inl (I .int, 200, .inl f7567)), (q7554, .inl (I .int, 200, .inl f7568))]) [0, 2, 1, 3, 4, 5, 6, 7, 8, 9, 10, 11] rfl rfl ?_
                exact ih7_11532 z11662 g11645 f11646 (gB_w bz11662 (by decide) (by decide)) bg11645 bf11646 (by omega)
              · have r11663 : g11644.toInt < p7557.toInt := gC_nle hc11660
                have bg11644' : gB g11644 0 199 := ⟨by omega, by omega⟩
                have bp7557' : gB p7557 1 200 := ⟨by omega, by omega⟩
                refine G_aload_n 3 d_cX4_write_44 rfl ?_
                refine G_getfN 2 3 d_cX4_write_45 rfl (gk_X0 D I) (Nat.le_of_ble_eq_true rfl) (fun _ _ _ h => gn_w 15 rfl h) rfl ?_
                refine G_iload_n 0 d_cX4_write_48 rfl ?_
                refine G_iald 6 0 d_cX4_write_49 rfl rfl (gB_in bg11644' (by decide) (by decide)) (G_nam fun z11664 hz11664 => ?_)
                have bz11664 : gB z11664 0 21 := by rw [hz11664]; exact bf7563 _
                refine G_bipush 19 d_cX4_write_50 (by decide +kernel) ?_
                refine G_icmp_lt 65 d_cX4_write_52 (by decide +kernel) (fun hc11665 => ?_) (fun hc11665 => ?_)
                · have r11666 : z11664.toInt < 19 := gj_lt hc11665 (show Int32.toInt 19 = 19 by decide)
                  have bz11664' : gB z11664 0 18 := ⟨by omega, by omega⟩
                  refine G_aload_n 2 d_cX4_write_65 rfl ?_
                  refine G_aload_n 3 d_cX4_write_66 rfl ?_
                  refine G_iload_n 0 d_cX4_write_67 rfl ?_
                  refine G_callV (As := [.ref q7544, .int g11644]) (wr := []) (gV_ok D I) (ct_10368_Listing_addRow l hl0 D I q7543 q7544 q7545 q7546 q7547 q7548 q7549 q7550 q7551 q7552 q7553 q7554 g11644 g11645 p7556 p7557 p7558 f11646 f7560 f7561 f7562 f7563 f7564 f7565 f7566 f7567 f7568 bg11644' bg11645 (gB_w bp7556' (by decide) (by decide)) (gB_w bp7557' (by decide) (by decide)) bp7558 bf11646 bf7560 bf7563) d_cX4_write_68 ⟨w_6_199, w_1_13, w_6_202, by decide, rfl, (Nat.le_of_ble_eq_true rfl), (Nat.le_of_ble_eq_true rfl)⟩ w_6_201 w_p_70 0 rfl rfl [0, 2, 1, 3, 4, 5, 6, 7, 8, 9, 10, 11] [] rfl rfl rfl rfl (by decide) (Nat.le_of_ble_eq_true rfl) (Nat.le_of_ble_eq_true rfl) (Nat.le_of_ble_eq_true rfl) (fun r w hp => ?_) (fun _ _ _ z => z.elim)
                  obtain ⟨o11667, f11668, rfl, rfl, bo11667, bf11668⟩ := hp
                  change G _ _ _ _ _ _ _ _ _ _ _
                  refine G_ws (ws' := [(q7543, .inr (9, [.ref q7545, .int o11667])), (q7544, .inr (5, [.ref q7546, .ref q7547, .ref q7548, .ref q7549, .ref q7550, .ref q7551, .ref q7552, .ref q7553, .ref q7554, .int p7556, .int p7557, .int p7558])), (q7545, .inl (I .byte, 16384, .inl f11668)), (q7546, .inl (I .int, 40, .inl f7560)), (q7547, .inl (I .int, 40, .inl f7561)), (q7548, .inl (I .int, 40, .inl f7562)), (q7549, .inl (I .int, 200, .inl f7563)), (q7550, .inl (I .int, 200, .inl f7564)), (q7551, .inl (I .int, 200, .inl f7565)), (q7552, .inl (I .int, 200, .inl f7566)), (q7553, .inl (I .int, 200, .inl f7567)), (q7554, .inl (I .int, 200, .inl f7568))]) (cs' := 0) (sl' := 0) rfl rfl rfl ?_
                  refine G_aload_n 2 d_cX4_write_71 rfl ?_
                  refine G_bipush 10 d_cX4_write_72 (by decide +kernel) ?_
                  refine G_callV (As := [.int 10]) (wr := [(q7544, .inr (5, [.ref q7546, .ref q7547, .ref q7548, .ref q7549, .ref q7550, .ref q7551, .ref q7552, .ref q7553, .ref q7554, .int p7556, .int p7557, .int p7558])), (q7546, .inl (I .int, 40, .inl f7560)), (q7547, .inl (I .int, 40, .inl f7561)), (q7548, .inl (I .int, 40, .inl f7562)), (q7549, .inl (I .int, 200, .inl f7563)), (q7550, .inl (I .int, 200, .inl f7564)), (q7551, .inl (I .int, 200, .inl f7565)), (q7552, .inl (I .int, 200, .inl f7566)), (q7553, .inl (I .int, 200, .inl f7567)), (q7554, .inl (I .int, 200, .inl f7568))]) (gV_ok D I) (ct_7602_Listing_addByte l hl0 D I q7543 q7545 10 o11667 f11668 (gB_w (gBl (show Int32.toInt 10 = 10 by decide)) (by decide) (by decide)) bo11667 bf11668) d_cX4_write_74 ⟨w_6_171, w_1_13, w_6_174, by decide, rfl, (Nat.le_of_ble_eq_true rfl), (Nat.le_of_ble_eq_true rfl)⟩ w_6_173 w_p_66 0 rfl rfl [0, 2] [1, 3, 4, 5, 6, 7, 8, 9, 10, 11] rfl rfl rfl rfl (by decide) (Nat.le_of_ble_eq_true rfl) (Nat.le_of_ble_eq_true rfl) (Nat.le_of_ble_eq_true rfl) (fun r w hp => ?_) (fun _ _ _ z => z.elim)
                  obtain ⟨o11669, f11670, rfl, rfl, bo11669, bf11670⟩ := hp
                  change G _ _ _ _ _ _ _ _ _ _ _
                  refine G_ws (ws' := [(q7544, .inr (5, [.ref q7546, .ref q7547, .ref q7548, .ref q7549, .ref q7550, .ref q7551, .ref q7552, .ref q7553, .ref q7554, .int p7556, .int p7557, .int p7558])), (q7546, .inl (I .int, 40, .inl f7560)), (q7547, .inl (I .int, 40, .inl f7561)), (q7548, .inl (I .int, 40, .inl f7562)), (q7549, .inl (I .int, 200, .inl f7563)), (q7550, .inl (I .int, 200, .inl f7564)), (q7551, .inl (I .int, 200, .inl f7565)), (q7552, .inl (I .int, 200, .inl f7566)), (q7553, .inl (I .int, 200, .inl f7567)), (q7554, .inl (I .int, 200, .inl f7568)), (q7543, .inr (9, [.ref q7545, .int o11669])), (q7545, .inl (I .byte, 16384, .inl f11670))]) (cs' := 0) (sl' := 0) rfl rfl rfl ?_
                  obtain ⟨z11671, hz11671⟩ : ∃ z : Int32, z = g11644 + Int32.ofInt 1 := ⟨_, rfl⟩
                  have ez11671 : z11671.toInt = g11644.toInt + 1 := gI_inc hz11671 (by decide) bg11644' (by decide) (by decide)
                  have bz11671 : gB z11671 1 200 := ⟨by omega, by omega⟩
                  refine G_iinc (L' := [(3, .int z11671), (2, .int g11530), (0, .ref q7543), (1, .ref q7544)]) z11671 0 d_cX4_write_77 rfl hz11671.symm (Nat.le_of_ble_eq_true rfl) rfl ?_
                  refine G_goto 35 d_cX4_write_80 (by decide +kernel) ?_
                  exact ih35_11646 z11671 o11669 f11670 (gB_w bz11671 (by decide) (by decide)) (gB_w bo11669 (by decide) (by decide)) bf11670 (by omega)
                · have r11672 : 19 ≤ z11664.toInt := gj_nlt hc11665 (show Int32.toInt 19 = 19 by decide)
                  have bz11664' : gB z11664 19 21 := ⟨by omega, by omega⟩
                  refine G_aload_n 2 d_cX4_write_55 rfl ?_
                  refine G_aload_n 3 d_cX4_write_56 rfl ?_
                  refine G_iload_n 1 d_cX4_write_57 rfl ?_
                  refine G_iload_n 0 d_cX4_write_58 rfl ?_
                  refine G_callV (As := [.ref q7544, .int g11530, .int g11644]) (wr := []) (gV_ok D I) (ct_10542_Listing_addEnd l hl0 D I q7543 q7544 q7545 q7546 q7547 q7548 q7549 q7550 q7551 q7552 q7553 q7554 g11530 g11644 g11645 p7556 p7557 p7558 f11646 f7560 f7561 f7562 f7563 f7564 f7565 f7566 f7567 f7568 bg11530' bg11644' bg11645 (gB_w bp7556' (by decide) (by decide)) (gB_w bp7557' (by decide) (by decide)) bp7558 bf11646 bf7560 bf7563) d_cX4_write_59 ⟨w_6_186, w_1_13, w_6_189, by decide, rfl, (Nat.le_of_ble_eq_true rfl), (Nat.le_of_ble_eq_true rfl)⟩ w_6_188 w_p_68 0 rfl rfl [0, 2, 1, 3, 4, 5, 6, 7, 8, 9, 10, 11] [] rfl rfl rfl rfl (by decide) (Nat.le_of_ble_eq_true rfl) (Nat.le_of_ble_eq_true rfl) (Nat.le_of_ble_eq_true rfl) (fun r w hp => ?_) (fun _ _ _ z => z.elim)
                  obtain ⟨o11673, f11674, rfl, rfl, bo11673, bf11674⟩ := hp
                  change G _ _ _ _ _ _ _ _ _ _ _
                  refine G_ws (ws' := [(q7543, .inr (9, [.ref q7545, .int o11673])), (q7544, .inr (5, [.ref q7546, .ref q7547, .ref q7548, .ref q7549, .ref q7550, .ref q7551, .ref q7552, .ref q7553, .ref q7554, .int p7556, .int p7557, .int p7558])), (q7545, .inl (I .byte, 16384, .inl f11674)), (q7546, .inl (I .int, 40, .inl f7560)), (q7547, .inl (I .int, 40, .inl f7561)), (q7548, .inl (I .int, 40, .inl f7562)), (q7549, .inl (I .int, 200, .inl f7563)), (q7550, .inl (I .int, 200, .inl f7564)), (q7551, .inl (I .int, 200, .inl f7565)), (q7552, .inl (I .int, 200, .inl f7566)), (q7553, .inl (I .int, 200, .inl f7567)), (q7554, .inl (I .int, 200, .inl f7568))]) (cs' := 0) (sl' := 0) rfl rfl rfl ?_
                  refine G_goto 71 d_cX4_write_62 (by decide +kernel) ?_
                  refine G_aload_n 2 d_cX4_write_71 rfl ?_
                  refine G_bipush 10 d_cX4_write_72 (by decide +kernel) ?_
                  refine G_callV (As := [.int 10]) (wr := [(q7544, .inr (5, [.ref q7546, .ref q7547, .ref q7548, .ref q7549, .ref q7550, .ref q7551, .ref q7552, .ref q7553, .ref q7554, .int p7556, .int p7557, .int p7558])), (q7546, .inl (I .int, 40, .inl f7560)), (q7547, .inl (I .int, 40, .inl f7561)), (q7548, .inl (I .int, 40, .inl f7562)), (q7549, .inl (I .int, 200, .inl f7563)), (q7550, .inl (I .int, 200, .inl f7564)), (q7551, .inl (I .int, 200, .inl f7565)), (q7552, .inl (I .int, 200, .inl f7566)), (q7553, .inl (I .int, 200, .inl f7567)), (q7554, .inl (I .int, 200, .inl f7568))]) (gV_ok D I) (ct_7602_Listing_addByte l hl0 D I q7543 q7545 10 o11673 f11674 (gB_w (gBl (show Int32.toInt 10 = 10 by decide)) (by decide) (by decide)) bo11673 bf11674) d_cX4_write_74 ⟨w_6_171, w_1_13, w_6_174, by decide, rfl, (Nat.le_of_ble_eq_true rfl), (Nat.le_of_ble_eq_true rfl)⟩ w_6_173 w_p_66 0 rfl rfl [0, 2] [1, 3, 4, 5, 6, 7, 8, 9, 10, 11] rfl rfl rfl rfl (by decide) (Nat.le_of_ble_eq_true rfl) (Nat.le_of_ble_eq_true rfl) (Nat.le_of_ble_eq_true rfl) (fun r w hp => ?_) (fun _ _ _ z => z.elim)
                  obtain ⟨o11675, f11676, rfl, rfl, bo11675, bf11676⟩ := hp
                  change G _ _ _ _ _ _ _ _ _ _ _
                  refine G_ws (ws' := [(q7544, .inr (5, [.ref q7546, .ref q7547, .ref q7548, .ref q7549, .ref q7550, .ref q7551, .ref q7552, .ref q7553, .ref q7554, .int p7556, .int p7557, .int p7558])), (q7546, .inl (I .int, 40, .inl f7560)), (q7547, .inl (I .int, 40, .inl f7561)), (q7548, .inl (I .int, 40, .inl f7562)), (q7549, .inl (I .int, 200, .inl f7563)), (q7550, .inl (I .int, 200, .inl f7564)), (q7551, .inl (I .int, 200, .inl f7565)), (q7552, .inl (I .int, 200, .inl f7566)), (q7553, .inl (I .int, 200, .inl f7567)), (q7554, .inl (I .int, 200, .inl f7568)), (q7543, .inr (9, [.ref q7545, .int o11675])), (q7545, .inl (I .byte, 16384, .inl f11676))]) (cs' := 0) (sl' := 0) rfl rfl rfl ?_
                  obtain ⟨z11677, hz11677⟩ : ∃ z : Int32, z = g11644 + Int32.ofInt 1 := ⟨_, rfl⟩
                  have ez11677 : z11677.toInt = g11644.toInt + 1 := gI_inc hz11677 (by decide) bg11644' (by decide) (by decide)
                  have bz11677 : gB z11677 1 200 := ⟨by omega, by omega⟩
                  refine G_iinc (L' := [(3, .int z11677), (2, .int g11530), (0, .ref q7543), (1, .ref q7544)]) z11677 0 d_cX4_write_77 rfl hz11677.symm (Nat.le_of_ble_eq_true rfl) rfl ?_
                  refine G_goto 35 d_cX4_write_80 (by decide +kernel) ?_
                  exact ih35_11646 z11677 o11675 f11676 (gB_w bz11677 (by decide) (by decide)) (gB_w bo11675 (by decide) (by decide)) bf11676 (by omega)
            · have bp7556'' : gB p7556 2 40 := ⟨by omega, by omega⟩
              change G _ _ _ _ _ _ _ (.int z11651 :: _) _ _ _
              refine G_ws (ws' := [(q7543, .inr (9, [.ref q7545, .int g11645])), (q7545, .inl (I .byte, 16384, .inl f11646)), (q7544, .inr (5, [.ref q7546, .ref q7547, .ref q7548, .ref q7549, .ref q7550, .ref q7551, .ref q7552, .ref q7553, .ref q7554, .int p7556, .int p7557, .int p7558])), (q7546, .inl (I .int, 40, .inl f7560)), (q7547, .inl (I .int, 40, .inl f7561)), (q7548, .inl (I .int, 40, .inl f7562)), (q7549, .inl (I .int, 200, .inl f7563)), (q7550, .inl (I .int, 200, .inl f7564)), (q7551, .inl (I .int, 200, .inl f7565)), (q7552, .inl (I .int, 200, .inl f7566)), (q7553, .inl (I .int, 200, .inl f7567)), (q7554, .inl (I .int, 200, .inl f7568))]) (cs' := 0) (sl' := 0) rfl rfl rfl ?_
              refine G_icmp_ge 83 d_cX4_write_41 (by decide +kernel) (fun hc11678 => ?_) (fun hc11678 => ?_)
              · have r11679 : z11651.toInt ≤ g11644.toInt := gC_le hc11678
                obtain ⟨z11680, hz11680⟩ : ∃ z : Int32, z = g11530 + Int32.ofInt 1 := ⟨_, rfl⟩
                have ez11680 : z11680.toInt = g11530.toInt + 1 := gI_inc hz11680 (by decide) bg11530' (by decide) (by decide)
                have bz11680 : gB z11680 1 40 := ⟨by omega, by omega⟩
                refine G_iinc (L' := [(2, .int z11680), (3, .int g11644), (0, .ref q7543), (1, .ref q7544)]) z11680 1 d_cX4_write_83 rfl hz11680.symm (Nat.le_of_ble_eq_true rfl) rfl ?_
                refine G_goto 7 d_cX4_write_86 (by decide +kernel) ?_
                refine G_lv (L' := [(2, .int z11680), (0, .ref q7543), (1, .ref q7544)]) [0, 2, 3] rfl ?_
                refine G_sub (ws' := [(q7543, .inr (9, [.ref q7545, .int g11645])), (q7544, .inr (5, [.ref q7546, .ref q7547, .ref q7548, .ref q7549, .ref q7550, .ref q7551, .ref q7552, .ref q7553, .ref q7554, .int p7556, .int p7557, .int p7558])), (q7545, .inl (I .byte, 16384, .inl f11646)), (q7546, .inl (I .int, 40, .inl f7560)), (q7547, .inl (I .int, 40, .inl f7561)), (q7548, .inl (I .int, 40, .inl f7562)), (q7549, .inl (I .int, 200, .inl f7563)), (q7550, .inl (I .int, 200, .inl f7564)), (q7551, .inl (I .int, 200, .inl f7565)), (q7552, .inl (I .int, 200, .inl f7566)), (q7553, .inl (I .int, 200, .inl f7567)), (q7554, .inl (I .int, 200, .inl f7568))]) [0, 2, 1, 3, 4, 5, 6, 7, 8, 9, 10, 11] rfl rfl ?_
                exact ih7_11532 z11680 g11645 f11646 (gB_w bz11680 (by decide) (by decide)) bg11645 bf11646 (by omega)
              · have r11681 : g11644.toInt < z11651.toInt := gC_nle hc11678
                have bg11644' : gB g11644 0 199 := ⟨by omega, by omega⟩
                have r11657' : gB z11651 1 200 := ⟨by omega, by omega⟩
                refine G_aload_n 3 d_cX4_write_44 rfl ?_
                refine G_getfN 2 3 d_cX4_write_45 rfl (gk_X0 D I) (Nat.le_of_ble_eq_true rfl) (fun _ _ _ h => gn_w 15 rfl h) rfl ?_
                refine G_iload_n 0 d_cX4_write_48 rfl ?_
                refine G_iald 6 0 d_cX4_write_49 rfl rfl (gB_in bg11644' (by decide) (by decide)) (G_nam fun z11682 hz11682 => ?_)
                have bz11682 : gB z11682 0 21 := by rw [hz11682]; exact bf7563 _
                refine G_bipush 19 d_cX4_write_50 (by decide +kernel) ?_
                refine G_icmp_lt 65 d_cX4_write_52 (by decide +kernel) (fun hc11683 => ?_) (fun hc11683 => ?_)
                · have r11684 : z11682.toInt < 19 := gj_lt hc11683 (show Int32.toInt 19 = 19 by decide)
                  have bz11682' : gB z11682 0 18 := ⟨by omega, by omega⟩
                  refine G_aload_n 2 d_cX4_write_65 rfl ?_
                  refine G_aload_n 3 d_cX4_write_66 rfl ?_
                  refine G_iload_n 0 d_cX4_write_67 rfl ?_
                  refine G_callV (As := [.ref q7544, .int g11644]) (wr := []) (gV_ok D I) (ct_10368_Listing_addRow l hl0 D I q7543 q7544 q7545 q7546 q7547 q7548 q7549 q7550 q7551 q7552 q7553 q7554 g11644 g11645 p7556 p7557 p7558 f11646 f7560 f7561 f7562 f7563 f7564 f7565 f7566 f7567 f7568 bg11644' bg11645 (gB_w bp7556'' (by decide) (by decide)) bp7557 bp7558 bf11646 bf7560 bf7563) d_cX4_write_68 ⟨w_6_199, w_1_13, w_6_202, by decide, rfl, (Nat.le_of_ble_eq_true rfl), (Nat.le_of_ble_eq_true rfl)⟩ w_6_201 w_p_70 0 rfl rfl [0, 2, 1, 3, 4, 5, 6, 7, 8, 9, 10, 11] [] rfl rfl rfl rfl (by decide) (Nat.le_of_ble_eq_true rfl) (Nat.le_of_ble_eq_true rfl) (Nat.le_of_ble_eq_true rfl) (fun r w hp => ?_) (fun _ _ _ z => z.elim)
                  obtain ⟨o11685, f11686, rfl, rfl, bo11685, bf11686⟩ := hp
                  change G _ _ _ _ _ _ _ _ _ _ _
                  refine G_ws (ws' := [(q7543, .inr (9, [.ref q7545, .int o11685])), (q7544, .inr (5, [.ref q7546, .ref q7547, .ref q7548, .ref q7549, .ref q7550, .ref q7551, .ref q7552, .ref q7553, .ref q7554, .int p7556, .int p7557, .int p7558])), (q7545, .inl (I .byte, 16384, .inl f11686)), (q7546, .inl (I .int, 40, .inl f7560)), (q7547, .inl (I .int, 40, .inl f7561)), (q7548, .inl (I .int, 40, .inl f7562)), (q7549, .inl (I .int, 200, .inl f7563)), (q7550, .inl (I .int, 200, .inl f7564)), (q7551, .inl (I .int, 200, .inl f7565)), (q7552, .inl (I .int, 200, .inl f7566)), (q7553, .inl (I .int, 200, .inl f7567)), (q7554, .inl (I .int, 200, .inl f7568))]) (cs' := 0) (sl' := 0) rfl rfl rfl ?_
                  refine G_aload_n 2 d_cX4_write_71 rfl ?_
                  refine G_bipush 10 d_cX4_write_72 (by decide +kernel) ?_
                  refine G_callV (As := [.int 10]) (wr := [(q7544, .inr (5, [.ref q7546, .ref q7547, .ref q7548, .ref q7549, .ref q7550, .ref q7551, .ref q7552, .ref q7553, .ref q7554, .int p7556, .int p7557, .int p7558])), (q7546, .inl (I .int, 40, .inl f7560)), (q7547, .inl (I .int, 40, .inl f7561)), (q7548, .inl (I .int, 40, .inl f7562)), (q7549, .inl (I .int, 200, .inl f7563)), (q7550, .inl (I .int, 200, .inl f7564)), (q7551, .inl (I .int, 200, .inl f7565)), (q7552, .inl (I .int, 200, .inl f7566)), (q7553, .inl (I .int, 200, .inl f7567)), (q7554, .inl (I .int, 200, .inl f7568))]) (gV_ok D I) (ct_7602_Listing_addByte l hl0 D I q7543 q7545 10 o11685 f11686 (gB_w (gBl (show Int32.toInt 10 = 10 by decide)) (by decide) (by decide)) bo11685 bf11686) d_cX4_write_74 ⟨w_6_171, w_1_13, w_6_174, by decide, rfl, (Nat.le_of_ble_eq_true rfl), (Nat.le_of_ble_eq_true rfl)⟩ w_6_173 w_p_66 0 rfl rfl [0, 2] [1, 3, 4, 5, 6, 7, 8, 9, 10, 11] rfl rfl rfl rfl (by decide) (Nat.le_of_ble_eq_true rfl) (Nat.le_of_ble_eq_true rfl) (Nat.le_of_ble_eq_true rfl) (fun r w hp => ?_) (fun _ _ _ z => z.elim)
                  obtain ⟨o11687, f11688, rfl, rfl, bo11687, bf11688⟩ := hp
                  change G _ _ _ _ _ _ _ _ _ _ _
                  refine G_ws (ws' := [(q7544, .inr (5, [.ref q7546, .ref q7547, .ref q7548, .ref q7549, .ref q7550, .ref q7551, .ref q7552, .ref q7553, .ref q7554, .int p7556, .int p7557, .int p7558])), (q7546, .inl (I .int, 40, .inl f7560)), (q7547, .inl (I .int, 40, .inl f7561)), (q7548, .inl (I .int, 40, .inl f7562)), (q7549, .inl (I .int, 200, .inl f7563)), (q7550, .inl (I .int, 200, .inl f7564)), (q7551, .inl (I .int, 200, .inl f7565)), (q7552, .inl (I .int, 200, .inl f7566)), (q7553, .inl (I .int, 200, .inl f7567)), (q7554, .inl (I .int, 200, .inl f7568)), (q7543, .inr (9, [.ref q7545, .int o11687])), (q7545, .inl (I .byte, 16384, .inl f11688))]) (cs' := 0) (sl' := 0) rfl rfl rfl ?_
                  obtain ⟨z11689, hz11689⟩ : ∃ z : Int32, z = g11644 + Int32.ofInt 1 := ⟨_, rfl⟩
                  have ez11689 : z11689.toInt = g11644.toInt + 1 := gI_inc hz11689 (by decide) bg11644' (by decide) (by decide)
                  have bz11689 : gB z11689 1 200 := ⟨by omega, by omega⟩
                  refine G_iinc (L' := [(3, .int z11689), (2, .int g11530), (0, .ref q7543), (1, .ref q7544)]) z11689 0 d_cX4_write_77 rfl hz11689.symm (Nat.le_of_ble_eq_true rfl) rfl ?_
                  refine G_goto 35 d_cX4_write_80 (by decide +kernel) ?_
                  exact ih35_11646 z11689 o11687 f11688 (gB_w bz11689 (by decide) (by decide)) (gB_w bo11687 (by decide) (by decide)) bf11688 (by omega)
                · have r11690 : 19 ≤ z11682.toInt := gj_nlt hc11683 (show Int32.toInt 19 = 19 by decide)
                  have bz11682' : gB z11682 19 21 := ⟨by omega, by omega⟩
                  refine G_aload_n 2 d_cX4_write_55 rfl ?_
                  refine G_aload_n 3 d_cX4_write_56 rfl ?_
                  refine G_iload_n 1 d_cX4_write_57 rfl ?_
                  refine G_iload_n 0 d_cX4_write_58 rfl ?_
                  refine G_callV (As := [.ref q7544, .int g11530, .int g11644]) (wr := []) (gV_ok D I) (ct_10542_Listing_addEnd l hl0 D I q7543 q7544 q7545 q7546 q7547 q7548 q7549 q7550 q7551 q7552 q7553 q7554 g11530 g11644 g11645 p7556 p7557 p7558 f11646 f7560 f7561 f7562 f7563 f7564 f7565 f7566 f7567 f7568 bg11530' bg11644' bg11645 (gB_w bp7556'' (by decide) (by decide)) bp7557 bp7558 bf11646 bf7560 bf7563) d_cX4_write_59 ⟨w_6_186, w_1_13, w_6_189, by decide, rfl, (Nat.le_of_ble_eq_true rfl), (Nat.le_of_ble_eq_true rfl)⟩ w_6_188 w_p_68 0 rfl rfl [0, 2, 1, 3, 4, 5, 6, 7, 8, 9, 10, 11] [] rfl rfl rfl rfl (by decide) (Nat.le_of_ble_eq_true rfl) (Nat.le_of_ble_eq_true rfl) (Nat.le_of_ble_eq_true rfl) (fun r w hp => ?_) (fun _ _ _ z => z.elim)
                  obtain ⟨o11691, f11692, rfl, rfl, bo11691, bf11692⟩ := hp
                  change G _ _ _ _ _ _ _ _ _ _ _
                  refine G_ws (ws' := [(q7543, .inr (9, [.ref q7545, .int o11691])), (q7544, .inr (5, [.ref q7546, .ref q7547, .ref q7548, .ref q7549, .ref q7550, .ref q7551, .ref q7552, .ref q7553, .ref q7554, .int p7556, .int p7557, .int p7558])), (q7545, .inl (I .byte, 16384, .inl f11692)), (q7546, .inl (I .int, 40, .inl f7560)), (q7547, .inl (I .int, 40, .inl f7561)), (q7548, .inl (I .int, 40, .inl f7562)), (q7549, .inl (I .int, 200, .inl f7563)), (q7550, .inl (I .int, 200, .inl f7564)), (q7551, .inl (I .int, 200, .inl f7565)), (q7552, .inl (I .int, 200, .inl f7566)), (q7553, .inl (I .int, 200, .inl f7567)), (q7554, .inl (I .int, 200, .inl f7568))]) (cs' := 0) (sl' := 0) rfl rfl rfl ?_
                  refine G_goto 71 d_cX4_write_62 (by decide +kernel) ?_
                  refine G_aload_n 2 d_cX4_write_71 rfl ?_
                  refine G_bipush 10 d_cX4_write_72 (by decide +kernel) ?_
                  refine G_callV (As := [.int 10]) (wr := [(q7544, .inr (5, [.ref q7546, .ref q7547, .ref q7548, .ref q7549, .ref q7550, .ref q7551, .ref q7552, .ref q7553, .ref q7554, .int p7556, .int p7557, .int p7558])), (q7546, .inl (I .int, 40, .inl f7560)), (q7547, .inl (I .int, 40, .inl f7561)), (q7548, .inl (I .int, 40, .inl f7562)), (q7549, .inl (I .int, 200, .inl f7563)), (q7550, .inl (I .int, 200, .inl f7564)), (q7551, .inl (I .int, 200, .inl f7565)), (q7552, .inl (I .int, 200, .inl f7566)), (q7553, .inl (I .int, 200, .inl f7567)), (q7554, .inl (I .int, 200, .inl f7568))]) (gV_ok D I) (ct_7602_Listing_addByte l hl0 D I q7543 q7545 10 o11691 f11692 (gB_w (gBl (show Int32.toInt 10 = 10 by decide)) (by decide) (by decide)) bo11691 bf11692) d_cX4_write_74 ⟨w_6_171, w_1_13, w_6_174, by decide, rfl, (Nat.le_of_ble_eq_true rfl), (Nat.le_of_ble_eq_true rfl)⟩ w_6_173 w_p_66 0 rfl rfl [0, 2] [1, 3, 4, 5, 6, 7, 8, 9, 10, 11] rfl rfl rfl rfl (by decide) (Nat.le_of_ble_eq_true rfl) (Nat.le_of_ble_eq_true rfl) (Nat.le_of_ble_eq_true rfl) (fun r w hp => ?_) (fun _ _ _ z => z.elim)
                  obtain ⟨o11693, f11694, rfl, rfl, bo11693, bf11694⟩ := hp
                  change G _ _ _ _ _ _ _ _ _ _ _
                  refine G_ws (ws' := [(q7544, .inr (5, [.ref q7546, .ref q7547, .ref q7548, .ref q7549, .ref q7550, .ref q7551, .ref q7552, .ref q7553, .ref q7554, .int p7556, .int p7557, .int p7558])), (q7546, .inl (I .int, 40, .inl f7560)), (q7547, .inl (I .int, 40, .inl f7561)), (q7548, .inl (I .int, 40, .inl f7562)), (q7549, .inl (I .int, 200, .inl f7563)), (q7550, .inl (I .int, 200, .inl f7564)), (q7551, .inl (I .int, 200, .inl f7565)), (q7552, .inl (I .int, 200, .inl f7566)), (q7553, .inl (I .int, 200, .inl f7567)), (q7554, .inl (I .int, 200, .inl f7568)), (q7543, .inr (9, [.ref q7545, .int o11693])), (q7545, .inl (I .byte, 16384, .inl f11694))]) (cs' := 0) (sl' := 0) rfl rfl rfl ?_
                  obtain ⟨z11695, hz11695⟩ : ∃ z : Int32, z = g11644 + Int32.ofInt 1 := ⟨_, rfl⟩
                  have ez11695 : z11695.toInt = g11644.toInt + 1 := gI_inc hz11695 (by decide) bg11644' (by decide) (by decide)
                  have bz11695 : gB z11695 1 200 := ⟨by omega, by omega⟩
                  refine G_iinc (L' := [(3, .int z11695), (2, .int g11530), (0, .ref q7543), (1, .ref q7544)]) z11695 0 d_cX4_write_77 rfl hz11695.symm (Nat.le_of_ble_eq_true rfl) rfl ?_
                  refine G_goto 35 d_cX4_write_80 (by decide +kernel) ?_
                  exact ih35_11646 z11695 o11693 f11694 (gB_w bz11695 (by decide) (by decide)) (gB_w bo11693 (by decide) (by decide)) bf11694 (by omega)
        exact hlp35_11646 (((201 : Int) - z11542.toInt).toNat + 1) z11542 o11540 f11541 bz11542 bo11540 bf11541 (Nat.lt_succ_self _)
  exact hlp7_11532 (((41 : Int) - 0).toNat + 1) 0 0 f7559 (gB_w (gBl (show Int32.toInt 0 = 0 by decide)) (by decide) (by decide)) (gB_w (gBl (show Int32.toInt 0 = 0 by decide)) (by decide) (by decide)) bf7559 (Nat.lt_succ_self _)
abbrev ky_12081_Live_enterBehind : gKey := (cX5_enterBehind, 8, yX5_enterBehind.cls, none, [], yX5_enterBehind.name, fun _ _ => True)
abbrev po_12081_Live_enterBehind (I : FieldType → ClassId) (q12044 : Nat) (q12045 : Nat) (q12046 : Nat) (q12047 : Nat) (q12048 : Nat) (q12049 : Nat) (q12050 : Nat) (q12051 : Nat) (q12052 : Nat) (q12053 : Nat) (q12054 : Nat) (q12055 : Nat) (q12056 : Nat) (q12057 : Nat) (q12058 : Nat) (p12059 : Int32) (p12060 : Int32) (p12061 : Int32) (p12062 : Int32) (p12063 : Int32) (p12064 : Int32) (p12065 : Int32) (f12066 : Nat → Int64) (f12067 : Nat → Int64) (f12068 : Nat → Int64) (f12069 : Nat → Int64) (f12070 : Nat → Int32) (f12071 : Nat → Int32) (f12072 : Nat → Int32) (f12073 : Nat → Int32) (f12074 : Nat → Int32) (f12075 : Nat → Int32) (f12076 : Nat → Int32) (f12077 : Nat → Int32) (f12078 : Nat → Int32) : Option Value → va_W → Prop := fun r w => ∃ (f12508 : Nat → Int64), r = none ∧ w = [(q12044, .inr (10, [.ref q12046, .ref q12047, .ref q12048, .ref q12049, .int p12060, .int p12061, .int p12062])), (q12045, .inr (5, [.ref q12050, .ref q12051, .ref q12052, .ref q12053, .ref q12054, .ref q12055, .ref q12056, .ref q12057, .ref q12058, .int p12063, .int p12064, .int p12065])), (q12046, .inl (I .long, 480, .inr (.inl f12066))), (q12047, .inl (I .long, 480, .inr (.inl f12067))), (q12048, .inl (I .long, 480, .inr (.inl f12068))), (q12049, .inl (I .long, 12, .inr (.inl f12508))), (q12050, .inl (I .int, 40, .inl f12070)), (q12051, .inl (I .int, 40, .inl f12071)), (q12052, .inl (I .int, 40, .inl f12072)), (q12053, .inl (I .int, 200, .inl f12073)), (q12054, .inl (I .int, 200, .inl f12074)), (q12055, .inl (I .int, 200, .inl f12075)), (q12056, .inl (I .int, 200, .inl f12076)), (q12057, .inl (I .int, 200, .inl f12077)), (q12058, .inl (I .int, 200, .inl f12078))] ∧ lb_W f12508 (p12061.toInt) (p12061.toInt) (p12060.toInt)
set_option maxRecDepth 100000 in
set_option maxHeartbeats 4000000 in
theorem ct_12081_Live_enterBehind (l : Launch) (hl0 : l.stackTraces = false) (D : va_G) (I : FieldType → ClassId) (q12044 : Nat) (q12045 : Nat) (q12046 : Nat) (q12047 : Nat) (q12048 : Nat) (q12049 : Nat) (q12050 : Nat) (q12051 : Nat) (q12052 : Nat) (q12053 : Nat) (q12054 : Nat) (q12055 : Nat) (q12056 : Nat) (q12057 : Nat) (q12058 : Nat) (p12059 : Int32) (p12060 : Int32) (p12061 : Int32) (p12062 : Int32) (p12063 : Int32) (p12064 : Int32) (p12065 : Int32) (f12066 : Nat → Int64) (f12067 : Nat → Int64) (f12068 : Nat → Int64) (f12069 : Nat → Int64) (f12070 : Nat → Int32) (f12071 : Nat → Int32) (f12072 : Nat → Int32) (f12073 : Nat → Int32) (f12074 : Nat → Int32) (f12075 : Nat → Int32) (f12076 : Nat → Int32) (f12077 : Nat → Int32) (f12078 : Nat → Int32) (bp12059 : gB p12059 0 39) (bp12060 : gB p12060 0 720) (bp12061 : gB p12061 0 12) (bp12062 : gB p12062 0 1) (bp12063 : gB p12063 0 40) (bp12064 : gB p12064 0 200) (bp12065 : gB p12065 0 1) (bf12070 : gF f12070 0 200) (bf12073 : gF f12073 0 21) (x12079 : lb_W f12066 (p12063.toInt * p12061.toInt) (p12061.toInt) (p12060.toInt)) (x12080 : p12061.toInt = (p12060.toInt + 63) / 64) : Ct (gV D I) l yX5_enterBehind cX5_enterBehind 8 none 0 0 0 0 [.ref q12044, .ref q12045, .int p12059] [(q12044, .inr (10, [.ref q12046, .ref q12047, .ref q12048, .ref q12049, .int p12060, .int p12061, .int p12062])), (q12045, .inr (5, [.ref q12050, .ref q12051, .ref q12052, .ref q12053, .ref q12054, .ref q12055, .ref q12056, .ref q12057, .ref q12058, .int p12063, .int p12064, .int p12065])), (q12046, .inl (I .long, 480, .inr (.inl f12066))), (q12047, .inl (I .long, 480, .inr (.inl f12067))), (q12048, .inl (I .long, 480, .inr (.inl f12068))), (q12049, .inl (I .long, 12, .inr (.inl f12069))), (q12050, .inl (I .int, 40, .inl f12070)), (q12051, .inl (I .int, 40, .inl f12071)), (q12052, .inl (I .int, 40, .inl f12072)), (q12053, .inl (I .int, 200, .inl f12073)), (q12054, .inl (I .int, 200, .inl f12074)), (q12055, .inl (I .int, 200, .inl f12075)), (q12056, .inl (I .int, 200, .inl f12076)), (q12057, .inl (I .int, 200, .inl f12077)), (q12058, .inl (I .int, 200, .inl f12078))] (po_12081_Live_enterBehind I q12044 q12045 q12046 q12047 q12048 q12049 q12050 q12051 q12052 q12053 q12054 q12055 q12056 q12057 q12058 p12059 p12060 p12061 p12062 p12063 p12064 p12065 f12066 f12067 f12068 f12069 f12070 f12071 f12072 f12073 f12074 f12075 f12076 f12077 f12078) gN := by
  refine Ct_of hl0 (by decide) (Nat.le_of_ble_eq_true rfl) ?_
  refine G_aload_n 1 d_cX5_enterBehind_0 rfl ?_
  refine G_getfN 1 1 d_cX5_enterBehind_1 rfl (gk_X0 D I) (Nat.le_of_ble_eq_true rfl) (fun _ _ _ h => gn_w 9 rfl h) rfl ?_
  refine G_iload_n 2 d_cX5_enterBehind_4 rfl ?_
  refine G_iald 7 0 d_cX5_enterBehind_5 rfl rfl (gB_in bp12059 (by decide) (by decide)) (G_nam fun z12082 hz12082 => ?_)
  have bz12082 : gB z12082 (-2147483648) 2147483647 := gB_any z12082
  refine G_istore_n (L' := [(3, .int z12082), (0, .ref q12044), (1, .ref q12045), (2, .int p12059)]) d_cX5_enterBehind_6 (Nat.le_of_ble_eq_true rfl) rfl ?_
  refine G_aload_n 2 d_cX5_enterBehind_7 rfl ?_
  refine G_getfN 1 2 d_cX5_enterBehind_8 rfl (gk_X0 D I) (Nat.le_of_ble_eq_true rfl) (fun _ _ _ h => gn_w 13 rfl h) rfl ?_
  refine G_iload_n 3 d_cX5_enterBehind_11 rfl ?_
  refine G_iald 8 0 d_cX5_enterBehind_12 rfl rfl (gB_in bp12059 (by decide) (by decide)) (G_nam fun z12083 hz12083 => ?_)
  have bz12083 : gB z12083 (-2147483648) 2147483647 := gB_any z12083
  refine G_istore (L' := [(4, .int z12083), (3, .int z12082), (0, .ref q12044), (1, .ref q12045), (2, .int p12059)]) d_cX5_enterBehind_13 (Nat.le_of_ble_eq_true rfl) rfl ?_
  refine G_iconst 0 d_cX5_enterBehind_15 (by decide +kernel) ?_
  refine G_istore (L' := [(5, .int 0), (4, .int z12083), (3, .int z12082), (0, .ref q12044), (1, .ref q12045), (2, .int p12059)]) d_cX5_enterBehind_16 (Nat.le_of_ble_eq_true rfl) rfl ?_
  have hlp18_12447 : ∀ (n18_12447 : Nat) (g12445 : Int32) (f12446 : Nat → Int64), gB g12445 0 12 → lb_W f12446 (g12445.toInt) (p12061.toInt) (p12060.toInt) → ((13 : Int) - g12445.toInt).toNat < n18_12447 → G (gV D I) l (gRm 0 0 0 0) (gM (gV D I) (po_12081_Live_enterBehind I q12044 q12045 q12046 q12047 q12048 q12049 q12050 q12051 q12052 q12053 q12054 q12055 q12056 q12057 q12058 p12059 p12060 p12061 p12062 p12063 p12064 p12065 f12066 f12067 f12068 f12069 f12070 f12071 f12072 f12073 f12074 f12075 f12076 f12077 f12078) gN 0 0) ky_12081_Live_enterBehind 18 [(5, .int g12445), (4, .int z12083), (3, .int z12082), (0, .ref q12044), (1, .ref q12045), (2, .int p12059)] [] [(q12044, .inr (10, [.ref q12046, .ref q12047, .ref q12048, .ref q12049, .int p12060, .int p12061, .int p12062])), (q12045, .inr (5, [.ref q12050, .ref q12051, .ref q12052, .ref q12053, .ref q12054, .ref q12055, .ref q12056, .ref q12057, .ref q12058, .int p12063, .int p12064, .int p12065])), (q12046, .inl (I .long, 480, .inr (.inl f12066))), (q12047, .inl (I .long, 480, .inr (.inl f12067))), (q12048, .inl (I .long, 480, .inr (.inl f12068))), (q12049, .inl (I .long, 12, .inr (.inl f12446))), (q12050, .inl (I .int, 40, .inl f12070)), (q12051, .inl (I .int, 40, .inl f12071)), (q12052, .inl (I .int, 40, .inl f12072)), (q12053, .inl (I .int, 200, .inl f12073)), (q12054, .inl (I .int, 200, .inl f12074)), (q12055, .inl (I .int, 200, .inl f12075)), (q12056, .inl (I .int, 200, .inl f12076)), (q12057, .inl (I .int, 200, .inl f12077)), (q12058, .inl (I .int, 200, .inl f12078))] 0 0 := by
    intro n18_12447
    induction n18_12447 with
    | zero => intro g12445 f12446 bg12445 x12447 hm18_12447; exact absurd hm18_12447 (Nat.not_lt_zero _)
    | succ n18_12447 ih18_12447 =>
      intro g12445 f12446 bg12445 x12447 hm18_12447
      refine G_iload 0 d_cX5_enterBehind_18 rfl ?_
      refine G_aload_n 3 d_cX5_enterBehind_20 rfl ?_
      refine G_getf 0 5 d_cX5_enterBehind_21 rfl (gk_X5 D I) (Nat.le_of_ble_eq_true rfl) w_2_29 rfl ?_
      refine G_icmp_ge 109 d_cX5_enterBehind_24 (by decide +kernel) (fun hc12448 => ?_) (fun hc12448 => ?_)
      · have r12449 : p12061.toInt ≤ g12445.toInt := gC_le hc12448
        exact G_vret d_cX5_enterBehind_109 rfl (Nat.le_of_ble_eq_true rfl) (Nat.le_of_ble_eq_true rfl) ⟨f12446, rfl, rfl, (lb_Wle x12447 (by omega))⟩
      · have r12450 : g12445.toInt < p12061.toInt := gC_nle hc12448
        have bg12445' : gB g12445 0 11 := ⟨by omega, by omega⟩
        have bp12061' : gB p12061 1 12 := ⟨by omega, by omega⟩
        refine G_iload_n 2 d_cX5_enterBehind_27 rfl ?_
        refine G_if_lt 56 d_cX5_enterBehind_28 (by decide +kernel) (fun hc12451 => ?_) (fun hc12451 => ?_)
        · have r12452 : z12082.toInt < 0 := gj_lt hc12451 (show Int32.toInt 0 = 0 by decide)
          have bz12082' : gB z12082 (-2147483648) (-1) := ⟨by omega, by omega⟩
          refine G_lconst 0 d_cX5_enterBehind_56 rfl ?_
          refine G_lstore (L' := [(6, .long 0), (5, .int g12445), (4, .int z12083), (3, .int z12082), (0, .ref q12044), (1, .ref q12045), (2, .int p12059)]) d_cX5_enterBehind_57 (Nat.le_of_ble_eq_true rfl) rfl ?_
          refine G_aload_n 4 d_cX5_enterBehind_59 rfl ?_
          refine G_getf 0 3 d_cX5_enterBehind_60 rfl (gk_X5 D I) (Nat.le_of_ble_eq_true rfl) w_2_25 rfl ?_
          refine G_iload 1 d_cX5_enterBehind_63 rfl ?_
          refine G_iload 2 d_cX5_enterBehind_65 rfl ?_
          refine G_if_lt 100 d_cX5_enterBehind_67 (by decide +kernel) (fun hc12453 => ?_) (fun hc12453 => ?_)
          · have r12454 : z12083.toInt < 0 := gj_lt hc12453 (show Int32.toInt 0 = 0 by decide)
            have bz12083' : gB z12083 (-2147483648) (-1) := ⟨by omega, by omega⟩
            refine G_lload 0 d_cX5_enterBehind_100 rfl ?_
            refine G_lastN 5 2 d_cX5_enterBehind_102 rfl rfl (gB_in bg12445' (by decide) (by decide)) (fun f12455 hf12455 => ?_)
            refine G_ws (ws' := [(q12044, .inr (10, [.ref q12046, .ref q12047, .ref q12048, .ref q12049, .int p12060, .int p12061, .int p12062])), (q12045, .inr (5, [.ref q12050, .ref q12051, .ref q12052, .ref q12053, .ref q12054, .ref q12055, .ref q12056, .ref q12057, .ref q12058, .int p12063, .int p12064, .int p12065])), (q12046, .inl (I .long, 480, .inr (.inl f12066))), (q12047, .inl (I .long, 480, .inr (.inl f12067))), (q12048, .inl (I .long, 480, .inr (.inl f12068))), (q12049, .inl (I .long, 12, .inr (.inl f12455))), (q12050, .inl (I .int, 40, .inl f12070)), (q12051, .inl (I .int, 40, .inl f12071)), (q12052, .inl (I .int, 40, .inl f12072)), (q12053, .inl (I .int, 200, .inl f12073)), (q12054, .inl (I .int, 200, .inl f12074)), (q12055, .inl (I .int, 200, .inl f12075)), (q12056, .inl (I .int, 200, .inl f12076)), (q12057, .inl (I .int, 200, .inl f12077)), (q12058, .inl (I .int, 200, .inl f12078))]) (cs' := 0) (sl' := 0) rfl rfl rfl ?_
            have wf12455 : lb_W f12455 (g12445.toInt + 1) (p12061.toInt) (p12060.toInt) := lb_Wext hf12455 x12447 (by omega) (lb_Mod0 (by omega) (by omega)) lb_Q0
            obtain ⟨z12456, hz12456⟩ : ∃ z : Int32, z = g12445 + Int32.ofInt 1 := ⟨_, rfl⟩
            have ez12456 : z12456.toInt = g12445.toInt + 1 := gI_inc hz12456 (by decide) bg12445' (by decide) (by decide)
            have bz12456 : gB z12456 1 12 := ⟨by omega, by omega⟩
            refine G_iinc (L' := [(5, .int z12456), (6, .long 0), (4, .int z12083), (3, .int z12082), (0, .ref q12044), (1, .ref q12045), (2, .int p12059)]) z12456 1 d_cX5_enterBehind_103 rfl hz12456.symm (Nat.le_of_ble_eq_true rfl) rfl ?_
            refine G_goto 18 d_cX5_enterBehind_106 (by decide +kernel) ?_
            refine G_lv (L' := [(5, .int z12456), (4, .int z12083), (3, .int z12082), (0, .ref q12044), (1, .ref q12045), (2, .int p12059)]) [0, 2, 3, 4, 5, 6] rfl ?_
            exact ih18_12447 z12456 f12455 (gB_w bz12456 (by decide) (by decide)) (lb_Wle wf12455 (by omega)) (by omega)
          · have r12457 : 0 ≤ z12083.toInt := gj_nlt hc12453 (show Int32.toInt 0 = 0 by decide)
            have bz12083' : gB z12083 0 2147483647 := ⟨by omega, by omega⟩
            refine G_iload 2 d_cX5_enterBehind_70 rfl ?_
            refine G_aload_n 5 d_cX5_enterBehind_72 rfl ?_
            refine G_getfN 1 9 d_cX5_enterBehind_73 rfl (gk_X0 D I) (Nat.le_of_ble_eq_true rfl) (fun _ _ _ h => gn_w 37 rfl h) rfl ?_
            refine G_icmp_ge 100 d_cX5_enterBehind_76 (by decide +kernel) (fun hc12458 => ?_) (fun hc12458 => ?_)
            · have r12459 : p12063.toInt ≤ z12083.toInt := gC_le hc12458
              refine G_lload 0 d_cX5_enterBehind_100 rfl ?_
              refine G_lastN 5 2 d_cX5_enterBehind_102 rfl rfl (gB_in bg12445' (by decide) (by decide)) (fun f12460 hf12460 => ?_)
              refine G_ws (ws' := [(q12044, .inr (10, [.ref q12046, .ref q12047, .ref q12048, .ref q12049, .int p12060, .int p12061, .int p12062])), (q12045, .inr (5, [.ref q12050, .ref q12051, .ref q12052, .ref q12053, .ref q12054, .ref q12055, .ref q12056, .ref q12057, .ref q12058, .int p12063, .int p12064, .int p12065])), (q12046, .inl (I .long, 480, .inr (.inl f12066))), (q12047, .inl (I .long, 480, .inr (.inl f12067))), (q12048, .inl (I .long, 480, .inr (.inl f12068))), (q12049, .inl (I .long, 12, .inr (.inl f12460))), (q12050, .inl (I .int, 40, .inl f12070)), (q12051, .inl (I .int, 40, .inl f12071)), (q12052, .inl (I .int, 40, .inl f12072)), (q12053, .inl (I .int, 200, .inl f12073)), (q12054, .inl (I .int, 200, .inl f12074)), (q12055, .inl (I .int, 200, .inl f12075)), (q12056, .inl (I .int, 200, .inl f12076)), (q12057, .inl (I .int, 200, .inl f12077)), (q12058, .inl (I .int, 200, .inl f12078))]) (cs' := 0) (sl' := 0) rfl rfl rfl ?_
              have wf12460 : lb_W f12460 (g12445.toInt + 1) (p12061.toInt) (p12060.toInt) := lb_Wext hf12460 x12447 (by omega) (lb_Mod0 (by omega) (by omega)) lb_Q0
              obtain ⟨z12461, hz12461⟩ : ∃ z : Int32, z = g12445 + Int32.ofInt 1 := ⟨_, rfl⟩
              have ez12461 : z12461.toInt = g12445.toInt + 1 := gI_inc hz12461 (by decide) bg12445' (by decide) (by decide)
              have bz12461 : gB z12461 1 12 := ⟨by omega, by omega⟩
              refine G_iinc (L' := [(5, .int z12461), (6, .long 0), (4, .int z12083), (3, .int z12082), (0, .ref q12044), (1, .ref q12045), (2, .int p12059)]) z12461 1 d_cX5_enterBehind_103 rfl hz12461.symm (Nat.le_of_ble_eq_true rfl) rfl ?_
              refine G_goto 18 d_cX5_enterBehind_106 (by decide +kernel) ?_
              refine G_lv (L' := [(5, .int z12461), (4, .int z12083), (3, .int z12082), (0, .ref q12044), (1, .ref q12045), (2, .int p12059)]) [0, 2, 3, 4, 5, 6] rfl ?_
              exact ih18_12447 z12461 f12460 (gB_w bz12461 (by decide) (by decide)) (lb_Wle wf12460 (by omega)) (by omega)
            · have r12462 : z12083.toInt < p12063.toInt := gC_nle hc12458
              have bz12083'' : gB z12083 0 39 := ⟨by omega, by omega⟩
              have bp12063' : gB p12063 1 40 := ⟨by omega, by omega⟩
              refine G_lload 0 d_cX5_enterBehind_79 rfl ?_
              refine G_aload_n 4 d_cX5_enterBehind_81 rfl ?_
              refine G_getf 0 0 d_cX5_enterBehind_82 rfl (gk_X5 D I) (Nat.le_of_ble_eq_true rfl) w_2_22 rfl ?_
              refine G_iload 2 d_cX5_enterBehind_85 rfl ?_
              refine G_aload_n 4 d_cX5_enterBehind_87 rfl ?_
              refine G_getf 0 5 d_cX5_enterBehind_88 rfl (gk_X5 D I) (Nat.le_of_ble_eq_true rfl) w_2_29 rfl ?_
              refine G_imul d_cX5_enterBehind_91 (G_nam fun z12463 hz12463 => ?_)
              have ez12463 : z12463.toInt = z12083.toInt * p12061.toInt := by rw [gI_mul hz12463 bz12083'' bp12061' (by decide) (by decide) (by decide)]
              have bz12463 : gB z12463 0 468 := gB_mul hz12463 bz12083'' bp12061' (by decide) (by decide) (by decide) (by decide)
              refine G_iload 1 d_cX5_enterBehind_92 rfl ?_
              refine G_iadd d_cX5_enterBehind_94 (G_nam fun z12464 hz12464 => ?_)
              have ez12464 : z12464.toInt = z12463.toInt + g12445.toInt := by rw [gI_add hz12464 bz12463 bg12445' (by decide) (by decide)]
              have bz12464 : gB z12464 0 479 := gB_add (gI_add hz12464 bz12463 bg12445' (by decide) (by decide)) bz12463 bg12445' (by decide) (by decide)
              refine G_lald 2 2 d_cX5_enterBehind_95 rfl rfl (gB_in bz12464 (by decide) (by decide)) (G_namL fun u12465 hu12465 => ?_)
              have qu12465 : lb_Q u12465 (p12060.toInt - 64 * g12445.toInt) := lb_Wld hu12465 x12079 (by omega) (lb_Lt1 ez12464 ez12463 (by omega) (by omega) (by omega)) (lb_Mod1 ez12464 ez12463 (by omega) (by omega))
              refine G_lor d_cX5_enterBehind_96 (G_namL fun u12466 hu12466 => ?_)
              have qu12466 : lb_Q u12466 (p12060.toInt - 64 * g12445.toInt) := lb_Qor hu12466 lb_Q0 qu12465
              refine G_goto 102 d_cX5_enterBehind_97 (by decide +kernel) ?_
              refine G_lastN 5 2 d_cX5_enterBehind_102 rfl rfl (gB_in bg12445' (by decide) (by decide)) (fun f12467 hf12467 => ?_)
              refine G_ws (ws' := [(q12044, .inr (10, [.ref q12046, .ref q12047, .ref q12048, .ref q12049, .int p12060, .int p12061, .int p12062])), (q12045, .inr (5, [.ref q12050, .ref q12051, .ref q12052, .ref q12053, .ref q12054, .ref q12055, .ref q12056, .ref q12057, .ref q12058, .int p12063, .int p12064, .int p12065])), (q12046, .inl (I .long, 480, .inr (.inl f12066))), (q12047, .inl (I .long, 480, .inr (.inl f12067))), (q12048, .inl (I .long, 480, .inr (.inl f12068))), (q12049, .inl (I .long, 12, .inr (.inl f12467))), (q12050, .inl (I .int, 40, .inl f12070)), (q12051, .inl (I .int, 40, .inl f12071)), (q12052, .inl (I .int, 40, .inl f12072)), (q12053, .inl (I .int, 200, .inl f12073)), (q12054, .inl (I .int, 200, .inl f12074)), (q12055, .inl (I .int, 200, .inl f12075)), (q12056, .inl (I .int, 200, .inl f12076)), (q12057, .inl (I .int, 200, .inl f12077)), (q12058, .inl (I .int, 200, .inl f12078))]) (cs' := 0) (sl' := 0) rfl rfl rfl ?_
              have wf12467 : lb_W f12467 (g12445.toInt + 1) (p12061.toInt) (p12060.toInt) := lb_Wext hf12467 x12447 (by omega) (lb_Mod0 (by omega) (by omega)) qu12466
              obtain ⟨z12468, hz12468⟩ : ∃ z : Int32, z = g12445 + Int32.ofInt 1 := ⟨_, rfl⟩
              have ez12468 : z12468.toInt = g12445.toInt + 1 := gI_inc hz12468 (by decide) bg12445' (by decide) (by decide)
              have bz12468 : gB z12468 1 12 := ⟨by omega, by omega⟩
              refine G_iinc (L' := [(5, .int z12468), (6, .long 0), (4, .int z12083), (3, .int z12082), (0, .ref q12044), (1, .ref q12045), (2, .int p12059)]) z12468 1 d_cX5_enterBehind_103 rfl hz12468.symm (Nat.le_of_ble_eq_true rfl) rfl ?_
              refine G_goto 18 d_cX5_enterBehind_106 (by decide +kernel) ?_
              refine G_lv (L' := [(5, .int z12468), (4, .int z12083), (3, .int z12082), (0, .ref q12044), (1, .ref q12045), (2, .int p12059)]) [0, 2, 3, 4, 5, 6] rfl ?_
              exact ih18_12447 z12468 f12467 (gB_w bz12468 (by decide) (by decide)) (lb_Wle wf12467 (by omega)) (by omega)
        · have r12469 : 0 ≤ z12082.toInt := gj_nlt hc12451 (show Int32.toInt 0 = 0 by decide)
          have bz12082' : gB z12082 0 2147483647 := ⟨by omega, by omega⟩
          refine G_iload_n 2 d_cX5_enterBehind_31 rfl ?_
          refine G_aload_n 4 d_cX5_enterBehind_32 rfl ?_
          refine G_getfN 1 9 d_cX5_enterBehind_33 rfl (gk_X0 D I) (Nat.le_of_ble_eq_true rfl) (fun _ _ _ h => gn_w 37 rfl h) rfl ?_
          refine G_icmp_ge 56 d_cX5_enterBehind_36 (by decide +kernel) (fun hc12470 => ?_) (fun hc12470 => ?_)
          · have r12471 : p12063.toInt ≤ z12082.toInt := gC_le hc12470
            refine G_lconst 0 d_cX5_enterBehind_56 rfl ?_
            refine G_lstore (L' := [(6, .long 0), (5, .int g12445), (4, .int z12083), (3, .int z12082), (0, .ref q12044), (1, .ref q12045), (2, .int p12059)]) d_cX5_enterBehind_57 (Nat.le_of_ble_eq_true rfl) rfl ?_
            refine G_aload_n 4 d_cX5_enterBehind_59 rfl ?_
            refine G_getf 0 3 d_cX5_enterBehind_60 rfl (gk_X5 D I) (Nat.le_of_ble_eq_true rfl) w_2_25 rfl ?_
            refine G_iload 1 d_cX5_enterBehind_63 rfl ?_
            refine G_iload 2 d_cX5_enterBehind_65 rfl ?_
            refine G_if_lt 100 d_cX5_enterBehind_67 (by decide +kernel) (fun hc12472 => ?_) (fun hc12472 => ?_)
            · have r12473 : z12083.toInt < 0 := gj_lt hc12472 (show Int32.toInt 0 = 0 by decide)
              have bz12083' : gB z12083 (-2147483648) (-1) := ⟨by omega, by omega⟩
              refine G_lload 0 d_cX5_enterBehind_100 rfl ?_
              refine G_lastN 5 2 d_cX5_enterBehind_102 rfl rfl (gB_in bg12445' (by decide) (by decide)) (fun f12474 hf12474 => ?_)
              refine G_ws (ws' := [(q12044, .inr (10, [.ref q12046, .ref q12047, .ref q12048, .ref q12049, .int p12060, .int p12061, .int p12062])), (q12045, .inr (5, [.ref q12050, .ref q12051, .ref q12052, .ref q12053, .ref q12054, .ref q12055, .ref q12056, .ref q12057, .ref q12058, .int p12063, .int p12064, .int p12065])), (q12046, .inl (I .long, 480, .inr (.inl f12066))), (q12047, .inl (I .long, 480, .inr (.inl f12067))), (q12048, .inl (I .long, 480, .inr (.inl f12068))), (q12049, .inl (I .long, 12, .inr (.inl f12474))), (q12050, .inl (I .int, 40, .inl f12070)), (q12051, .inl (I .int, 40, .inl f12071)), (q12052, .inl (I .int, 40, .inl f12072)), (q12053, .inl (I .int, 200, .inl f12073)), (q12054, .inl (I .int, 200, .inl f12074)), (q12055, .inl (I .int, 200, .inl f12075)), (q12056, .inl (I .int, 200, .inl f12076)), (q12057, .inl (I .int, 200, .inl f12077)), (q12058, .inl (I .int, 200, .inl f12078))]) (cs' := 0) (sl' := 0) rfl rfl rfl ?_
              have wf12474 : lb_W f12474 (g12445.toInt + 1) (p12061.toInt) (p12060.toInt) := lb_Wext hf12474 x12447 (by omega) (lb_Mod0 (by omega) (by omega)) lb_Q0
              obtain ⟨z12475, hz12475⟩ : ∃ z : Int32, z = g12445 + Int32.ofInt 1 := ⟨_, rfl⟩
              have ez12475 : z12475.toInt = g12445.toInt + 1 := gI_inc hz12475 (by decide) bg12445' (by decide) (by decide)
              have bz12475 : gB z12475 1 12 := ⟨by omega, by omega⟩
              refine G_iinc (L' := [(5, .int z12475), (6, .long 0), (4, .int z12083), (3, .int z12082), (0, .ref q12044), (1, .ref q12045), (2, .int p12059)]) z12475 1 d_cX5_enterBehind_103 rfl hz12475.symm (Nat.le_of_ble_eq_true rfl) rfl ?_
              refine G_goto 18 d_cX5_enterBehind_106 (by decide +kernel) ?_
              refine G_lv (L' := [(5, .int z12475), (4, .int z12083), (3, .int z12082), (0, .ref q12044), (1, .ref q12045), (2, .int p12059)]) [0, 2, 3, 4, 5, 6] rfl ?_
              exact ih18_12447 z12475 f12474 (gB_w bz12475 (by decide) (by decide)) (lb_Wle wf12474 (by omega)) (by omega)
            · have r12476 : 0 ≤ z12083.toInt := gj_nlt hc12472 (show Int32.toInt 0 = 0 by decide)
              have bz12083' : gB z12083 0 2147483647 := ⟨by omega, by omega⟩
              refine G_iload 2 d_cX5_enterBehind_70 rfl ?_
              refine G_aload_n 5 d_cX5_enterBehind_72 rfl ?_
              refine G_getfN 1 9 d_cX5_enterBehind_73 rfl (gk_X0 D I) (Nat.le_of_ble_eq_true rfl) (fun _ _ _ h => gn_w 37 rfl h) rfl ?_
              refine G_icmp_ge 100 d_cX5_enterBehind_76 (by decide +kernel) (fun hc12477 => ?_) (fun hc12477 => ?_)
              · have r12478 : p12063.toInt ≤ z12083.toInt := gC_le hc12477
                refine G_lload 0 d_cX5_enterBehind_100 rfl ?_
                refine G_lastN 5 2 d_cX5_enterBehind_102 rfl rfl (gB_in bg12445' (by decide) (by decide)) (fun f12479 hf12479 => ?_)
                refine G_ws (ws' := [(q12044, .inr (10, [.ref q12046, .ref q12047, .ref q12048, .ref q12049, .int p12060, .int p12061, .int p12062])), (q12045, .inr (5, [.ref q12050, .ref q12051, .ref q12052, .ref q12053, .ref q12054, .ref q12055, .ref q12056, .ref q12057, .ref q12058, .int p12063, .int p12064, .int p12065])), (q12046, .inl (I .long, 480, .inr (.inl f12066))), (q12047, .inl (I .long, 480, .inr (.inl f12067))), (q12048, .inl (I .long, 480, .inr (.inl f12068))), (q12049, .inl (I .long, 12, .inr (.inl f12479))), (q12050, .inl (I .int, 40, .inl f12070)), (q12051, .inl (I .int, 40, .inl f12071)), (q12052, .inl (I .int, 40, .inl f12072)), (q12053, .inl (I .int, 200, .inl f12073)), (q12054, .inl (I .int, 200, .inl f12074)), (q12055, .inl (I .int, 200, .inl f12075)), (q12056, .inl (I .int, 200, .inl f12076)), (q12057, .inl (I .int, 200, .inl f12077)), (q12058, .inl (I .int, 200, .inl f12078))]) (cs' := 0) (sl' := 0) rfl rfl rfl ?_
                have wf12479 : lb_W f12479 (g12445.toInt + 1) (p12061.toInt) (p12060.toInt) := lb_Wext hf12479 x12447 (by omega) (lb_Mod0 (by omega) (by omega)) lb_Q0
                obtain ⟨z12480, hz12480⟩ : ∃ z : Int32, z = g12445 + Int32.ofInt 1 := ⟨_, rfl⟩
                have ez12480 : z12480.toInt = g12445.toInt + 1 := gI_inc hz12480 (by decide) bg12445' (by decide) (by decide)
                have bz12480 : gB z12480 1 12 := ⟨by omega, by omega⟩
                refine G_iinc (L' := [(5, .int z12480), (6, .long 0), (4, .int z12083), (3, .int z12082), (0, .ref q12044), (1, .ref q12045), (2, .int p12059)]) z12480 1 d_cX5_enterBehind_103 rfl hz12480.symm (Nat.le_of_ble_eq_true rfl) rfl ?_
                refine G_goto 18 d_cX5_enterBehind_106 (by decide +kernel) ?_
                refine G_lv (L' := [(5, .int z12480), (4, .int z12083), (3, .int z12082), (0, .ref q12044), (1, .ref q12045), (2, .int p12059)]) [0, 2, 3, 4, 5, 6] rfl ?_
                exact ih18_12447 z12480 f12479 (gB_w bz12480 (by decide) (by decide)) (lb_Wle wf12479 (by omega)) (by omega)
              · have r12481 : z12083.toInt < p12063.toInt := gC_nle hc12477
                have bz12083'' : gB z12083 0 39 := ⟨by omega, by omega⟩
                have bp12063' : gB p12063 1 40 := ⟨by omega, by omega⟩
                refine G_lload 0 d_cX5_enterBehind_79 rfl ?_
                refine G_aload_n 4 d_cX5_enterBehind_81 rfl ?_
                refine G_getf 0 0 d_cX5_enterBehind_82 rfl (gk_X5 D I) (Nat.le_of_ble_eq_true rfl) w_2_22 rfl ?_
                refine G_iload 2 d_cX5_enterBehind_85 rfl ?_
                refine G_aload_n 4 d_cX5_enterBehind_87 rfl ?_
                refine G_getf 0 5 d_cX5_enterBehind_88 rfl (gk_X5 D I) (Nat.le_of_ble_eq_true rfl) w_2_29 rfl ?_
                refine G_imul d_cX5_enterBehind_91 (G_nam fun z12482 hz12482 => ?_)
                have ez12482 : z12482.toInt = z12083.toInt * p12061.toInt := by rw [gI_mul hz12482 bz12083'' bp12061' (by decide) (by decide) (by decide)]
                have bz12482 : gB z12482 0 468 := gB_mul hz12482 bz12083'' bp12061' (by decide) (by decide) (by decide) (by decide)
                refine G_iload 1 d_cX5_enterBehind_92 rfl ?_
                refine G_iadd d_cX5_enterBehind_94 (G_nam fun z12483 hz12483 => ?_)
                have ez12483 : z12483.toInt = z12482.toInt + g12445.toInt := by rw [gI_add hz12483 bz12482 bg12445' (by decide) (by decide)]
                have bz12483 : gB z12483 0 479 := gB_add (gI_add hz12483 bz12482 bg12445' (by decide) (by decide)) bz12482 bg12445' (by decide) (by decide)
                refine G_lald 2 2 d_cX5_enterBehind_95 rfl rfl (gB_in bz12483 (by decide) (by decide)) (G_namL fun u12484 hu12484 => ?_)
                have qu12484 : lb_Q u12484 (p12060.toInt - 64 * g12445.toInt) := lb_Wld hu12484 x12079 (by omega) (lb_Lt1 ez12483 ez12482 (by omega) (by omega) (by omega)) (lb_Mod1 ez12483 ez12482 (by omega) (by omega))
                refine G_lor d_cX5_enterBehind_96 (G_namL fun u12485 hu12485 => ?_)
                have qu12485 : lb_Q u12485 (p12060.toInt - 64 * g12445.toInt) := lb_Qor hu12485 lb_Q0 qu12484
                refine G_goto 102 d_cX5_enterBehind_97 (by decide +kernel) ?_
                refine G_lastN 5 2 d_cX5_enterBehind_102 rfl rfl (gB_in bg12445' (by decide) (by decide)) (fun f12486 hf12486 => ?_)
                refine G_ws (ws' := [(q12044, .inr (10, [.ref q12046, .ref q12047, .ref q12048, .ref q12049, .int p12060, .int p12061, .int p12062])), (q12045, .inr (5, [.ref q12050, .ref q12051, .ref q12052, .ref q12053, .ref q12054, .ref q12055, .ref q12056, .ref q12057, .ref q12058, .int p12063, .int p12064, .int p12065])), (q12046, .inl (I .long, 480, .inr (.inl f12066))), (q12047, .inl (I .long, 480, .inr (.inl f12067))), (q12048, .inl (I .long, 480, .inr (.inl f12068))), (q12049, .inl (I .long, 12, .inr (.inl f12486))), (q12050, .inl (I .int, 40, .inl f12070)), (q12051, .inl (I .int, 40, .inl f12071)), (q12052, .inl (I .int, 40, .inl f12072)), (q12053, .inl (I .int, 200, .inl f12073)), (q12054, .inl (I .int, 200, .inl f12074)), (q12055, .inl (I .int, 200, .inl f12075)), (q12056, .inl (I .int, 200, .inl f12076)), (q12057, .inl (I .int, 200, .inl f12077)), (q12058, .inl (I .int, 200, .inl f12078))]) (cs' := 0) (sl' := 0) rfl rfl rfl ?_
                have wf12486 : lb_W f12486 (g12445.toInt + 1) (p12061.toInt) (p12060.toInt) := lb_Wext hf12486 x12447 (by omega) (lb_Mod0 (by omega) (by omega)) qu12485
                obtain ⟨z12487, hz12487⟩ : ∃ z : Int32, z = g12445 + Int32.ofInt 1 := ⟨_, rfl⟩
                have ez12487 : z12487.toInt = g12445.toInt + 1 := gI_inc hz12487 (by decide) bg12445' (by decide) (by decide)
                have bz12487 : gB z12487 1 12 := ⟨by omega, by omega⟩
                refine G_iinc (L' := [(5, .int z12487), (6, .long 0), (4, .int z12083), (3, .int z12082), (0, .ref q12044), (1, .ref q12045), (2, .int p12059)]) z12487 1 d_cX5_enterBehind_103 rfl hz12487.symm (Nat.le_of_ble_eq_true rfl) rfl ?_
                refine G_goto 18 d_cX5_enterBehind_106 (by decide +kernel) ?_
                refine G_lv (L' := [(5, .int z12487), (4, .int z12083), (3, .int z12082), (0, .ref q12044), (1, .ref q12045), (2, .int p12059)]) [0, 2, 3, 4, 5, 6] rfl ?_
                exact ih18_12447 z12487 f12486 (gB_w bz12487 (by decide) (by decide)) (lb_Wle wf12486 (by omega)) (by omega)
          · have r12488 : z12082.toInt < p12063.toInt := gC_nle hc12470
            have bz12082'' : gB z12082 0 39 := ⟨by omega, by omega⟩
            have bp12063' : gB p12063 1 40 := ⟨by omega, by omega⟩
            refine G_aload_n 3 d_cX5_enterBehind_39 rfl ?_
            refine G_getf 0 0 d_cX5_enterBehind_40 rfl (gk_X5 D I) (Nat.le_of_ble_eq_true rfl) w_2_22 rfl ?_
            refine G_iload_n 2 d_cX5_enterBehind_43 rfl ?_
            refine G_aload_n 3 d_cX5_enterBehind_44 rfl ?_
            refine G_getf 0 5 d_cX5_enterBehind_45 rfl (gk_X5 D I) (Nat.le_of_ble_eq_true rfl) w_2_29 rfl ?_
            refine G_imul d_cX5_enterBehind_48 (G_nam fun z12489 hz12489 => ?_)
            have ez12489 : z12489.toInt = z12082.toInt * p12061.toInt := by rw [gI_mul hz12489 bz12082'' bp12061' (by decide) (by decide) (by decide)]
            have bz12489 : gB z12489 0 468 := gB_mul hz12489 bz12082'' bp12061' (by decide) (by decide) (by decide) (by decide)
            refine G_iload 0 d_cX5_enterBehind_49 rfl ?_
            refine G_iadd d_cX5_enterBehind_51 (G_nam fun z12490 hz12490 => ?_)
            have ez12490 : z12490.toInt = z12489.toInt + g12445.toInt := by rw [gI_add hz12490 bz12489 bg12445' (by decide) (by decide)]
            have bz12490 : gB z12490 0 479 := gB_add (gI_add hz12490 bz12489 bg12445' (by decide) (by decide)) bz12489 bg12445' (by decide) (by decide)
            refine G_lald 2 2 d_cX5_enterBehind_52 rfl rfl (gB_in bz12490 (by decide) (by decide)) (G_namL fun u12491 hu12491 => ?_)
            have qu12491 : lb_Q u12491 (p12060.toInt - 64 * g12445.toInt) := lb_Wld hu12491 x12079 (by omega) (lb_Lt1 ez12490 ez12489 (by omega) (by omega) (by omega)) (lb_Mod1 ez12490 ez12489 (by omega) (by omega))
            refine G_goto 57 d_cX5_enterBehind_53 (by decide +kernel) ?_
            refine G_lstore (L' := [(6, .long u12491), (5, .int g12445), (4, .int z12083), (3, .int z12082), (0, .ref q12044), (1, .ref q12045), (2, .int p12059)]) d_cX5_enterBehind_57 (Nat.le_of_ble_eq_true rfl) rfl ?_
            refine G_aload_n 4 d_cX5_enterBehind_59 rfl ?_
            refine G_getf 0 3 d_cX5_enterBehind_60 rfl (gk_X5 D I) (Nat.le_of_ble_eq_true rfl) w_2_25 rfl ?_
            refine G_iload 1 d_cX5_enterBehind_63 rfl ?_
            refine G_iload 2 d_cX5_enterBehind_65 rfl ?_
            refine G_if_lt 100 d_cX5_enterBehind_67 (by decide +kernel) (fun hc12492 => ?_) (fun hc12492 => ?_)
            · have r12493 : z12083.toInt < 0 := gj_lt hc12492 (show Int32.toInt 0 = 0 by decide)
              have bz12083' : gB z12083 (-2147483648) (-1) := ⟨by omega, by omega⟩
              refine G_lload 0 d_cX5_enterBehind_100 rfl ?_
              refine G_lastN 5 2 d_cX5_enterBehind_102 rfl rfl (gB_in bg12445' (by decide) (by decide)) (fun f12494 hf12494 => ?_)
              refine G_ws (ws' := [(q12044, .inr (10, [.ref q12046, .ref q12047, .ref q12048, .ref q12049, .int p12060, .int p12061, .int p12062])), (q12045, .inr (5, [.ref q12050, .ref q12051, .ref q12052, .ref q12053, .ref q12054, .ref q12055, .ref q12056, .ref q12057, .ref q12058, .int p12063, .int p12064, .int p12065])), (q12046, .inl (I .long, 480, .inr (.inl f12066))), (q12047, .inl (I .long, 480, .inr (.inl f12067))), (q12048, .inl (I .long, 480, .inr (.inl f12068))), (q12049, .inl (I .long, 12, .inr (.inl f12494))), (q12050, .inl (I .int, 40, .inl f12070)), (q12051, .inl (I .int, 40, .inl f12071)), (q12052, .inl (I .int, 40, .inl f12072)), (q12053, .inl (I .int, 200, .inl f12073)), (q12054, .inl (I .int, 200, .inl f12074)), (q12055, .inl (I .int, 200, .inl f12075)), (q12056, .inl (I .int, 200, .inl f12076)), (q12057, .inl (I .int, 200, .inl f12077)), (q12058, .inl (I .int, 200, .inl f12078))]) (cs' := 0) (sl' := 0) rfl rfl rfl ?_
              have wf12494 : lb_W f12494 (g12445.toInt + 1) (p12061.toInt) (p12060.toInt) := lb_Wext hf12494 x12447 (by omega) (lb_Mod0 (by omega) (by omega)) qu12491
              obtain ⟨z12495, hz12495⟩ : ∃ z : Int32, z = g12445 + Int32.ofInt 1 := ⟨_, rfl⟩
              have ez12495 : z12495.toInt = g12445.toInt + 1 := gI_inc hz12495 (by decide) bg12445' (by decide) (by decide)
              have bz12495 : gB z12495 1 12 := ⟨by omega, by omega⟩
              refine G_iinc (L' := [(5, .int z12495), (6, .long u12491), (4, .int z12083), (3, .int z12082), (0, .ref q12044), (1, .ref q12045), (2, .int p12059)]) z12495 1 d_cX5_enterBehind_103 rfl hz12495.symm (Nat.le_of_ble_eq_true rfl) rfl ?_
              refine G_goto 18 d_cX5_enterBehind_106 (by decide +kernel) ?_
              refine G_lv (L' := [(5, .int z12495), (4, .int z12083), (3, .int z12082), (0, .ref q12044), (1, .ref q12045), (2, .int p12059)]) [0, 2, 3, 4, 5, 6] rfl ?_
              exact ih18_12447 z12495 f12494 (gB_w bz12495 (by decide) (by decide)) (lb_Wle wf12494 (by omega)) (by omega)
            · have r12496 : 0 ≤ z12083.toInt := gj_nlt hc12492 (show Int32.toInt 0 = 0 by decide)
              have bz12083' : gB z12083 0 2147483647 := ⟨by omega, by omega⟩
              refine G_iload 2 d_cX5_enterBehind_70 rfl ?_
              refine G_aload_n 5 d_cX5_enterBehind_72 rfl ?_
              refine G_getfN 1 9 d_cX5_enterBehind_73 rfl (gk_X0 D I) (Nat.le_of_ble_eq_true rfl) (fun _ _ _ h => gn_w 37 rfl h) rfl ?_
              refine G_icmp_ge 100 d_cX5_enterBehind_76 (by decide +kernel) (fun hc12497 => ?_) (fun hc12497 => ?_)
              · have r12498 : p12063.toInt ≤ z12083.toInt := gC_le hc12497
                have bz12083'' : gB z12083 1 2147483647 := ⟨by omega, by omega⟩
                refine G_lload 0 d_cX5_enterBehind_100 rfl ?_
                refine G_lastN 5 2 d_cX5_enterBehind_102 rfl rfl (gB_in bg12445' (by decide) (by decide)) (fun f12499 hf12499 => ?_)
                refine G_ws (ws' := [(q12044, .inr (10, [.ref q12046, .ref q12047, .ref q12048, .ref q12049, .int p12060, .int p12061, .int p12062])), (q12045, .inr (5, [.ref q12050, .ref q12051, .ref q12052, .ref q12053, .ref q12054, .ref q12055, .ref q12056, .ref q12057, .ref q12058, .int p12063, .int p12064, .int p12065])), (q12046, .inl (I .long, 480, .inr (.inl f12066))), (q12047, .inl (I .long, 480, .inr (.inl f12067))), (q12048, .inl (I .long, 480, .inr (.inl f12068))), (q12049, .inl (I .long, 12, .inr (.inl f12499))), (q12050, .inl (I .int, 40, .inl f12070)), (q12051, .inl (I .int, 40, .inl f12071)), (q12052, .inl (I .int, 40, .inl f12072)), (q12053, .inl (I .int, 200, .inl f12073)), (q12054, .inl (I .int, 200, .inl f12074)), (q12055, .inl (I .int, 200, .inl f12075)), (q12056, .inl (I .int, 200, .inl f12076)), (q12057, .inl (I .int, 200, .inl f12077)), (q12058, .inl (I .int, 200, .inl f12078))]) (cs' := 0) (sl' := 0) rfl rfl rfl ?_
                have wf12499 : lb_W f12499 (g12445.toInt + 1) (p12061.toInt) (p12060.toInt) := lb_Wext hf12499 x12447 (by omega) (lb_Mod0 (by omega) (by omega)) qu12491
                obtain ⟨z12500, hz12500⟩ : ∃ z : Int32, z = g12445 + Int32.ofInt 1 := ⟨_, rfl⟩
                have ez12500 : z12500.toInt = g12445.toInt + 1 := gI_inc hz12500 (by decide) bg12445' (by decide) (by decide)
                have bz12500 : gB z12500 1 12 := ⟨by omega, by omega⟩
                refine G_iinc (L' := [(5, .int z12500), (6, .long u12491), (4, .int z12083), (3, .int z12082), (0, .ref q12044), (1, .ref q12045), (2, .int p12059)]) z12500 1 d_cX5_enterBehind_103 rfl hz12500.symm (Nat.le_of_ble_eq_true rfl) rfl ?_
                refine G_goto 18 d_cX5_enterBehind_106 (by decide +kernel) ?_
                refine G_lv (L' := [(5, .int z12500), (4, .int z12083), (3, .int z12082), (0, .ref q12044), (1, .ref q12045), (2, .int p12059)]) [0, 2, 3, 4, 5, 6] rfl ?_
                exact ih18_12447 z12500 f12499 (gB_w bz12500 (by decide) (by decide)) (lb_Wle wf12499 (by omega)) (by omega)
              · have r12501 : z12083.toInt < p12063.toInt := gC_nle hc12497
                have bz12083'' : gB z12083 0 39 := ⟨by omega, by omega⟩
                refine G_lload 0 d_cX5_enterBehind_79 rfl ?_
                refine G_aload_n 4 d_cX5_enterBehind_81 rfl ?_
                refine G_getf 0 0 d_cX5_enterBehind_82 rfl (gk_X5 D I) (Nat.le_of_ble_eq_true rfl) w_2_22 rfl ?_
                refine G_iload 2 d_cX5_enterBehind_85 rfl ?_
                refine G_aload_n 4 d_cX5_enterBehind_87 rfl ?_
                refine G_getf 0 5 d_cX5_enterBehind_88 rfl (gk_X5 D I) (Nat.le_of_ble_eq_true rfl) w_2_29 rfl ?_
                refine G_imul d_cX5_enterBehind_91 (G_nam fun z12502 hz12502 => ?_)
                have ez12502 : z12502.toInt = z12083.toInt * p12061.toInt := by rw [gI_mul hz12502 bz12083'' bp12061' (by decide) (by decide) (by decide)]
                have bz12502 : gB z12502 0 468 := gB_mul hz12502 bz12083'' bp12061' (by decide) (by decide) (by decide) (by decide)
                refine G_iload 1 d_cX5_enterBehind_92 rfl ?_
                refine G_iadd d_cX5_enterBehind_94 (G_nam fun z12503 hz12503 => ?_)
                have ez12503 : z12503.toInt = z12502.toInt + g12445.toInt := by rw [gI_add hz12503 bz12502 bg12445' (by decide) (by decide)]
                have bz12503 : gB z12503 0 479 := gB_add (gI_add hz12503 bz12502 bg12445' (by decide) (by decide)) bz12502 bg12445' (by decide) (by decide)
                refine G_lald 2 2 d_cX5_enterBehind_95 rfl rfl (gB_in bz12503 (by decide) (by decide)) (G_namL fun u12504 hu12504 => ?_)
                have qu12504 : lb_Q u12504 (p12060.toInt - 64 * g12445.toInt) := lb_Wld hu12504 x12079 (by omega) (lb_Lt1 ez12503 ez12502 (by omega) (by omega) (by omega)) (lb_Mod1 ez12503 ez12502 (by omega) (by omega))
                refine G_lor d_cX5_enterBehind_96 (G_namL fun u12505 hu12505 => ?_)
                have qu12505 : lb_Q u12505 (p12060.toInt - 64 * g12445.toInt) := lb_Qor hu12505 qu12491 qu12504
                refine G_goto 102 d_cX5_enterBehind_97 (by decide +kernel) ?_
                refine G_lastN 5 2 d_cX5_enterBehind_102 rfl rfl (gB_in bg12445' (by decide) (by decide)) (fun f12506 hf12506 => ?_)
                refine G_ws (ws' := [(q12044, .inr (10, [.ref q12046, .ref q12047, .ref q12048, .ref q12049, .int p12060, .int p12061, .int p12062])), (q12045, .inr (5, [.ref q12050, .ref q12051, .ref q12052, .ref q12053, .ref q12054, .ref q12055, .ref q12056, .ref q12057, .ref q12058, .int p12063, .int p12064, .int p12065])), (q12046, .inl (I .long, 480, .inr (.inl f12066))), (q12047, .inl (I .long, 480, .inr (.inl f12067))), (q12048, .inl (I .long, 480, .inr (.inl f12068))), (q12049, .inl (I .long, 12, .inr (.inl f12506))), (q12050, .inl (I .int, 40, .inl f12070)), (q12051, .inl (I .int, 40, .inl f12071)), (q12052, .inl (I .int, 40, .inl f12072)), (q12053, .inl (I .int, 200, .inl f12073)), (q12054, .inl (I .int, 200, .inl f12074)), (q12055, .inl (I .int, 200, .inl f12075)), (q12056, .inl (I .int, 200, .inl f12076)), (q12057, .inl (I .int, 200, .inl f12077)), (q12058, .inl (I .int, 200, .inl f12078))]) (cs' := 0) (sl' := 0) rfl rfl rfl ?_
                have wf12506 : lb_W f12506 (g12445.toInt + 1) (p12061.toInt) (p12060.toInt) := lb_Wext hf12506 x12447 (by omega) (lb_Mod0 (by omega) (by omega)) qu12505
                obtain ⟨z12507, hz12507⟩ : ∃ z : Int32, z = g12445 + Int32.ofInt 1 := ⟨_, rfl⟩
                have ez12507 : z12507.toInt = g12445.toInt + 1 := gI_inc hz12507 (by decide) bg12445' (by decide) (by decide)
                have bz12507 : gB z12507 1 12 := ⟨by omega, by omega⟩
                refine G_iinc (L' := [(5, .int z12507), (6, .long u12491), (4, .int z12083), (3, .int z12082), (0, .ref q12044), (1, .ref q12045), (2, .int p12059)]) z12507 1 d_cX5_enterBehind_103 rfl hz12507.symm (Nat.le_of_ble_eq_true rfl) rfl ?_
                refine G_goto 18 d_cX5_enterBehind_106 (by decide +kernel) ?_
                refine G_lv (L' := [(5, .int z12507), (4, .int z12083), (3, .int z12082), (0, .ref q12044), (1, .ref q12045), (2, .int p12059)]) [0, 2, 3, 4, 5, 6] rfl ?_
                exact ih18_12447 z12507 f12506 (gB_w bz12507 (by decide) (by decide)) (lb_Wle wf12506 (by omega)) (by omega)
  exact hlp18_12447 (((13 : Int) - 0).toNat + 1) 0 f12069 (gB_w (gBl (show Int32.toInt 0 = 0 by decide)) (by decide) (by decide)) lb_W0 (Nat.lt_succ_self _)
