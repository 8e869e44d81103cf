theorem d_cX9_opOf_0 : decode cX9_opOf 0 = .ok (.iconst 0, 1) := by decide +kernel
theorem d_cX9_opOf_1 : decode cX9_opOf 1 = .ok (.istore_n 2, 1) := by decide +kernel
theorem d_cX9_opOf_2 : decode cX9_opOf 2 = .ok (.iload_n 2, 1) := by decide +kernel
theorem d_cX9_opOf_3 : decode cX9_opOf 3 = .ok (.bipush 14, 2) := by decide +kernel
theorem d_cX9_opOf_5 : decode cX9_opOf 5 = .ok (.if_icmp .ge 37, 3) := by decide +kernel
theorem d_cX9_opOf_42 : decode cX9_opOf 42 = .ok (.iconst (-1), 1) := by decide +kernel
theorem d_cX9_opOf_43 : decode cX9_opOf 43 = .ok (.ireturn, 1) := by decide +kernel
theorem d_cX9_opOf_8 : decode cX9_opOf 8 = .ok (.ldc 108, 2) := by decide +kernel
theorem d_cX9_opOf_10 : decode cX9_opOf 10 = .ok (.iconst 2, 1) := by decide +kernel
theorem d_cX9_opOf_11 : decode cX9_opOf 11 = .ok (.iload_n 2, 1) := by decide +kernel
theorem d_cX9_opOf_12 : decode cX9_opOf 12 = .ok (.imul, 1) := by decide +kernel
theorem d_cX9_opOf_13 : decode cX9_opOf 13 = .ok (.invokevirtual 100, 3) := by decide +kernel
theorem d_cX9_opOf_16 : decode cX9_opOf 16 = .ok (.iload_n 0, 1) := by decide +kernel
theorem d_cX9_opOf_17 : decode cX9_opOf 17 = .ok (.if_icmp .ne 19, 3) := by decide +kernel
theorem d_cX9_opOf_36 : decode cX9_opOf 36 = .ok (.iinc 2 1, 3) := by decide +kernel
theorem d_cX9_opOf_39 : decode cX9_opOf 39 = .ok (.goto (-37), 3) := by decide +kernel
theorem d_cX9_opOf_20 : decode cX9_opOf 20 = .ok (.ldc 108, 2) := by decide +kernel
theorem d_cX9_opOf_22 : decode cX9_opOf 22 = .ok (.iconst 2, 1) := by decide +kernel
theorem d_cX9_opOf_23 : decode cX9_opOf 23 = .ok (.iload_n 2, 1) := by decide +kernel
theorem d_cX9_opOf_24 : decode cX9_opOf 24 = .ok (.imul, 1) := by decide +kernel
theorem d_cX9_opOf_25 : decode cX9_opOf 25 = .ok (.iconst 1, 1) := by decide +kernel
theorem d_cX9_opOf_26 : decode cX9_opOf 26 = .ok (.iadd, 1) := by decide +kernel
theorem d_cX9_opOf_27 : decode cX9_opOf 27 = .ok (.invokevirtual 100, 3) := by decide +kernel
theorem d_cX9_opOf_30 : decode cX9_opOf 30 = .ok (.iload_n 1, 1) := by decide +kernel
theorem d_cX9_opOf_31 : decode cX9_opOf 31 = .ok (.if_icmp .ne 5, 3) := by decide +kernel
theorem d_cX9_opOf_34 : decode cX9_opOf 34 = .ok (.iload_n 2, 1) := by decide +kernel
theorem d_cX9_opOf_35 : decode cX9_opOf 35 = .ok (.ireturn, 1) := by decide +kernel
theorem d_cX9_takeMark_0 : decode cX9_takeMark 0 = .ok (.iload_n 1, 1) := by decide +kernel
theorem d_cX9_takeMark_1 : decode cX9_takeMark 1 = .ok (.iload_n 2, 1) := by decide +kernel
theorem d_cX9_takeMark_2 : decode cX9_takeMark 2 = .ok (.invokestatic 104, 3) := by decide +kernel
theorem w_3_113 : (Jvm.Cond.methodLink "SpillForge$Signs" (104 : Nat) ({ cls := "SpillForge$Signs", name := "opOf", desc := "(II)I" } : Jvm.MethodName)) ∈ gw := gw_3 113 rfl rfl
theorem w_3_115 : (Jvm.Cond.code ({ cls := "SpillForge$Signs", name := "opOf", desc := "(II)I" } : Jvm.MethodName) prog_11_method_14_code (3 : Nat) (Option.some Jvm.ClassFile.FieldType.int)) ∈ gw := gw_3 115 rfl rfl
theorem w_3_114 : (Jvm.Cond.static ({ cls := "SpillForge$Signs", name := "opOf", desc := "(II)I" } : Jvm.MethodName)) ∈ gw := gw_3 114 rfl rfl
theorem d_cX9_takeMark_5 : decode cX9_takeMark 5 = .ok (.istore_n 3, 1) := by decide +kernel
theorem d_cX9_takeMark_6 : decode cX9_takeMark 6 = .ok (.aload_n 0, 1) := by decide +kernel
theorem d_cX9_takeMark_7 : decode cX9_takeMark 7 = .ok (.aload_n 0, 1) := by decide +kernel
theorem d_cX9_takeMark_8 : decode cX9_takeMark 8 = .ok (.getfield 22, 3) := by decide +kernel
theorem d_cX9_takeMark_11 : decode cX9_takeMark 11 = .ok (.iconst 2, 1) := by decide +kernel
theorem d_cX9_takeMark_12 : decode cX9_takeMark 12 = .ok (.iadd, 1) := by decide +kernel
theorem d_cX9_takeMark_13 : decode cX9_takeMark 13 = .ok (.putfield 25, 3) := by decide +kernel
theorem d_cX9_takeMark_16 : decode cX9_takeMark 16 = .ok (.iload_n 3, 1) := by decide +kernel
theorem d_cX9_takeMark_17 : decode cX9_takeMark 17 = .ok (.iconst (-1), 1) := by decide +kernel
theorem d_cX9_takeMark_18 : decode cX9_takeMark 18 = .ok (.if_icmp .eq 9, 3) := by decide +kernel
theorem d_cX9_takeMark_27 : decode cX9_takeMark 27 = .ok (.iload_n 1, 1) := by decide +kernel
theorem d_cX9_takeMark_28 : decode cX9_takeMark 28 = .ok (.bipush 32, 2) := by decide +kernel
theorem d_cX9_takeMark_30 : decode cX9_takeMark 30 = .ok (.invokestatic 104, 3) := by decide +kernel
theorem d_cX9_takeMark_33 : decode cX9_takeMark 33 = .ok (.istore_n 3, 1) := by decide +kernel
theorem d_cX9_takeMark_34 : decode cX9_takeMark 34 = .ok (.aload_n 0, 1) := by decide +kernel
theorem d_cX9_takeMark_35 : decode cX9_takeMark 35 = .ok (.aload_n 0, 1) := by decide +kernel
theorem d_cX9_takeMark_36 : decode cX9_takeMark 36 = .ok (.getfield 22, 3) := by decide +kernel
theorem d_cX9_takeMark_39 : decode cX9_takeMark 39 = .ok (.iconst 1, 1) := by decide +kernel
theorem d_cX9_takeMark_40 : decode cX9_takeMark 40 = .ok (.iadd, 1) := by decide +kernel
theorem d_cX9_takeMark_41 : decode cX9_takeMark 41 = .ok (.putfield 25, 3) := by decide +kernel
theorem d_cX9_takeMark_44 : decode cX9_takeMark 44 = .ok (.aload_n 0, 1) := by decide +kernel
theorem d_cX9_takeMark_45 : decode cX9_takeMark 45 = .ok (.iload_n 3, 1) := by decide +kernel
theorem d_cX9_takeMark_46 : decode cX9_takeMark 46 = .ok (.putfield 19, 3) := by decide +kernel
theorem d_cX9_takeMark_49 : decode cX9_takeMark 49 = .ok (.aload_n 0, 1) := by decide +kernel
theorem d_cX9_takeMark_50 : decode cX9_takeMark 50 = .ok (.iload_n 3, 1) := by decide +kernel
theorem d_cX9_takeMark_51 : decode cX9_takeMark 51 = .ok (.iconst (-1), 1) := by decide +kernel
theorem d_cX9_takeMark_52 : decode cX9_takeMark 52 = .ok (.if_icmp .eq 7, 3) := by decide +kernel
theorem d_cX9_takeMark_59 : decode cX9_takeMark 59 = .ok (.iload_n 1, 1) := by decide +kernel
theorem d_cX9_takeMark_60 : decode cX9_takeMark 60 = .ok (.bipush 58, 2) := by decide +kernel
theorem d_cX9_takeMark_62 : decode cX9_takeMark 62 = .ok (.if_icmp .ne 8, 3) := by decide +kernel
theorem d_cX9_takeMark_70 : decode cX9_takeMark 70 = .ok (.iload_n 1, 1) := by decide +kernel
theorem d_cX9_takeMark_71 : decode cX9_takeMark 71 = .ok (.bipush 61, 2) := by decide +kernel
theorem d_cX9_takeMark_73 : decode cX9_takeMark 73 = .ok (.if_icmp .ne 8, 3) := by decide +kernel
theorem d_cX9_takeMark_81 : decode cX9_takeMark 81 = .ok (.iconst 0, 1) := by decide +kernel
theorem d_cX9_takeMark_82 : decode cX9_takeMark 82 = .ok (.putfield 15, 3) := by decide +kernel
theorem d_cX9_takeMark_85 : decode cX9_takeMark 85 = .ok (.return_, 1) := by decide +kernel
theorem d_cX9_takeMark_76 : decode cX9_takeMark 76 = .ok (.bipush 7, 2) := by decide +kernel
theorem d_cX9_takeMark_78 : decode cX9_takeMark 78 = .ok (.goto 4, 3) := by decide +kernel
theorem d_cX9_takeMark_65 : decode cX9_takeMark 65 = .ok (.bipush 6, 2) := by decide +kernel
theorem d_cX9_takeMark_67 : decode cX9_takeMark 67 = .ok (.goto 15, 3) := by decide +kernel
theorem d_cX9_takeMark_55 : decode cX9_takeMark 55 = .ok (.iconst 5, 1) := by decide +kernel
theorem d_cX9_takeMark_56 : decode cX9_takeMark 56 = .ok (.goto 26, 3) := by decide +kernel
theorem d_cX9_takeMark_21 : decode cX9_takeMark 21 = .ok (.iload_n 2, 1) := by decide +kernel
theorem d_cX9_takeMark_22 : decode cX9_takeMark 22 = .ok (.bipush 32, 2) := by decide +kernel
theorem d_cX9_takeMark_24 : decode cX9_takeMark 24 = .ok (.if_icmp .ne 20, 3) := by decide +kernel
theorem d_cX9_advance_0 : decode cX9_advance 0 = .ok (.aload_n 0, 1) := by decide +kernel
theorem d_cX9_advance_1 : decode cX9_advance 1 = .ok (.getfield 15, 3) := by decide +kernel
theorem d_cX9_advance_4 : decode cX9_advance 4 = .ok (.iconst 2, 1) := by decide +kernel
theorem d_cX9_advance_5 : decode cX9_advance 5 = .ok (.if_icmp .eq 11, 3) := by decide +kernel
theorem d_cX9_advance_16 : decode cX9_advance 16 = .ok (.iconst 1, 1) := by decide +kernel
theorem d_cX9_advance_17 : decode cX9_advance 17 = .ok (.goto 4, 3) := by decide +kernel
theorem d_cX9_advance_21 : decode cX9_advance 21 = .ok (.istore_n 1, 1) := by decide +kernel
theorem d_cX9_advance_22 : decode cX9_advance 22 = .ok (.aload_n 0, 1) := by decide +kernel
theorem d_cX9_advance_23 : decode cX9_advance 23 = .ok (.aload_n 0, 1) := by decide +kernel
theorem d_cX9_advance_24 : decode cX9_advance 24 = .ok (.aload_n 0, 1) := by decide +kernel
theorem d_cX9_advance_25 : decode cX9_advance 25 = .ok (.getfield 25, 3) := by decide +kernel
theorem d_cX9_advance_28 : decode cX9_advance 28 = .ok (.invokevirtual 31, 3) := by decide +kernel
theorem w_3_12 : (Jvm.Cond.methodLink "SpillForge$Signs" (31 : Nat) ({ cls := "SpillForge$Signs", name := "skipBlanks", desc := "(I)I" } : Jvm.MethodName)) ∈ gw := gw_3 12 rfl rfl
theorem w_3_15 : (Jvm.Cond.code ({ cls := "SpillForge$Signs", name := "skipBlanks", desc := "(I)I" } : Jvm.MethodName) prog_11_method_7_code (5 : Nat) (Option.some Jvm.ClassFile.FieldType.int)) ∈ gw := gw_3 15 rfl rfl
theorem w_3_14 : (Jvm.Cond.instanceMethod ({ cls := "SpillForge$Signs", name := "skipBlanks", desc := "(I)I" } : Jvm.MethodName)) ∈ gw := gw_3 14 rfl rfl
theorem w_p_0 : Cond.selects "SpillForge$Signs" ⟨"SpillForge$Signs", "skipBlanks", "(I)I"⟩ ⟨"SpillForge$Signs", "skipBlanks", "(I)I"⟩ ∈ gw := gw_p _ 0 rfl rfl rfl
theorem d_cX9_advance_31 : decode cX9_advance 31 = .ok (.putfield 22, 3) := by decide +kernel
theorem d_cX9_advance_34 : decode cX9_advance 34 = .ok (.aload_n 0, 1) := by decide +kernel
theorem d_cX9_advance_35 : decode cX9_advance 35 = .ok (.getfield 9, 3) := by decide +kernel
theorem d_cX9_advance_38 : decode cX9_advance 38 = .ok (.aload_n 0, 1) := by decide +kernel
theorem d_cX9_advance_39 : decode cX9_advance 39 = .ok (.getfield 22, 3) := by decide +kernel
theorem d_cX9_advance_42 : decode cX9_advance 42 = .ok (.invokevirtual 35, 3) := by decide +kernel
theorem d_cX9_advance_45 : decode cX9_advance 45 = .ok (.istore_n 2, 1) := by decide +kernel
theorem d_cX9_advance_46 : decode cX9_advance 46 = .ok (.aload_n 0, 1) := by decide +kernel
theorem d_cX9_advance_47 : decode cX9_advance 47 = .ok (.getfield 9, 3) := by decide +kernel
theorem d_cX9_advance_50 : decode cX9_advance 50 = .ok (.aload_n 0, 1) := by decide +kernel
theorem d_cX9_advance_51 : decode cX9_advance 51 = .ok (.getfield 22, 3) := by decide +kernel
theorem d_cX9_advance_54 : decode cX9_advance 54 = .ok (.iconst 1, 1) := by decide +kernel
theorem d_cX9_advance_55 : decode cX9_advance 55 = .ok (.iadd, 1) := by decide +kernel
theorem d_cX9_advance_56 : decode cX9_advance 56 = .ok (.invokevirtual 35, 3) := by decide +kernel
theorem d_cX9_advance_59 : decode cX9_advance 59 = .ok (.istore_n 3, 1) := by decide +kernel
theorem d_cX9_advance_60 : decode cX9_advance 60 = .ok (.aload_n 0, 1) := by decide +kernel
theorem d_cX9_advance_61 : decode cX9_advance 61 = .ok (.iconst 0, 1) := by decide +kernel
theorem d_cX9_advance_62 : decode cX9_advance 62 = .ok (.putfield 19, 3) := by decide +kernel
theorem d_cX9_advance_65 : decode cX9_advance 65 = .ok (.iload_n 2, 1) := by decide +kernel
theorem d_cX9_advance_66 : decode cX9_advance 66 = .ok (.iconst (-1), 1) := by decide +kernel
theorem d_cX9_advance_67 : decode cX9_advance 67 = .ok (.if_icmp .ne 19, 3) := by decide +kernel
theorem d_cX9_advance_70 : decode cX9_advance 70 = .ok (.aload_n 0, 1) := by decide +kernel
theorem d_cX9_advance_71 : decode cX9_advance 71 = .ok (.iconst 1, 1) := by decide +kernel
theorem d_cX9_advance_72 : decode cX9_advance 72 = .ok (.putfield 15, 3) := by decide +kernel
theorem d_cX9_advance_75 : decode cX9_advance 75 = .ok (.aload_n 0, 1) := by decide +kernel
theorem d_cX9_advance_76 : decode cX9_advance 76 = .ok (.aload_n 0, 1) := by decide +kernel
theorem d_cX9_advance_77 : decode cX9_advance 77 = .ok (.getfield 22, 3) := by decide +kernel
theorem d_cX9_advance_80 : decode cX9_advance 80 = .ok (.putfield 25, 3) := by decide +kernel
theorem d_cX9_advance_83 : decode cX9_advance 83 = .ok (.goto 111, 3) := by decide +kernel
theorem d_cX9_advance_194 : decode cX9_advance 194 = .ok (.return_, 1) := by decide +kernel
theorem d_cX9_advance_86 : decode cX9_advance 86 = .ok (.iload_n 2, 1) := by decide +kernel
theorem d_cX9_advance_87 : decode cX9_advance 87 = .ok (.invokestatic 40, 3) := by decide +kernel
theorem d_cX9_advance_90 : decode cX9_advance 90 = .ok (.ifCond .ne 20, 3) := by decide +kernel
theorem d_cX9_advance_93 : decode cX9_advance 93 = .ok (.iload_n 2, 1) := by decide +kernel
theorem d_cX9_advance_94 : decode cX9_advance 94 = .ok (.bipush 45, 2) := by decide +kernel
theorem d_cX9_advance_96 : decode cX9_advance 96 = .ok (.if_icmp .ne 32, 3) := by decide +kernel
theorem d_cX9_advance_128 : decode cX9_advance 128 = .ok (.iload_n 2, 1) := by decide +kernel
theorem d_cX9_advance_129 : decode cX9_advance 129 = .ok (.bipush 118, 2) := by decide +kernel
theorem d_cX9_advance_131 : decode cX9_advance 131 = .ok (.if_icmp .ne 20, 3) := by decide +kernel
theorem d_cX9_advance_151 : decode cX9_advance 151 = .ok (.iload_n 2, 1) := by decide +kernel
theorem d_cX9_advance_152 : decode cX9_advance 152 = .ok (.bipush 98, 2) := by decide +kernel
theorem d_cX9_advance_154 : decode cX9_advance 154 = .ok (.if_icmp .ne 20, 3) := by decide +kernel
theorem d_cX9_advance_174 : decode cX9_advance 174 = .ok (.iload_n 2, 1) := by decide +kernel
theorem d_cX9_advance_175 : decode cX9_advance 175 = .ok (.invokestatic 52, 3) := by decide +kernel
theorem d_cX9_advance_178 : decode cX9_advance 178 = .ok (.ifCond .eq 10, 3) := by decide +kernel
theorem d_cX9_advance_188 : decode cX9_advance 188 = .ok (.aload_n 0, 1) := by decide +kernel
theorem d_cX9_advance_189 : decode cX9_advance 189 = .ok (.iload_n 2, 1) := by decide +kernel
theorem d_cX9_advance_190 : decode cX9_advance 190 = .ok (.iload_n 3, 1) := by decide +kernel
theorem d_cX9_advance_191 : decode cX9_advance 191 = .ok (.invokevirtual 58, 3) := by decide +kernel
theorem w_3_109 : (Jvm.Cond.methodLink "SpillForge$Signs" (58 : Nat) ({ cls := "SpillForge$Signs", name := "takeMark", desc := "(II)V" } : Jvm.MethodName)) ∈ gw := gw_3 109 rfl rfl
theorem w_3_112 : (Jvm.Cond.code ({ cls := "SpillForge$Signs", name := "takeMark", desc := "(II)V" } : Jvm.MethodName) prog_11_method_13_code (4 : Nat) (Option.none : Option Jvm.ClassFile.FieldType)) ∈ gw := gw_3 112 rfl rfl
theorem w_3_111 : (Jvm.Cond.instanceMethod ({ cls := "SpillForge$Signs", name := "takeMark", desc := "(II)V" } : Jvm.MethodName)) ∈ gw := gw_3 111 rfl rfl
theorem w_p_6 : Cond.selects "SpillForge$Signs" ⟨"SpillForge$Signs", "takeMark", "(II)V"⟩ ⟨"SpillForge$Signs", "takeMark", "(II)V"⟩ ∈ gw := gw_p _ 6 rfl rfl rfl
theorem d_cX9_advance_99 : decode cX9_advance 99 = .ok (.iload_n 3, 1) := by decide +kernel
theorem d_cX9_advance_100 : decode cX9_advance 100 = .ok (.invokestatic 40, 3) := by decide +kernel
theorem d_cX9_advance_103 : decode cX9_advance 103 = .ok (.ifCond .eq 25, 3) := by decide +kernel
theorem d_cX9_advance_181 : decode cX9_advance 181 = .ok (.aload_n 0, 1) := by decide +kernel
theorem d_cX9_advance_182 : decode cX9_advance 182 = .ok (.invokevirtual 55, 3) := by decide +kernel
theorem w_3_48 : (Jvm.Cond.methodLink "SpillForge$Signs" (55 : Nat) ({ cls := "SpillForge$Signs", name := "takeWord", desc := "()V" } : Jvm.MethodName)) ∈ gw := gw_3 48 rfl rfl
theorem w_3_51 : (Jvm.Cond.code ({ cls := "SpillForge$Signs", name := "takeWord", desc := "()V" } : Jvm.MethodName) prog_11_method_11_code (2 : Nat) (Option.none : Option Jvm.ClassFile.FieldType)) ∈ gw := gw_3 51 rfl rfl
theorem w_3_50 : (Jvm.Cond.instanceMethod ({ cls := "SpillForge$Signs", name := "takeWord", desc := "()V" } : Jvm.MethodName)) ∈ gw := gw_3 50 rfl rfl
theorem w_p_4 : Cond.selects "SpillForge$Signs" ⟨"SpillForge$Signs", "takeWord", "()V"⟩ ⟨"SpillForge$Signs", "takeWord", "()V"⟩ ∈ gw := gw_p _ 4 rfl rfl rfl
theorem d_cX9_advance_185 : decode cX9_advance 185 = .ok (.goto 9, 3) := by decide +kernel
theorem d_cX9_advance_157 : decode cX9_advance 157 = .ok (.iload_n 3, 1) := by decide +kernel
theorem d_cX9_advance_158 : decode cX9_advance 158 = .ok (.invokestatic 40, 3) := by decide +kernel
theorem d_cX9_advance_161 : decode cX9_advance 161 = .ok (.ifCond .eq 13, 3) := by decide +kernel
theorem d_cX9_advance_134 : decode cX9_advance 134 = .ok (.iload_n 3, 1) := by decide +kernel
theorem d_cX9_advance_135 : decode cX9_advance 135 = .ok (.invokestatic 40, 3) := by decide +kernel
theorem d_cX9_advance_138 : decode cX9_advance 138 = .ok (.ifCond .eq 13, 3) := by decide +kernel
theorem d_cX9_advance_110 : decode cX9_advance 110 = .ok (.aload_n 0, 1) := by decide +kernel
theorem d_cX9_advance_111 : decode cX9_advance 111 = .ok (.iload_n 2, 1) := by decide +kernel
theorem d_cX9_advance_112 : decode cX9_advance 112 = .ok (.bipush 45, 2) := by decide +kernel
theorem d_cX9_advance_114 : decode cX9_advance 114 = .ok (.if_icmp .ne 7, 3) := by decide +kernel
theorem d_cX9_advance_121 : decode cX9_advance 121 = .ok (.iconst 0, 1) := by decide +kernel
theorem d_cX9_advance_122 : decode cX9_advance 122 = .ok (.invokevirtual 44, 3) := by decide +kernel
theorem w_3_27 : (Jvm.Cond.methodLink "SpillForge$Signs" (44 : Nat) ({ cls := "SpillForge$Signs", name := "takeNumber", desc := "(Z)V" } : Jvm.MethodName)) ∈ gw := gw_3 27 rfl rfl
theorem w_3_30 : (Jvm.Cond.code ({ cls := "SpillForge$Signs", name := "takeNumber", desc := "(Z)V" } : Jvm.MethodName) prog_11_method_8_code (6 : Nat) (Option.none : Option Jvm.ClassFile.FieldType)) ∈ gw := gw_3 30 rfl rfl
theorem w_3_29 : (Jvm.Cond.instanceMethod ({ cls := "SpillForge$Signs", name := "takeNumber", desc := "(Z)V" } : Jvm.MethodName)) ∈ gw := gw_3 29 rfl rfl
theorem w_p_1 : Cond.selects "SpillForge$Signs" ⟨"SpillForge$Signs", "takeNumber", "(Z)V"⟩ ⟨"SpillForge$Signs", "takeNumber", "(Z)V"⟩ ∈ gw := gw_p _ 1 rfl rfl rfl
theorem d_cX9_advance_125 : decode cX9_advance 125 = .ok (.goto 69, 3) := by decide +kernel
theorem d_cX9_advance_106 : decode cX9_advance 106 = .ok (.iload_n 1, 1) := by decide +kernel
theorem d_cX9_advance_107 : decode cX9_advance 107 = .ok (.ifCond .ne 21, 3) := by decide +kernel
theorem d_cX9_advance_164 : decode cX9_advance 164 = .ok (.aload_n 0, 1) := by decide +kernel
theorem d_cX9_advance_165 : decode cX9_advance 165 = .ok (.iconst 3, 1) := by decide +kernel
theorem d_cX9_advance_166 : decode cX9_advance 166 = .ok (.bipush 40, 2) := by decide +kernel
theorem d_cX9_advance_168 : decode cX9_advance 168 = .ok (.invokevirtual 48, 3) := by decide +kernel
theorem w_3_41 : (Jvm.Cond.methodLink "SpillForge$Signs" (48 : Nat) ({ cls := "SpillForge$Signs", name := "takeNamed", desc := "(II)V" } : Jvm.MethodName)) ∈ gw := gw_3 41 rfl rfl
theorem w_3_44 : (Jvm.Cond.code ({ cls := "SpillForge$Signs", name := "takeNamed", desc := "(II)V" } : Jvm.MethodName) prog_11_method_9_code (5 : Nat) (Option.none : Option Jvm.ClassFile.FieldType)) ∈ gw := gw_3 44 rfl rfl
theorem w_3_43 : (Jvm.Cond.instanceMethod ({ cls := "SpillForge$Signs", name := "takeNamed", desc := "(II)V" } : Jvm.MethodName)) ∈ gw := gw_3 43 rfl rfl
theorem w_p_3 : Cond.selects "SpillForge$Signs" ⟨"SpillForge$Signs", "takeNamed", "(II)V"⟩ ⟨"SpillForge$Signs", "takeNamed", "(II)V"⟩ ∈ gw := gw_p _ 3 rfl rfl rfl
theorem d_cX9_advance_171 : decode cX9_advance 171 = .ok (.goto 23, 3) := by decide +kernel
theorem d_cX9_advance_141 : decode cX9_advance 141 = .ok (.aload_n 0, 1) := by decide +kernel
theorem d_cX9_advance_142 : decode cX9_advance 142 = .ok (.iconst 2, 1) := by decide +kernel
theorem d_cX9_advance_143 : decode cX9_advance 143 = .ok (.bipush 100, 2) := by decide +kernel
theorem d_cX9_advance_145 : decode cX9_advance 145 = .ok (.invokevirtual 48, 3) := by decide +kernel
theorem d_cX9_advance_148 : decode cX9_advance 148 = .ok (.goto 46, 3) := by decide +kernel
theorem d_cX9_advance_8 : decode cX9_advance 8 = .ok (.aload_n 0, 1) := by decide +kernel
theorem d_cX9_advance_9 : decode cX9_advance 9 = .ok (.getfield 15, 3) := by decide +kernel
theorem d_cX9_advance_12 : decode cX9_advance 12 = .ok (.iconst 4, 1) := by decide +kernel
theorem d_cX9_advance_13 : decode cX9_advance 13 = .ok (.if_icmp .ne 7, 3) := by decide +kernel
theorem d_cX9_advance_20 : decode cX9_advance 20 = .ok (.iconst 0, 1) := by decide +kernel
theorem d_cX9_advance_117 : decode cX9_advance 117 = .ok (.iconst 1, 1) := by decide +kernel
theorem d_cX9_advance_118 : decode cX9_advance 118 = .ok (.goto 4, 3) := by decide +kernel
abbrev ky_4491_Signs_opOf : gKey := (cX9_opOf, 3, yX9_opOf.cls, (some FieldType.int), [], yX9_opOf.name, fun _ _ => True)
abbrev po_4491_Signs_opOf (I : FieldType → ClassId) (p4489 : Int32) (p4490 : Int32) : Option Value → va_W → Prop := fun r w => ∃ (o4607 : Int32), r = some (.int o4607) ∧ w = [] ∧ gB o4607 (-1) 13
set_option maxRecDepth 100000 in
set_option maxHeartbeats 4000000 in
theorem ct_4491_Signs_opOf (l : Launch) (hl0 : l.stackTraces = false) (D : va_G) (I : FieldType → ClassId) (p4489 : Int32) (p4490 : Int32)  : Ct (gV D I) l yX9_opOf cX9_opOf 3 (some FieldType.int) 4 85 0 0 [.int p4489, .int p4490] [] (po_4491_Signs_opOf I p4489 p4490) gN := by
  refine Ct_of hl0 (by decide) (Nat.le_of_ble_eq_true rfl) ?_
  have bp4489 := gB_any p4489
  have bp4490 := gB_any p4490
  refine G_iconst 0 d_cX9_opOf_0 (by decide +kernel) ?_
  refine G_istore_n (L' := [(2, .int 0), (0, .int p4489), (1, .int p4490)]) d_cX9_opOf_1 (Nat.le_of_ble_eq_true rfl) rfl ?_
  have hlp2_4588 : ∀ (n2_4588 : Nat) (g4588 : Int32), gB g4588 0 14 → ((15 : Int) - g4588.toInt).toNat < n2_4588 → G (gV D I) l (gRm 4 85 0 0) (gM (gV D I) (po_4491_Signs_opOf I p4489 p4490) gN 0 0) ky_4491_Signs_opOf 2 [(2, .int g4588), (0, .int p4489), (1, .int p4490)] [] [] 0 0 := by
    intro n2_4588
    induction n2_4588 with
    | zero => intro g4588 bg4588 hm2_4588; exact absurd hm2_4588 (Nat.not_lt_zero _)
    | succ n2_4588 ih2_4588 =>
      intro g4588 bg4588 hm2_4588
      refine G_iload_n 0 d_cX9_opOf_2 rfl ?_
      refine G_bipush 14 d_cX9_opOf_3 (by decide +kernel) ?_
      refine G_icmp_ge 42 d_cX9_opOf_5 (by decide +kernel) (fun hc4589 => ?_) (fun hc4589 => ?_)
      · have r4590 : 14 ≤ g4588.toInt := gj_leL hc4589 (show Int32.toInt 14 = 14 by decide)
        have bg4588' : gB g4588 14 14 := ⟨by omega, by omega⟩
        refine G_iconst (-1) d_cX9_opOf_42 (by decide +kernel) ?_
        exact G_iret d_cX9_opOf_43 rfl (Nat.le_of_ble_eq_true rfl) (Nat.le_of_ble_eq_true rfl) ⟨(-1), rfl, rfl, (gB_w (gBl (show Int32.toInt (-1) = (-1) by decide)) (by decide) (by decide))⟩
      · have r4591 : g4588.toInt < 14 := gj_nleL hc4589 (show Int32.toInt 14 = 14 by decide)
        have bg4588' : gB g4588 0 13 := ⟨by omega, by omega⟩
        refine G_ldcK (a := D.2 1000 5) d_cX9_opOf_8 (fun _ _ _ h => gx_vk 5 rfl rfl h) ?_
        have hl5_4591 : (sb_5.length : Int) = 28 := rfl
        refine G_iconst 2 d_cX9_opOf_10 (by decide +kernel) ?_
        refine G_iload_n 0 d_cX9_opOf_11 rfl ?_
        refine G_imul d_cX9_opOf_12 (G_nam fun z4593 hz4593 => ?_)
        have ez4593 : z4593.toInt = 2 * g4588.toInt := by rw [gI_mul hz4593 (gBl (show Int32.toInt 2 = 2 by decide)) bg4588' (by decide) (by decide) (by decide), show Int32.toInt 2 = 2 from by decide]
        have bz4593 : gB z4593 0 26 := gB_mul hz4593 (gBl (show Int32.toInt 2 = 2 by decide)) bg4588' (by decide) (by decide) (by decide) (by decide)
        refine G_callVk (As := [.int z4593]) (wr := []) (gV_ok D I) (ct_3854_String_charAt l hl0 D I (D.2 1000 5) (D.2 1001 5) sb_5 z4593 (gx_sc 5 rfl rfl) (by omega) (by omega) (by omega)) d_cX9_opOf_13 ⟨w_3_67, w_1_21, w_3_70, by decide, rfl, (Nat.le_of_ble_eq_true rfl), (Nat.le_of_ble_eq_true rfl)⟩ w_3_68 w_3_69 (fun _ _ _ h => ((gx_sc 5 rfl rfl) _ _ _ h).1) [] [] rfl rfl rfl rfl (by decide) (Nat.le_of_ble_eq_true rfl) (Nat.le_of_ble_eq_true rfl) (Nat.le_of_ble_eq_true rfl) (fun r w hp => ?_) (fun _ _ _ z => z.elim)
        obtain ⟨o4594, rfl, rfl, bo4594⟩ := hp
        change G _ _ _ _ _ _ _ (.int o4594 :: _) _ _ _
        refine G_ws (ws' := []) (cs' := 0) (sl' := 0) rfl rfl rfl ?_
        refine G_iload_n 1 d_cX9_opOf_16 rfl ?_
        refine G_icmp_ne 36 d_cX9_opOf_17 (by decide +kernel) (fun hc4595 => ?_) (fun hc4595 => ?_)
        · have r4596 : o4594.toInt ≠ p4489.toInt := gC_ne hc4595
          obtain ⟨z4597, hz4597⟩ : ∃ z : Int32, z = g4588 + Int32.ofInt 1 := ⟨_, rfl⟩
          have ez4597 : z4597.toInt = g4588.toInt + 1 := gI_inc hz4597 (by decide) bg4588' (by decide) (by decide)
          have bz4597 : gB z4597 1 14 := ⟨by omega, by omega⟩
          refine G_iinc (L' := [(2, .int z4597), (0, .int p4489), (1, .int p4490)]) z4597 0 d_cX9_opOf_36 rfl hz4597.symm (Nat.le_of_ble_eq_true rfl) rfl ?_
          refine G_goto 2 d_cX9_opOf_39 (by decide +kernel) ?_
          exact ih2_4588 z4597 (gB_w bz4597 (by decide) (by decide)) (by omega)
        · have r4598 : o4594.toInt = p4489.toInt := gC_eq hc4595
          have bp4489' : gB p4489 0 65535 := ⟨by omega, by omega⟩
          refine G_ldcK (a := D.2 1000 5) d_cX9_opOf_20 (fun _ _ _ h => gx_vk 5 rfl rfl h) ?_
          have hl5_4598 : (sb_5.length : Int) = 28 := rfl
          refine G_iconst 2 d_cX9_opOf_22 (by decide +kernel) ?_
          refine G_iload_n 0 d_cX9_opOf_23 rfl ?_
          refine G_imul d_cX9_opOf_24 (G_nam fun z4600 hz4600 => ?_)
          have ez4600 : z4600.toInt = 2 * g4588.toInt := by rw [gI_mul hz4600 (gBl (show Int32.toInt 2 = 2 by decide)) bg4588' (by decide) (by decide) (by decide), show Int32.toInt 2 = 2 from by decide]
          have bz4600 : gB z4600 0 26 := gB_mul hz4600 (gBl (show Int32.toInt 2 = 2 by decide)) bg4588' (by decide) (by decide) (by decide) (by decide)
          refine G_iconst 1 d_cX9_opOf_25 (by decide +kernel) ?_
          refine G_iadd d_cX9_opOf_26 (G_nam fun z4601 hz4601 => ?_)
          have ez4601 : z4601.toInt = z4600.toInt + 1 := by rw [gI_add hz4601 bz4600 (gBl (show Int32.toInt 1 = 1 by decide)) (by decide) (by decide), show Int32.toInt 1 = 1 from by decide]
          have bz4601 : gB z4601 1 27 := gB_add (gI_add hz4601 bz4600 (gBl (show Int32.toInt 1 = 1 by decide)) (by decide) (by decide)) bz4600 (gBl (show Int32.toInt 1 = 1 by decide)) (by decide) (by decide)
          refine G_callVk (As := [.int z4601]) (wr := []) (gV_ok D I) (ct_3854_String_charAt l hl0 D I (D.2 1000 5) (D.2 1001 5) sb_5 z4601 (gx_sc 5 rfl rfl) (by omega) (by omega) (by omega)) d_cX9_opOf_27 ⟨w_3_67, w_1_21, w_3_70, by decide, rfl, (Nat.le_of_ble_eq_true rfl), (Nat.le_of_ble_eq_true rfl)⟩ w_3_68 w_3_69 (fun _ _ _ h => ((gx_sc 5 rfl rfl) _ _ _ h).1) [] [] rfl rfl rfl rfl (by decide) (Nat.le_of_ble_eq_true rfl) (Nat.le_of_ble_eq_true rfl) (Nat.le_of_ble_eq_true rfl) (fun r w hp => ?_) (fun _ _ _ z => z.elim)
          obtain ⟨o4602, rfl, rfl, bo4602⟩ := hp
          change G _ _ _ _ _ _ _ (.int o4602 :: _) _ _ _
          refine G_ws (ws' := []) (cs' := 0) (sl' := 0) rfl rfl rfl ?_
          refine G_iload_n 2 d_cX9_opOf_30 rfl ?_
          refine G_icmp_ne 36 d_cX9_opOf_31 (by decide +kernel) (fun hc4603 => ?_) (fun hc4603 => ?_)
          · have r4604 : o4602.toInt ≠ p4490.toInt := gC_ne hc4603
            obtain ⟨z4605, hz4605⟩ : ∃ z : Int32, z = g4588 + Int32.ofInt 1 := ⟨_, rfl⟩
            have ez4605 : z4605.toInt = g4588.toInt + 1 := gI_inc hz4605 (by decide) bg4588' (by decide) (by decide)
            have bz4605 : gB z4605 1 14 := ⟨by omega, by omega⟩
            refine G_iinc (L' := [(2, .int z4605), (0, .int p4489), (1, .int p4490)]) z4605 0 d_cX9_opOf_36 rfl hz4605.symm (Nat.le_of_ble_eq_true rfl) rfl ?_
            refine G_goto 2 d_cX9_opOf_39 (by decide +kernel) ?_
            exact ih2_4588 z4605 (gB_w bz4605 (by decide) (by decide)) (by omega)
          · have r4606 : o4602.toInt = p4490.toInt := gC_eq hc4603
            have bp4490' : gB p4490 0 65535 := ⟨by omega, by omega⟩
            refine G_iload_n 0 d_cX9_opOf_34 rfl ?_
            exact G_iret d_cX9_opOf_35 rfl (Nat.le_of_ble_eq_true rfl) (Nat.le_of_ble_eq_true rfl) ⟨g4588, rfl, rfl, (gB_w bg4588' (by decide) (by decide))⟩
  exact hlp2_4588 (((15 : Int) - 0).toNat + 1) 0 (gB_w (gBl (show Int32.toInt 0 = 0 by decide)) (by decide) (by decide)) (Nat.lt_succ_self _)
abbrev ky_4620_Signs_takeMark : gKey := (cX9_takeMark, 4, yX9_takeMark.cls, none, [], yX9_takeMark.name, fun _ _ => True)
abbrev po_4620_Signs_takeMark (I : FieldType → ClassId) (q4608 : Nat) (q4609 : Nat) (q4610 : Nat) (p4611 : Int32) (p4612 : Int32) (p4613 : Int32) (p4614 : Int32) (p4615 : Int32) (p4616 : Int32) (p4617 : Int32) (f4618 : Nat → Int32) : Option Value → va_W → Prop := fun r w => ∃ (o4651 : Int32) (o4652 : Int32) (o4653 : Int32), r = none ∧ w = [(q4608, .inr (14, [.ref q4609, .int o4651, .int o4652, .int p4615, .int o4653])), (q4609, .inr (15, [.ref q4610, .int p4617])), (q4610, .inl (I .byte, 8192, .inl f4618))] ∧ gB o4651 0 7 ∧ gB o4652 (-1) 13 ∧ gB o4653 (-2147483648) 2147483647 ∧ (o4651.toInt ≠ 5 ∨ (0 ≤ o4652.toInt ∧ o4652.toInt ≤ 13))
set_option maxRecDepth 100000 in
set_option maxHeartbeats 4000000 in
theorem ct_4620_Signs_takeMark (l : Launch) (hl0 : l.stackTraces = false) (D : va_G) (I : FieldType → ClassId) (q4608 : Nat) (q4609 : Nat) (q4610 : Nat) (p4611 : Int32) (p4612 : Int32) (p4613 : Int32) (p4614 : Int32) (p4615 : Int32) (p4616 : Int32) (p4617 : Int32) (f4618 : Nat → Int32) (bp4617 : gB p4617 0 8192) (bf4618 : gF f4618 (-128) 127) (x4619 : (p4613.toInt ≠ 5 ∨ (0 ≤ p4614.toInt ∧ p4614.toInt ≤ 13))) : Ct (gV D I) l yX9_takeMark cX9_takeMark 4 none 5 107 0 0 [.ref q4608, .int p4611, .int p4612] [(q4608, .inr (14, [.ref q4609, .int p4613, .int p4614, .int p4615, .int p4616])), (q4609, .inr (15, [.ref q4610, .int p4617])), (q4610, .inl (I .byte, 8192, .inl f4618))] (po_4620_Signs_takeMark I q4608 q4609 q4610 p4611 p4612 p4613 p4614 p4615 p4616 p4617 f4618) gN := by
  refine Ct_of hl0 (by decide) (Nat.le_of_ble_eq_true rfl) ?_
  have bp4611 := gB_any p4611
  have bp4612 := gB_any p4612
  have bp4613 := gB_any p4613
  have bp4614 := gB_any p4614
  have bp4615 := gB_any p4615
  have bp4616 := gB_any p4616
  refine G_iload_n 1 d_cX9_takeMark_0 rfl ?_
  refine G_iload_n 2 d_cX9_takeMark_1 rfl ?_
  refine G_callS (As := [.int p4611, .int p4612]) (wr := [(q4608, .inr (14, [.ref q4609, .int p4613, .int p4614, .int p4615, .int p4616])), (q4609, .inr (15, [.ref q4610, .int p4617])), (q4610, .inl (I .byte, 8192, .inl f4618))]) (gV_ok D I) (ct_4491_Signs_opOf l hl0 D I p4611 p4612 ) d_cX9_takeMark_2 ⟨w_3_113, w_1_4, w_3_115, by decide, rfl, (Nat.le_of_ble_eq_true rfl), (Nat.le_of_ble_eq_true rfl)⟩ w_3_114 [] [0, 1, 2] rfl rfl rfl rfl (by decide) (Nat.le_of_ble_eq_true rfl) (Nat.le_of_ble_eq_true rfl) (Nat.le_of_ble_eq_true rfl) (fun r w hp => ?_) (fun _ _ _ z => z.elim)
  obtain ⟨o4621, rfl, rfl, bo4621⟩ := hp
  change G _ _ _ _ _ _ _ (.int o4621 :: _) _ _ _
  refine G_ws (ws' := [(q4608, .inr (14, [.ref q4609, .int p4613, .int p4614, .int p4615, .int p4616])), (q4609, .inr (15, [.ref q4610, .int p4617])), (q4610, .inl (I .byte, 8192, .inl f4618))]) (cs' := 0) (sl' := 0) rfl rfl rfl ?_
  refine G_istore_n (L' := [(3, .int o4621), (0, .ref q4608), (1, .int p4611), (2, .int p4612)]) d_cX9_takeMark_5 (Nat.le_of_ble_eq_true rfl) rfl ?_
  refine G_aload_n 1 d_cX9_takeMark_6 rfl ?_
  refine G_aload_n 1 d_cX9_takeMark_7 rfl ?_
  refine G_getf 0 3 d_cX9_takeMark_8 rfl (gk_X9 D I) (Nat.le_of_ble_eq_true rfl) w_1_82 rfl ?_
  refine G_iconst 2 d_cX9_takeMark_11 (by decide +kernel) ?_
  refine G_iadd d_cX9_takeMark_12 (G_nam fun z4622 hz4622 => ?_)
  have bz4622 : gB z4622 (-2147483648) 2147483647 := gB_any z4622
  refine G_putf (ws' := [(q4608, .inr (14, [.ref q4609, .int p4613, .int p4614, .int p4615, .int z4622])), (q4609, .inr (15, [.ref q4610, .int p4617])), (q4610, .inl (I .byte, 8192, .inl f4618))]) 0 4 d_cX9_takeMark_13 rfl (gk_X9 D I) (Nat.le_of_ble_eq_true rfl) w_1_83 rfl rfl rfl (Nat.le_of_ble_eq_true rfl) rfl ?_
  refine G_iload_n 0 d_cX9_takeMark_16 rfl ?_
  refine G_iconst (-1) d_cX9_takeMark_17 (by decide +kernel) ?_
  refine G_icmp_eq 27 d_cX9_takeMark_18 (by decide +kernel) (fun hc4623 => ?_) (fun hc4623 => ?_)
  · have r4624 : o4621.toInt = (-1) := gj_eq hc4623 (show Int32.toInt (-1) = (-1) by decide)
    have bo4621' : gB o4621 (-1) (-1) := ⟨by omega, by omega⟩
    refine G_iload_n 2 d_cX9_takeMark_27 rfl ?_
    refine G_bipush 32 d_cX9_takeMark_28 (by decide +kernel) ?_
    refine G_callS (As := [.int p4611, .int 32]) (wr := [(q4608, .inr (14, [.ref q4609, .int p4613, .int p4614, .int p4615, .int z4622])), (q4609, .inr (15, [.ref q4610, .int p4617])), (q4610, .inl (I .byte, 8192, .inl f4618))]) (gV_ok D I) (ct_4491_Signs_opOf l hl0 D I p4611 32 ) d_cX9_takeMark_30 ⟨w_3_113, w_1_4, w_3_115, by decide, rfl, (Nat.le_of_ble_eq_true rfl), (Nat.le_of_ble_eq_true rfl)⟩ w_3_114 [] [0, 1, 2] rfl rfl rfl rfl (by decide) (Nat.le_of_ble_eq_true rfl) (Nat.le_of_ble_eq_true rfl) (Nat.le_of_ble_eq_true rfl) (fun r w hp => ?_) (fun _ _ _ z => z.elim)
    obtain ⟨o4625, rfl, rfl, bo4625⟩ := hp
    change G _ _ _ _ _ _ _ (.int o4625 :: _) _ _ _
    refine G_ws (ws' := [(q4608, .inr (14, [.ref q4609, .int p4613, .int p4614, .int p4615, .int z4622])), (q4609, .inr (15, [.ref q4610, .int p4617])), (q4610, .inl (I .byte, 8192, .inl f4618))]) (cs' := 0) (sl' := 0) rfl rfl rfl ?_
    refine G_istore_n (L' := [(3, .int o4625), (0, .ref q4608), (1, .int p4611), (2, .int p4612)]) d_cX9_takeMark_33 (Nat.le_of_ble_eq_true rfl) rfl ?_
    refine G_aload_n 1 d_cX9_takeMark_34 rfl ?_
    refine G_aload_n 1 d_cX9_takeMark_35 rfl ?_
    refine G_getf 0 3 d_cX9_takeMark_36 rfl (gk_X9 D I) (Nat.le_of_ble_eq_true rfl) w_1_82 rfl ?_
    refine G_iconst 1 d_cX9_takeMark_39 (by decide +kernel) ?_
    refine G_iadd d_cX9_takeMark_40 (G_nam fun z4626 hz4626 => ?_)
    have bz4626 : gB z4626 (-2147483648) 2147483647 := gB_any z4626
    refine G_putf (ws' := [(q4608, .inr (14, [.ref q4609, .int p4613, .int p4614, .int p4615, .int z4626])), (q4609, .inr (15, [.ref q4610, .int p4617])), (q4610, .inl (I .byte, 8192, .inl f4618))]) 0 4 d_cX9_takeMark_41 rfl (gk_X9 D I) (Nat.le_of_ble_eq_true rfl) w_1_83 rfl rfl rfl (Nat.le_of_ble_eq_true rfl) rfl ?_
    refine G_aload_n 1 d_cX9_takeMark_44 rfl ?_
    refine G_iload_n 0 d_cX9_takeMark_45 rfl ?_
    refine G_putf (ws' := [(q4608, .inr (14, [.ref q4609, .int p4613, .int o4625, .int p4615, .int z4626])), (q4609, .inr (15, [.ref q4610, .int p4617])), (q4610, .inl (I .byte, 8192, .inl f4618))]) 0 2 d_cX9_takeMark_46 rfl (gk_X9 D I) (Nat.le_of_ble_eq_true rfl) w_1_81 rfl rfl rfl (Nat.le_of_ble_eq_true rfl) rfl ?_
    refine G_aload_n 1 d_cX9_takeMark_49 rfl ?_
    refine G_iload_n 0 d_cX9_takeMark_50 rfl ?_
    refine G_iconst (-1) d_cX9_takeMark_51 (by decide +kernel) ?_
    refine G_icmp_eq 59 d_cX9_takeMark_52 (by decide +kernel) (fun hc4627 => ?_) (fun hc4627 => ?_)
    · have r4628 : o4625.toInt = (-1) := gj_eq hc4627 (show Int32.toInt (-1) = (-1) by decide)
      have bo4625' : gB o4625 (-1) (-1) := ⟨by omega, by omega⟩
      refine G_iload_n 2 d_cX9_takeMark_59 rfl ?_
      refine G_bipush 58 d_cX9_takeMark_60 (by decide +kernel) ?_
      refine G_icmp_ne 70 d_cX9_takeMark_62 (by decide +kernel) (fun hc4629 => ?_) (fun hc4629 => ?_)
      · have r4630 : p4611.toInt ≠ 58 := gj_neq hc4629 (show Int32.toInt 58 = 58 by decide)
        refine G_iload_n 2 d_cX9_takeMark_70 rfl ?_
        refine G_bipush 61 d_cX9_takeMark_71 (by decide +kernel) ?_
        refine G_icmp_ne 81 d_cX9_takeMark_73 (by decide +kernel) (fun hc4631 => ?_) (fun hc4631 => ?_)
        · have r4632 : p4611.toInt ≠ 61 := gj_neq hc4631 (show Int32.toInt 61 = 61 by decide)
          refine G_iconst 0 d_cX9_takeMark_81 (by decide +kernel) ?_
          refine G_putf (ws' := [(q4608, .inr (14, [.ref q4609, .int 0, .int o4625, .int p4615, .int z4626])), (q4609, .inr (15, [.ref q4610, .int p4617])), (q4610, .inl (I .byte, 8192, .inl f4618))]) 0 1 d_cX9_takeMark_82 rfl (gk_X9 D I) (Nat.le_of_ble_eq_true rfl) w_1_80 rfl rfl rfl (Nat.le_of_ble_eq_true rfl) rfl ?_
          exact G_vret d_cX9_takeMark_85 rfl (Nat.le_of_ble_eq_true rfl) (Nat.le_of_ble_eq_true rfl) ⟨0, o4625, z4626, rfl, rfl, (gB_w (gBl (show Int32.toInt 0 = 0 by decide)) (by decide) (by decide)), (gB_w bo4625' (by decide) (by decide)), bz4626, (by have qa0 : Int32.toInt 0 = 0 := (by decide); omega)⟩
        · have r4633 : p4611.toInt = 61 := gj_eq hc4631 (show Int32.toInt 61 = 61 by decide)
          have bp4611' : gB p4611 61 61 := ⟨by omega, by omega⟩
          refine G_bipush 7 d_cX9_takeMark_76 (by decide +kernel) ?_
          refine G_goto 82 d_cX9_takeMark_78 (by decide +kernel) ?_
          refine G_putf (ws' := [(q4608, .inr (14, [.ref q4609, .int 7, .int o4625, .int p4615, .int z4626])), (q4609, .inr (15, [.ref q4610, .int p4617])), (q4610, .inl (I .byte, 8192, .inl f4618))]) 0 1 d_cX9_takeMark_82 rfl (gk_X9 D I) (Nat.le_of_ble_eq_true rfl) w_1_80 rfl rfl rfl (Nat.le_of_ble_eq_true rfl) rfl ?_
          exact G_vret d_cX9_takeMark_85 rfl (Nat.le_of_ble_eq_true rfl) (Nat.le_of_ble_eq_true rfl) ⟨7, o4625, z4626, rfl, rfl, (gB_w (gBl (show Int32.toInt 7 = 7 by decide)) (by decide) (by decide)), (gB_w bo4625' (by decide) (by decide)), bz4626, (by have qa0 : Int32.toInt 7 = 7 := (by decide); omega)⟩
      · have r4634 : p4611.toInt = 58 := gj_eq hc4629 (show Int32.toInt 58 = 58 by decide)
        have bp4611' : gB p4611 58 58 := ⟨by omega, by omega⟩
        refine G_bipush 6 d_cX9_takeMark_65 (by decide +kernel) ?_
        refine G_goto 82 d_cX9_takeMark_67 (by decide +kernel) ?_
        refine G_putf (ws' := [(q4608, .inr (14, [.ref q4609, .int 6, .int o4625, .int p4615, .int z4626])), (q4609, .inr (15, [.ref q4610, .int p4617])), (q4610, .inl (I .byte, 8192, .inl f4618))]) 0 1 d_cX9_takeMark_82 rfl (gk_X9 D I) (Nat.le_of_ble_eq_true rfl) w_1_80 rfl rfl rfl (Nat.le_of_ble_eq_true rfl) rfl ?_
        exact G_vret d_cX9_takeMark_85 rfl (Nat.le_of_ble_eq_true rfl) (Nat.le_of_ble_eq_true rfl) ⟨6, o4625, z4626, rfl, rfl, (gB_w (gBl (show Int32.toInt 6 = 6 by decide)) (by decide) (by decide)), (gB_w bo4625' (by decide) (by decide)), bz4626, (by have qa0 : Int32.toInt 6 = 6 := (by decide); omega)⟩
    · have r4635 : o4625.toInt ≠ (-1) := gj_neq hc4627 (show Int32.toInt (-1) = (-1) by decide)
      have bo4625' : gB o4625 0 13 := ⟨by omega, by omega⟩
      refine G_iconst 5 d_cX9_takeMark_55 (by decide +kernel) ?_
      refine G_goto 82 d_cX9_takeMark_56 (by decide +kernel) ?_
      refine G_putf (ws' := [(q4608, .inr (14, [.ref q4609, .int 5, .int o4625, .int p4615, .int z4626])), (q4609, .inr (15, [.ref q4610, .int p4617])), (q4610, .inl (I .byte, 8192, .inl f4618))]) 0 1 d_cX9_takeMark_82 rfl (gk_X9 D I) (Nat.le_of_ble_eq_true rfl) w_1_80 rfl rfl rfl (Nat.le_of_ble_eq_true rfl) rfl ?_
      exact G_vret d_cX9_takeMark_85 rfl (Nat.le_of_ble_eq_true rfl) (Nat.le_of_ble_eq_true rfl) ⟨5, o4625, z4626, rfl, rfl, (gB_w (gBl (show Int32.toInt 5 = 5 by decide)) (by decide) (by decide)), (gB_w bo4625' (by decide) (by decide)), bz4626, (by have qa0 : Int32.toInt 5 = 5 := (by decide); omega)⟩
  · have r4636 : o4621.toInt ≠ (-1) := gj_neq hc4623 (show Int32.toInt (-1) = (-1) by decide)
    have bo4621' : gB o4621 0 13 := ⟨by omega, by omega⟩
    refine G_iload_n 3 d_cX9_takeMark_21 rfl ?_
    refine G_bipush 32 d_cX9_takeMark_22 (by decide +kernel) ?_
    refine G_icmp_ne 44 d_cX9_takeMark_24 (by decide +kernel) (fun hc4637 => ?_) (fun hc4637 => ?_)
    · have r4638 : p4612.toInt ≠ 32 := gj_neq hc4637 (show Int32.toInt 32 = 32 by decide)
      refine G_aload_n 1 d_cX9_takeMark_44 rfl ?_
      refine G_iload_n 0 d_cX9_takeMark_45 rfl ?_
      refine G_putf (ws' := [(q4608, .inr (14, [.ref q4609, .int p4613, .int o4621, .int p4615, .int z4622])), (q4609, .inr (15, [.ref q4610, .int p4617])), (q4610, .inl (I .byte, 8192, .inl f4618))]) 0 2 d_cX9_takeMark_46 rfl (gk_X9 D I) (Nat.le_of_ble_eq_true rfl) w_1_81 rfl rfl rfl (Nat.le_of_ble_eq_true rfl) rfl ?_
      refine G_aload_n 1 d_cX9_takeMark_49 rfl ?_
      refine G_iload_n 0 d_cX9_takeMark_50 rfl ?_
      refine G_iconst (-1) d_cX9_takeMark_51 (by decide +kernel) ?_
      refine G_icmp_eq 59 d_cX9_takeMark_52 (by decide +kernel) (fun hc => absurd (show False by have := gj_eq hc (show Int32.toInt (-1) = (-1) by decide); omega) not_false) (fun _ => ?_)
      refine G_iconst 5 d_cX9_takeMark_55 (by decide +kernel) ?_
      refine G_goto 82 d_cX9_takeMark_56 (by decide +kernel) ?_
      refine G_putf (ws' := [(q4608, .inr (14, [.ref q4609, .int 5, .int o4621, .int p4615, .int z4622])), (q4609, .inr (15, [.ref q4610, .int p4617])), (q4610, .inl (I .byte, 8192, .inl f4618))]) 0 1 d_cX9_takeMark_82 rfl (gk_X9 D I) (Nat.le_of_ble_eq_true rfl) w_1_80 rfl rfl rfl (Nat.le_of_ble_eq_true rfl) rfl ?_
      exact G_vret d_cX9_takeMark_85 rfl (Nat.le_of_ble_eq_true rfl) (Nat.le_of_ble_eq_true rfl) ⟨5, o4621, z4622, rfl, rfl, (gB_w (gBl (show Int32.toInt 5 = 5 by decide)) (by decide) (by decide)), (gB_w bo4621' (by decide) (by decide)), bz4622, (by have qa0 : Int32.toInt 5 = 5 := (by decide); omega)⟩
    · have r4639 : p4612.toInt = 32 := gj_eq hc4637 (show Int32.toInt 32 = 32 by decide)
      have bp4612' : gB p4612 32 32 := ⟨by omega, by omega⟩
      refine G_iload_n 2 d_cX9_takeMark_27 rfl ?_
      refine G_bipush 32 d_cX9_takeMark_28 (by decide +kernel) ?_
      refine G_callS (As := [.int p4611, .int 32]) (wr := [(q4608, .inr (14, [.ref q4609, .int p4613, .int p4614, .int p4615, .int z4622])), (q4609, .inr (15, [.ref q4610, .int p4617])), (q4610, .inl (I .byte, 8192, .inl f4618))]) (gV_ok D I) (ct_4491_Signs_opOf l hl0 D I p4611 32 ) d_cX9_takeMark_30 ⟨w_3_113, w_1_4, w_3_115, by decide, rfl, (Nat.le_of_ble_eq_true rfl), (Nat.le_of_ble_eq_true rfl)⟩ w_3_114 [] [0, 1, 2] rfl rfl rfl rfl (by decide) (Nat.le_of_ble_eq_true rfl) (Nat.le_of_ble_eq_true rfl) (Nat.le_of_ble_eq_true rfl) (fun r w hp => ?_) (fun _ _ _ z => z.elim)
      obtain ⟨o4640, rfl, rfl, bo4640⟩ := hp
      change G _ _ _ _ _ _ _ (.int o4640 :: _) _ _ _
      refine G_ws (ws' := [(q4608, .inr (14, [.ref q4609, .int p4613, .int p4614, .int p4615, .int z4622])), (q4609, .inr (15, [.ref q4610, .int p4617])), (q4610, .inl (I .byte, 8192, .inl f4618))]) (cs' := 0) (sl' := 0) rfl rfl rfl ?_
      refine G_istore_n (L' := [(3, .int o4640), (0, .ref q4608), (1, .int p4611), (2, .int p4612)]) d_cX9_takeMark_33 (Nat.le_of_ble_eq_true rfl) rfl ?_
      refine G_aload_n 1 d_cX9_takeMark_34 rfl ?_
      refine G_aload_n 1 d_cX9_takeMark_35 rfl ?_
      refine G_getf 0 3 d_cX9_takeMark_36 rfl (gk_X9 D I) (Nat.le_of_ble_eq_true rfl) w_1_82 rfl ?_
      refine G_iconst 1 d_cX9_takeMark_39 (by decide +kernel) ?_
      refine G_iadd d_cX9_takeMark_40 (G_nam fun z4641 hz4641 => ?_)
      have bz4641 : gB z4641 (-2147483648) 2147483647 := gB_any z4641
      refine G_putf (ws' := [(q4608, .inr (14, [.ref q4609, .int p4613, .int p4614, .int p4615, .int z4641])), (q4609, .inr (15, [.ref q4610, .int p4617])), (q4610, .inl (I .byte, 8192, .inl f4618))]) 0 4 d_cX9_takeMark_41 rfl (gk_X9 D I) (Nat.le_of_ble_eq_true rfl) w_1_83 rfl rfl rfl (Nat.le_of_ble_eq_true rfl) rfl ?_
      refine G_aload_n 1 d_cX9_takeMark_44 rfl ?_
      refine G_iload_n 0 d_cX9_takeMark_45 rfl ?_
      refine G_putf (ws' := [(q4608, .inr (14, [.ref q4609, .int p4613, .int o4640, .int p4615, .int z4641])), (q4609, .inr (15, [.ref q4610, .int p4617])), (q4610, .inl (I .byte, 8192, .inl f4618))]) 0 2 d_cX9_takeMark_46 rfl (gk_X9 D I) (Nat.le_of_ble_eq_true rfl) w_1_81 rfl rfl rfl (Nat.le_of_ble_eq_true rfl) rfl ?_
      refine G_aload_n 1 d_cX9_takeMark_49 rfl ?_
      refine G_iload_n 0 d_cX9_takeMark_50 rfl ?_
      refine G_iconst (-1) d_cX9_takeMark_51 (by decide +kernel) ?_
      refine G_icmp_eq 59 d_cX9_takeMark_52 (by decide +kernel) (fun hc4642 => ?_) (fun hc4642 => ?_)
      · have r4643 : o4640.toInt = (-1) := gj_eq hc4642 (show Int32.toInt (-1) = (-1) by decide)
        have bo4640' : gB o4640 (-1) (-1) := ⟨by omega, by omega⟩
        refine G_iload_n 2 d_cX9_takeMark_59 rfl ?_
        refine G_bipush 58 d_cX9_takeMark_60 (by decide +kernel) ?_
        refine G_icmp_ne 70 d_cX9_takeMark_62 (by decide +kernel) (fun hc4644 => ?_) (fun hc4644 => ?_)
        · have r4645 : p4611.toInt ≠ 58 := gj_neq hc4644 (show Int32.toInt 58 = 58 by decide)
          refine G_iload_n 2 d_cX9_takeMark_70 rfl ?_
          refine G_bipush 61 d_cX9_takeMark_71 (by decide +kernel) ?_
          refine G_icmp_ne 81 d_cX9_takeMark_73 (by decide +kernel) (fun hc4646 => ?_) (fun hc4646 => ?_)
          · have r4647 : p4611.toInt ≠ 61 := gj_neq hc4646 (show Int32.toInt 61 = 61 by decide)
            refine G_iconst 0 d_cX9_takeMark_81 (by decide +kernel) ?_
            refine G_putf (ws' := [(q4608, .inr (14, [.ref q4609, .int 0, .int o4640, .int p4615, .int z4641])), (q4609, .inr (15, [.ref q4610, .int p4617])), (q4610, .inl (I .byte, 8192, .inl f4618))]) 0 1 d_cX9_takeMark_82 rfl (gk_X9 D I) (Nat.le_of_ble_eq_true rfl) w_1_80 rfl rfl rfl (Nat.le_of_ble_eq_true rfl) rfl ?_
            exact G_vret d_cX9_takeMark_85 rfl (Nat.le_of_ble_eq_true rfl) (Nat.le_of_ble_eq_true rfl) ⟨0, o4640, z4641, rfl, rfl, (gB_w (gBl (show Int32.toInt 0 = 0 by decide)) (by decide) (by decide)), (gB_w bo4640' (by decide) (by decide)), bz4641, (by have qa0 : Int32.toInt 0 = 0 := (by decide); omega)⟩
          · have r4648 : p4611.toInt = 61 := gj_eq hc4646 (show Int32.toInt 61 = 61 by decide)
            have bp4611' : gB p4611 61 61 := ⟨by omega, by omega⟩
            refine G_bipush 7 d_cX9_takeMark_76 (by decide +kernel) ?_
            refine G_goto 82 d_cX9_takeMark_78 (by decide +kernel) ?_
            refine G_putf (ws' := [(q4608, .inr (14, [.ref q4609, .int 7, .int o4640, .int p4615, .int z4641])), (q4609, .inr (15, [.ref q4610, .int p4617])), (q4610, .inl (I .byte, 8192, .inl f4618))]) 0 1 d_cX9_takeMark_82 rfl (gk_X9 D I) (Nat.le_of_ble_eq_true rfl) w_1_80 rfl rfl rfl (Nat.le_of_ble_eq_true rfl) rfl ?_
            exact G_vret d_cX9_takeMark_85 rfl (Nat.le_of_ble_eq_true rfl) (Nat.le_of_ble_eq_true rfl) ⟨7, o4640, z4641, rfl, rfl, (gB_w (gBl (show Int32.toInt 7 = 7 by decide)) (by decide) (by decide)), (gB_w bo4640' (by decide) (by decide)), bz4641, (by have qa0 : Int32.toInt 7 = 7 := (by decide); omega)⟩
        · have r4649 : p4611.toInt = 58 := gj_eq hc4644 (show Int32.toInt 58 = 58 by decide)
          have bp4611' : gB p4611 58 58 := ⟨by omega, by omega⟩
          refine G_bipush 6 d_cX9_takeMark_65 (by decide +kernel) ?_
          refine G_goto 82 d_cX9_takeMark_67 (by decide +kernel) ?_
          refine G_putf (ws' := [(q4608, .inr (14, [.ref q4609, .int 6, .int o4640, .int p4615, .int z4641])), (q4609, .inr (15, [.ref q4610, .int p4617])), (q4610, .inl (I .byte, 8192, .inl f4618))]) 0 1 d_cX9_takeMark_82 rfl (gk_X9 D I) (Nat.le_of_ble_eq_true rfl) w_1_80 rfl rfl rfl (Nat.le_of_ble_eq_true rfl) rfl ?_
          exact G_vret d_cX9_takeMark_85 rfl (Nat.le_of_ble_eq_true rfl) (Nat.le_of_ble_eq_true rfl) ⟨6, o4640, z4641, rfl, rfl, (gB_w (gBl (show Int32.toInt 6 = 6 by decide)) (by decide) (by decide)), (gB_w bo4640' (by decide) (by decide)), bz4641, (by have qa0 : Int32.toInt 6 = 6 := (by decide); omega)⟩
      · have r4650 : o4640.toInt ≠ (-1) := gj_neq hc4642 (show Int32.toInt (-1) = (-1) by decide)
        have bo4640' : gB o4640 0 13 := ⟨by omega, by omega⟩
        refine G_iconst 5 d_cX9_takeMark_55 (by decide +kernel) ?_
        refine G_goto 82 d_cX9_takeMark_56 (by decide +kernel) ?_
        refine G_putf (ws' := [(q4608, .inr (14, [.ref q4609, .int 5, .int o4640, .int p4615, .int z4641])), (q4609, .inr (15, [.ref q4610, .int p4617])), (q4610, .inl (I .byte, 8192, .inl f4618))]) 0 1 d_cX9_takeMark_82 rfl (gk_X9 D I) (Nat.le_of_ble_eq_true rfl) w_1_80 rfl rfl rfl (Nat.le_of_ble_eq_true rfl) rfl ?_
        exact G_vret d_cX9_takeMark_85 rfl (Nat.le_of_ble_eq_true rfl) (Nat.le_of_ble_eq_true rfl) ⟨5, o4640, z4641, rfl, rfl, (gB_w (gBl (show Int32.toInt 5 = 5 by decide)) (by decide) (by decide)), (gB_w bo4640' (by decide) (by decide)), bz4641, (by have qa0 : Int32.toInt 5 = 5 := (by decide); omega)⟩
abbrev ky_4664_Signs_advance : gKey := (cX9_advance, 4, yX9_advance.cls, none, [], yX9_advance.name, fun _ _ => True)
abbrev po_4664_Signs_advance (I : FieldType → ClassId) (q4654 : Nat) (q4655 : Nat) (q4656 : Nat) (p4657 : Int32) (p4658 : Int32) (p4659 : Int32) (p4660 : Int32) (p4661 : Int32) (f4662 : Nat → Int32) : Option Value → va_W → Prop := fun r w => ∃ (o5386 : Int32) (o5387 : Int32) (o5388 : Int32) (o5389 : Int32), r = none ∧ w = [(q4654, .inr (14, [.ref q4655, .int o5386, .int o5387, .int o5388, .int o5389])), (q4655, .inr (15, [.ref q4656, .int p4661])), (q4656, .inl (I .byte, 8192, .inl f4662))] ∧ gB o5386 0 12 ∧ gB o5387 (-2147483648) 2147483647 ∧ gB o5388 (-2147483648) 8192 ∧ gB o5389 (-2147483648) 2147483647 ∧ (o5386.toInt ≠ 5 ∨ (0 ≤ o5387.toInt ∧ o5387.toInt ≤ 13))
set_option maxRecDepth 100000 in
set_option maxHeartbeats 4000000 in
theorem ct_4664_Signs_advance (l : Launch) (hl0 : l.stackTraces = false) (D : va_G) (I : FieldType → ClassId) (q4654 : Nat) (q4655 : Nat) (q4656 : Nat) (p4657 : Int32) (p4658 : Int32) (p4659 : Int32) (p4660 : Int32) (p4661 : Int32) (f4662 : Nat → Int32) (bp4661 : gB p4661 0 8192) (bf4662 : gF f4662 (-128) 127) (x4663 : (p4657.toInt ≠ 5 ∨ (0 ≤ p4658.toInt ∧ p4658.toInt ≤ 13))) : Ct (gV D I) l yX9_advance cX9_advance 4 none 6 130 0 0 [.ref q4654] [(q4654, .inr (14, [.ref q4655, .int p4657, .int p4658, .int p4659, .int p4660])), (q4655, .inr (15, [.ref q4656, .int p4661])), (q4656, .inl (I .byte, 8192, .inl f4662))] (po_4664_Signs_advance I q4654 q4655 q4656 p4657 p4658 p4659 p4660 p4661 f4662) gN := by
  refine Ct_of hl0 (by decide) (Nat.le_of_ble_eq_true rfl) ?_
  have bp4657 := gB_any p4657
  have bp4658 := gB_any p4658
  have bp4659 := gB_any p4659
  have bp4660 := gB_any p4660
  refine G_aload_n 0 d_cX9_advance_0 rfl ?_
  refine G_getf 0 1 d_cX9_advance_1 rfl (gk_X9 D I) (Nat.le_of_ble_eq_true rfl) w_1_80 rfl ?_
  refine G_iconst 2 d_cX9_advance_4 (by decide +kernel) ?_
  refine G_icmp_eq 16 d_cX9_advance_5 (by decide +kernel) (fun hc4665 => ?_) (fun hc4665 => ?_)
  · have r4666 : p4657.toInt = 2 := gj_eq hc4665 (show Int32.toInt 2 = 2 by decide)
    have bp4657' : gB p4657 2 2 := ⟨by omega, by omega⟩
    refine G_iconst 1 d_cX9_advance_16 (by decide +kernel) ?_
    refine G_goto 21 d_cX9_advance_17 (by decide +kernel) ?_
    refine G_istore_n (L' := [(1, .int 1), (0, .ref q4654)]) d_cX9_advance_21 (Nat.le_of_ble_eq_true rfl) rfl ?_
    refine G_aload_n 1 d_cX9_advance_22 rfl ?_
    refine G_aload_n 1 d_cX9_advance_23 rfl ?_
    refine G_aload_n 1 d_cX9_advance_24 rfl ?_
    refine G_getf 0 4 d_cX9_advance_25 rfl (gk_X9 D I) (Nat.le_of_ble_eq_true rfl) w_1_83 rfl ?_
    refine G_callV (As := [.int p4660]) (wr := []) (gV_ok D I) (ct_326_Signs_skipBlanks l hl0 D I q4654 q4655 q4656 p4660 p4657 p4658 p4659 p4660 p4661 f4662 bp4661 bf4662 (by have qa0 : Int32.toInt 1 = 1 := (by decide); omega)) d_cX9_advance_28 ⟨w_3_12, w_1_4, w_3_15, by decide, rfl, (Nat.le_of_ble_eq_true rfl), (Nat.le_of_ble_eq_true rfl)⟩ w_3_14 w_p_0 0 rfl rfl [0, 1, 2] [] rfl rfl rfl rfl (by decide) (Nat.le_of_ble_eq_true rfl) (Nat.le_of_ble_eq_true rfl) (Nat.le_of_ble_eq_true rfl) (fun r w hp => ?_) (fun _ _ _ z => z.elim)
    obtain ⟨o4667, rfl, rfl, bo4667⟩ := hp
    change G _ _ _ _ _ _ _ (.int o4667 :: _) _ _ _
    refine G_ws (ws' := [(q4654, .inr (14, [.ref q4655, .int p4657, .int p4658, .int p4659, .int p4660])), (q4655, .inr (15, [.ref q4656, .int p4661])), (q4656, .inl (I .byte, 8192, .inl f4662))]) (cs' := 0) (sl' := 0) rfl rfl rfl ?_
    refine G_putf (ws' := [(q4654, .inr (14, [.ref q4655, .int p4657, .int p4658, .int o4667, .int p4660])), (q4655, .inr (15, [.ref q4656, .int p4661])), (q4656, .inl (I .byte, 8192, .inl f4662))]) 0 3 d_cX9_advance_31 rfl (gk_X9 D I) (Nat.le_of_ble_eq_true rfl) w_1_82 rfl rfl rfl (Nat.le_of_ble_eq_true rfl) rfl ?_
    refine G_aload_n 1 d_cX9_advance_34 rfl ?_
    refine G_getf 0 0 d_cX9_advance_35 rfl (gk_X9 D I) (Nat.le_of_ble_eq_true rfl) w_1_79 rfl ?_
    refine G_aload_n 1 d_cX9_advance_38 rfl ?_
    refine G_getf 0 3 d_cX9_advance_39 rfl (gk_X9 D I) (Nat.le_of_ble_eq_true rfl) w_1_82 rfl ?_
    refine G_callV (As := [.int o4667]) (wr := [(q4654, .inr (14, [.ref q4655, .int p4657, .int p4658, .int o4667, .int p4660]))]) (gV_ok D I) (ct_30_Tape_byteAt l hl0 D I q4655 q4656 o4667 p4661 f4662 bp4661 bf4662) d_cX9_advance_42 ⟨w_3_20, w_1_2, w_3_23, by decide, rfl, (Nat.le_of_ble_eq_true rfl), (Nat.le_of_ble_eq_true rfl)⟩ w_3_21 w_3_22 1 rfl rfl [1, 2] [0] rfl rfl rfl rfl (by decide) (Nat.le_of_ble_eq_true rfl) (Nat.le_of_ble_eq_true rfl) (Nat.le_of_ble_eq_true rfl) (fun r w hp => ?_) (fun _ _ _ z => z.elim)
    rcases hp with ⟨rfl, rfl, r4668⟩ | ⟨rfl, rfl, r4669, r4670⟩ | ⟨z4671, rfl, rfl, r4672, r4673, r4674⟩
    · have bo4667' : gB o4667 (-2147483648) (-1) := ⟨by omega, by omega⟩
      change G _ _ _ _ _ _ _ (.int (-1) :: _) _ _ _
      refine G_ws (ws' := [(q4654, .inr (14, [.ref q4655, .int p4657, .int p4658, .int o4667, .int p4660])), (q4655, .inr (15, [.ref q4656, .int p4661])), (q4656, .inl (I .byte, 8192, .inl f4662))]) (cs' := 0) (sl' := 0) rfl rfl rfl ?_
      refine G_istore_n (L' := [(2, .int (-1)), (1, .int 1), (0, .ref q4654)]) d_cX9_advance_45 (Nat.le_of_ble_eq_true rfl) rfl ?_
      refine G_aload_n 2 d_cX9_advance_46 rfl ?_
      refine G_getf 0 0 d_cX9_advance_47 rfl (gk_X9 D I) (Nat.le_of_ble_eq_true rfl) w_1_79 rfl ?_
      refine G_aload_n 2 d_cX9_advance_50 rfl ?_
      refine G_getf 0 3 d_cX9_advance_51 rfl (gk_X9 D I) (Nat.le_of_ble_eq_true rfl) w_1_82 rfl ?_
      refine G_iconst 1 d_cX9_advance_54 (by decide +kernel) ?_
      refine G_iadd d_cX9_advance_55 (G_nam fun z4675 hz4675 => ?_)
      have ez4675 : z4675.toInt = o4667.toInt + 1 := by rw [gI_add hz4675 bo4667' (gBl (show Int32.toInt 1 = 1 by decide)) (by decide) (by decide), show Int32.toInt 1 = 1 from by decide]
      have bz4675 : gB z4675 (-2147483647) 0 := gB_add (gI_add hz4675 bo4667' (gBl (show Int32.toInt 1 = 1 by decide)) (by decide) (by decide)) bo4667' (gBl (show Int32.toInt 1 = 1 by decide)) (by decide) (by decide)
      refine G_callV (As := [.int z4675]) (wr := [(q4654, .inr (14, [.ref q4655, .int p4657, .int p4658, .int o4667, .int p4660]))]) (gV_ok D I) (ct_30_Tape_byteAt l hl0 D I q4655 q4656 z4675 p4661 f4662 bp4661 bf4662) d_cX9_advance_56 ⟨w_3_20, w_1_2, w_3_23, by decide, rfl, (Nat.le_of_ble_eq_true rfl), (Nat.le_of_ble_eq_true rfl)⟩ w_3_21 w_3_22 1 rfl rfl [1, 2] [0] rfl rfl rfl rfl (by decide) (Nat.le_of_ble_eq_true rfl) (Nat.le_of_ble_eq_true rfl) (Nat.le_of_ble_eq_true rfl) (fun r w hp => ?_) (fun _ _ _ z => z.elim)
      rcases hp with ⟨rfl, rfl, r4676⟩ | ⟨rfl, rfl, r4677, r4678⟩ | ⟨z4679, rfl, rfl, r4680, r4681, r4682⟩
      · have bz4675' : gB z4675 (-2147483647) (-1) := ⟨by omega, by omega⟩
        change G _ _ _ _ _ _ _ (.int (-1) :: _) _ _ _
        refine G_ws (ws' := [(q4654, .inr (14, [.ref q4655, .int p4657, .int p4658, .int o4667, .int p4660])), (q4655, .inr (15, [.ref q4656, .int p4661])), (q4656, .inl (I .byte, 8192, .inl f4662))]) (cs' := 0) (sl' := 0) rfl rfl rfl ?_
        refine G_istore_n (L' := [(3, .int (-1)), (2, .int (-1)), (1, .int 1), (0, .ref q4654)]) d_cX9_advance_59 (Nat.le_of_ble_eq_true rfl) rfl ?_
        refine G_aload_n 3 d_cX9_advance_60 rfl ?_
        refine G_iconst 0 d_cX9_advance_61 (by decide +kernel) ?_
        refine G_putf (ws' := [(q4654, .inr (14, [.ref q4655, .int p4657, .int 0, .int o4667, .int p4660])), (q4655, .inr (15, [.ref q4656, .int p4661])), (q4656, .inl (I .byte, 8192, .inl f4662))]) 0 2 d_cX9_advance_62 rfl (gk_X9 D I) (Nat.le_of_ble_eq_true rfl) w_1_81 rfl rfl rfl (Nat.le_of_ble_eq_true rfl) rfl ?_
        refine G_iload_n 1 d_cX9_advance_65 rfl ?_
        refine G_iconst (-1) d_cX9_advance_66 (by decide +kernel) ?_
        refine G_icmp_ne 86 d_cX9_advance_67 (by decide +kernel) (fun hc => absurd hc (by decide)) (fun _ => ?_)
        refine G_aload_n 3 d_cX9_advance_70 rfl ?_
        refine G_iconst 1 d_cX9_advance_71 (by decide +kernel) ?_
        refine G_putf (ws' := [(q4654, .inr (14, [.ref q4655, .int 1, .int 0, .int o4667, .int p4660])), (q4655, .inr (15, [.ref q4656, .int p4661])), (q4656, .inl (I .byte, 8192, .inl f4662))]) 0 1 d_cX9_advance_72 rfl (gk_X9 D I) (Nat.le_of_ble_eq_true rfl) w_1_80 rfl rfl rfl (Nat.le_of_ble_eq_true rfl) rfl ?_
        refine G_aload_n 3 d_cX9_advance_75 rfl ?_
        refine G_aload_n 3 d_cX9_advance_76 rfl ?_
        refine G_getf 0 3 d_cX9_advance_77 rfl (gk_X9 D I) (Nat.le_of_ble_eq_true rfl) w_1_82 rfl ?_
        refine G_putf (ws' := [(q4654, .inr (14, [.ref q4655, .int 1, .int 0, .int o4667, .int o4667])), (q4655, .inr (15, [.ref q4656, .int p4661])), (q4656, .inl (I .byte, 8192, .inl f4662))]) 0 4 d_cX9_advance_80 rfl (gk_X9 D I) (Nat.le_of_ble_eq_true rfl) w_1_83 rfl rfl rfl (Nat.le_of_ble_eq_true rfl) rfl ?_
        refine G_goto 194 d_cX9_advance_83 (by decide +kernel) ?_
        exact G_vret d_cX9_advance_194 rfl (Nat.le_of_ble_eq_true rfl) (Nat.le_of_ble_eq_true rfl) ⟨1, 0, o4667, o4667, rfl, rfl, (gB_w (gBl (show Int32.toInt 1 = 1 by decide)) (by decide) (by decide)), (gB_w (gBl (show Int32.toInt 0 = 0 by decide)) (by decide) (by decide)), (gB_w bo4667' (by decide) (by decide)), (gB_w bo4667' (by decide) (by decide)), (by have qa0 : Int32.toInt (-1) = (-1) := (by decide); have qa1 : Int32.toInt 0 = 0 := (by decide); have qa2 : Int32.toInt 1 = 1 := (by decide); omega)⟩
      · have bz4675' : gB z4675 0 0 := ⟨by omega, by omega⟩
        have bp4661' : gB p4661 0 0 := ⟨by omega, by omega⟩
        change G _ _ _ _ _ _ _ (.int (-1) :: _) _ _ _
        refine G_ws (ws' := [(q4654, .inr (14, [.ref q4655, .int p4657, .int p4658, .int o4667, .int p4660])), (q4655, .inr (15, [.ref q4656, .int p4661])), (q4656, .inl (I .byte, 8192, .inl f4662))]) (cs' := 0) (sl' := 0) rfl rfl rfl ?_
        refine G_istore_n (L' := [(3, .int (-1)), (2, .int (-1)), (1, .int 1), (0, .ref q4654)]) d_cX9_advance_59 (Nat.le_of_ble_eq_true rfl) rfl ?_
        refine G_aload_n 3 d_cX9_advance_60 rfl ?_
        refine G_iconst 0 d_cX9_advance_61 (by decide +kernel) ?_
        refine G_putf (ws' := [(q4654, .inr (14, [.ref q4655, .int p4657, .int 0, .int o4667, .int p4660])), (q4655, .inr (15, [.ref q4656, .int p4661])), (q4656, .inl (I .byte, 8192, .inl f4662))]) 0 2 d_cX9_advance_62 rfl (gk_X9 D I) (Nat.le_of_ble_eq_true rfl) w_1_81 rfl rfl rfl (Nat.le_of_ble_eq_true rfl) rfl ?_
        refine G_iload_n 1 d_cX9_advance_65 rfl ?_
        refine G_iconst (-1) d_cX9_advance_66 (by decide +kernel) ?_
        refine G_icmp_ne 86 d_cX9_advance_67 (by decide +kernel) (fun hc => absurd hc (by decide)) (fun _ => ?_)
        refine G_aload_n 3 d_cX9_advance_70 rfl ?_
        refine G_iconst 1 d_cX9_advance_71 (by decide +kernel) ?_
        refine G_putf (ws' := [(q4654, .inr (14, [.ref q4655, .int 1, .int 0, .int o4667, .int p4660])), (q4655, .inr (15, [.ref q4656, .int p4661])), (q4656, .inl (I .byte, 8192, .inl f4662))]) 0 1 d_cX9_advance_72 rfl (gk_X9 D I) (Nat.le_of_ble_eq_true rfl) w_1_80 rfl rfl rfl (Nat.le_of_ble_eq_true rfl) rfl ?_
        refine G_aload_n 3 d_cX9_advance_75 rfl ?_
        refine G_aload_n 3 d_cX9_advance_76 rfl ?_
        refine G_getf 0 3 d_cX9_advance_77 rfl (gk_X9 D I) (Nat.le_of_ble_eq_true rfl) w_1_82 rfl ?_
        refine G_putf (ws' := [(q4654, .inr (14, [.ref q4655, .int 1, .int 0, .int o4667, .int o4667])), (q4655, .inr (15, [.ref q4656, .int p4661])), (q4656, .inl (I .byte, 8192, .inl f4662))]) 0 4 d_cX9_advance_80 rfl (gk_X9 D I) (Nat.le_of_ble_eq_true rfl) w_1_83 rfl rfl rfl (Nat.le_of_ble_eq_true rfl) rfl ?_
        refine G_goto 194 d_cX9_advance_83 (by decide +kernel) ?_
        exact G_vret d_cX9_advance_194 rfl (Nat.le_of_ble_eq_true rfl) (Nat.le_of_ble_eq_true rfl) ⟨1, 0, o4667, o4667, rfl, rfl, (gB_w (gBl (show Int32.toInt 1 = 1 by decide)) (by decide) (by decide)), (gB_w (gBl (show Int32.toInt 0 = 0 by decide)) (by decide) (by decide)), (gB_w bo4667' (by decide) (by decide)), (gB_w bo4667' (by decide) (by decide)), (by have qa0 : Int32.toInt (-1) = (-1) := (by decide); have qa1 : Int32.toInt 0 = 0 := (by decide); have qa2 : Int32.toInt 1 = 1 := (by decide); omega)⟩
      · have bz4675' : gB z4675 0 0 := ⟨by omega, by omega⟩
        have bp4661' : gB p4661 1 8192 := ⟨by omega, by omega⟩
        change G _ _ _ _ _ _ _ (.int z4679 :: _) _ _ _
        refine G_ws (ws' := [(q4654, .inr (14, [.ref q4655, .int p4657, .int p4658, .int o4667, .int p4660])), (q4655, .inr (15, [.ref q4656, .int p4661])), (q4656, .inl (I .byte, 8192, .inl f4662))]) (cs' := 0) (sl' := 0) rfl rfl rfl ?_
        refine G_istore_n (L' := [(3, .int z4679), (2, .int (-1)), (1, .int 1), (0, .ref q4654)]) d_cX9_advance_59 (Nat.le_of_ble_eq_true rfl) rfl ?_
        refine G_aload_n 3 d_cX9_advance_60 rfl ?_
        refine G_iconst 0 d_cX9_advance_61 (by decide +kernel) ?_
        refine G_putf (ws' := [(q4654, .inr (14, [.ref q4655, .int p4657, .int 0, .int o4667, .int p4660])), (q4655, .inr (15, [.ref q4656, .int p4661])), (q4656, .inl (I .byte, 8192, .inl f4662))]) 0 2 d_cX9_advance_62 rfl (gk_X9 D I) (Nat.le_of_ble_eq_true rfl) w_1_81 rfl rfl rfl (Nat.le_of_ble_eq_true rfl) rfl ?_
        refine G_iload_n 1 d_cX9_advance_65 rfl ?_
        refine G_iconst (-1) d_cX9_advance_66 (by decide +kernel) ?_
        refine G_icmp_ne 86 d_cX9_advance_67 (by decide +kernel) (fun hc => absurd hc (by decide)) (fun _ => ?_)
        refine G_aload_n 3 d_cX9_advance_70 rfl ?_
        refine G_iconst 1 d_cX9_advance_71 (by decide +kernel) ?_
        refine G_putf (ws' := [(q4654, .inr (14, [.ref q4655, .int 1, .int 0, .int o4667, .int p4660])), (q4655, .inr (15, [.ref q4656, .int p4661])), (q4656, .inl (I .byte, 8192, .inl f4662))]) 0 1 d_cX9_advance_72 rfl (gk_X9 D I) (Nat.le_of_ble_eq_true rfl) w_1_80 rfl rfl rfl (Nat.le_of_ble_eq_true rfl) rfl ?_
        refine G_aload_n 3 d_cX9_advance_75 rfl ?_
        refine G_aload_n 3 d_cX9_advance_76 rfl ?_
        refine G_getf 0 3 d_cX9_advance_77 rfl (gk_X9 D I) (Nat.le_of_ble_eq_true rfl) w_1_82 rfl ?_
        refine G_putf (ws' := [(q4654, .inr (14, [.ref q4655, .int 1, .int 0, .int o4667, .int o4667])), (q4655, .inr (15, [.ref q4656, .int p4661])), (q4656, .inl (I .byte, 8192, .inl f4662))]) 0 4 d_cX9_advance_80 rfl (gk_X9 D I) (Nat.le_of_ble_eq_true rfl) w_1_83 rfl rfl rfl (Nat.le_of_ble_eq_true rfl) rfl ?_
        refine G_goto 194 d_cX9_advance_83 (by decide +kernel) ?_
        exact G_vret d_cX9_advance_194 rfl (Nat.le_of_ble_eq_true rfl) (Nat.le_of_ble_eq_true rfl) ⟨1, 0, o4667, o4667, rfl, rfl, (gB_w (gBl (show Int32.toInt 1 = 1 by decide)) (by decide) (by decide)), (gB_w (gBl (show Int32.toInt 0 = 0 by decide)) (by decide) (by decide)), (gB_w bo4667' (by decide) (by decide)), (gB_w bo4667' (by decide) (by decide)), (by have qa0 : Int32.toInt (-1) = (-1) := (by decide); have qa1 : Int32.toInt 0 = 0 := (by decide); have qa2 : Int32.toInt 1 = 1 := (by decide); omega)⟩
    · have bo4667' : gB o4667 0 8192 := ⟨by omega, by omega⟩
      change G _ _ _ _ _ _ _ (.int (-1) :: _) _ _ _
      refine G_ws (ws' := [(q4654, .inr (14, [.ref q4655, .int p4657, .int p4658, .int o4667, .int p4660])), (q4655, .inr (15, [.ref q4656, .int p4661])), (q4656, .inl (I .byte, 8192, .inl f4662))]) (cs' := 0) (sl' := 0) rfl rfl rfl ?_
      refine G_istore_n (L' := [(2, .int (-1)), (1, .int 1), (0, .ref q4654)]) d_cX9_advance_45 (Nat.le_of_ble_eq_true rfl) rfl ?_
      refine G_aload_n 2 d_cX9_advance_46 rfl ?_
      refine G_getf 0 0 d_cX9_advance_47 rfl (gk_X9 D I) (Nat.le_of_ble_eq_true rfl) w_1_79 rfl ?_
      refine G_aload_n 2 d_cX9_advance_50 rfl ?_
      refine G_getf 0 3 d_cX9_advance_51 rfl (gk_X9 D I) (Nat.le_of_ble_eq_true rfl) w_1_82 rfl ?_
      refine G_iconst 1 d_cX9_advance_54 (by decide +kernel) ?_
      refine G_iadd d_cX9_advance_55 (G_nam fun z4683 hz4683 => ?_)
      have ez4683 : z4683.toInt = o4667.toInt + 1 := by rw [gI_add hz4683 bo4667' (gBl (show Int32.toInt 1 = 1 by decide)) (by decide) (by decide), show Int32.toInt 1 = 1 from by decide]
      have bz4683 : gB z4683 1 8193 := gB_add (gI_add hz4683 bo4667' (gBl (show Int32.toInt 1 = 1 by decide)) (by decide) (by decide)) bo4667' (gBl (show Int32.toInt 1 = 1 by decide)) (by decide) (by decide)
      refine G_callV (As := [.int z4683]) (wr := [(q4654, .inr (14, [.ref q4655, .int p4657, .int p4658, .int o4667, .int p4660]))]) (gV_ok D I) (ct_30_Tape_byteAt l hl0 D I q4655 q4656 z4683 p4661 f4662 bp4661 bf4662) d_cX9_advance_56 ⟨w_3_20, w_1_2, w_3_23, by decide, rfl, (Nat.le_of_ble_eq_true rfl), (Nat.le_of_ble_eq_true rfl)⟩ w_3_21 w_3_22 1 rfl rfl [1, 2] [0] rfl rfl rfl rfl (by decide) (Nat.le_of_ble_eq_true rfl) (Nat.le_of_ble_eq_true rfl) (Nat.le_of_ble_eq_true rfl) (fun r w hp => ?_) (fun _ _ _ z => z.elim)
      rcases hp with ⟨rfl, rfl, r4684⟩ | ⟨rfl, rfl, r4685, r4686⟩ | ⟨z4687, rfl, rfl, r4688, r4689, r4690⟩
      · exact absurd (show False by omega) not_false
      · change G _ _ _ _ _ _ _ (.int (-1) :: _) _ _ _
        refine G_ws (ws' := [(q4654, .inr (14, [.ref q4655, .int p4657, .int p4658, .int o4667, .int p4660])), (q4655, .inr (15, [.ref q4656, .int p4661])), (q4656, .inl (I .byte, 8192, .inl f4662))]) (cs' := 0) (sl' := 0) rfl rfl rfl ?_
        refine G_istore_n (L' := [(3, .int (-1)), (2, .int (-1)), (1, .int 1), (0, .ref q4654)]) d_cX9_advance_59 (Nat.le_of_ble_eq_true rfl) rfl ?_
        refine G_aload_n 3 d_cX9_advance_60 rfl ?_
        refine G_iconst 0 d_cX9_advance_61 (by decide +kernel) ?_
        refine G_putf (ws' := [(q4654, .inr (14, [.ref q4655, .int p4657, .int 0, .int o4667, .int p4660])), (q4655, .inr (15, [.ref q4656, .int p4661])), (q4656, .inl (I .byte, 8192, .inl f4662))]) 0 2 d_cX9_advance_62 rfl (gk_X9 D I) (Nat.le_of_ble_eq_true rfl) w_1_81 rfl rfl rfl (Nat.le_of_ble_eq_true rfl) rfl ?_
        refine G_iload_n 1 d_cX9_advance_65 rfl ?_
        refine G_iconst (-1) d_cX9_advance_66 (by decide +kernel) ?_
        refine G_icmp_ne 86 d_cX9_advance_67 (by decide +kernel) (fun hc => absurd hc (by decide)) (fun _ => ?_)
        refine G_aload_n 3 d_cX9_advance_70 rfl ?_
        refine G_iconst 1 d_cX9_advance_71 (by decide +kernel) ?_
        refine G_putf (ws' := [(q4654, .inr (14, [.ref q4655, .int 1, .int 0, .int o4667, .int p4660])), (q4655, .inr (15, [.ref q4656, .int p4661])), (q4656, .inl (I .byte, 8192, .inl f4662))]) 0 1 d_cX9_advance_72 rfl (gk_X9 D I) (Nat.le_of_ble_eq_true rfl) w_1_80 rfl rfl rfl (Nat.le_of_ble_eq_true rfl) rfl ?_
        refine G_aload_n 3 d_cX9_advance_75 rfl ?_
        refine G_aload_n 3 d_cX9_advance_76 rfl ?_
        refine G_getf 0 3 d_cX9_advance_77 rfl (gk_X9 D I) (Nat.le_of_ble_eq_true rfl) w_1_82 rfl ?_
        refine G_putf (ws' := [(q4654, .inr (14, [.ref q4655, .int 1, .int 0, .int o4667, .int o4667])), (q4655, .inr (15, [.ref q4656, .int p4661])), (q4656, .inl (I .byte, 8192, .inl f4662))]) 0 4 d_cX9_advance_80 rfl (gk_X9 D I) (Nat.le_of_ble_eq_true rfl) w_1_83 rfl rfl rfl (Nat.le_of_ble_eq_true rfl) rfl ?_
        refine G_goto 194 d_cX9_advance_83 (by decide +kernel) ?_
        exact G_vret d_cX9_advance_194 rfl (Nat.le_of_ble_eq_true rfl) (Nat.le_of_ble_eq_true rfl) ⟨1, 0, o4667, o4667, rfl, rfl, (gB_w (gBl (show Int32.toInt 1 = 1 by decide)) (by decide) (by decide)), (gB_w (gBl (show Int32.toInt 0 = 0 by decide)) (by decide) (by decide)), (gB_w bo4667' (by decide) (by decide)), (gB_w bo4667' (by decide) (by decide)), (by have qa0 : Int32.toInt (-1) = (-1) := (by decide); have qa1 : Int32.toInt 0 = 0 := (by decide); have qa2 : Int32.toInt 1 = 1 := (by decide); omega)⟩
      · have bz4683' : gB z4683 1 8191 := ⟨by omega, by omega⟩
        have bp4661' : gB p4661 2 8192 := ⟨by omega, by omega⟩
        change G _ _ _ _ _ _ _ (.int z4687 :: _) _ _ _
        refine G_ws (ws' := [(q4654, .inr (14, [.ref q4655, .int p4657, .int p4658, .int o4667, .int p4660])), (q4655, .inr (15, [.ref q4656, .int p4661])), (q4656, .inl (I .byte, 8192, .inl f4662))]) (cs' := 0) (sl' := 0) rfl rfl rfl ?_
        refine G_istore_n (L' := [(3, .int z4687), (2, .int (-1)), (1, .int 1), (0, .ref q4654)]) d_cX9_advance_59 (Nat.le_of_ble_eq_true rfl) rfl ?_
        refine G_aload_n 3 d_cX9_advance_60 rfl ?_
        refine G_iconst 0 d_cX9_advance_61 (by decide +kernel) ?_
        refine G_putf (ws' := [(q4654, .inr (14, [.ref q4655, .int p4657, .int 0, .int o4667, .int p4660])), (q4655, .inr (15, [.ref q4656, .int p4661])), (q4656, .inl (I .byte, 8192, .inl f4662))]) 0 2 d_cX9_advance_62 rfl (gk_X9 D I) (Nat.le_of_ble_eq_true rfl) w_1_81 rfl rfl rfl (Nat.le_of_ble_eq_true rfl) rfl ?_
        refine G_iload_n 1 d_cX9_advance_65 rfl ?_
        refine G_iconst (-1) d_cX9_advance_66 (by decide +kernel) ?_
        refine G_icmp_ne 86 d_cX9_advance_67 (by decide +kernel) (fun hc => absurd hc (by decide)) (fun _ => ?_)
        refine G_aload_n 3 d_cX9_advance_70 rfl ?_
        refine G_iconst 1 d_cX9_advance_71 (by decide +kernel) ?_
        refine G_putf (ws' := [(q4654, .inr (14, [.ref q4655, .int 1, .int 0, .int o4667, .int p4660])), (q4655, .inr (15, [.ref q4656, .int p4661])), (q4656, .inl (I .byte, 8192, .inl f4662))]) 0 1 d_cX9_advance_72 rfl (gk_X9 D I) (Nat.le_of_ble_eq_true rfl) w_1_80 rfl rfl rfl (Nat.le_of_ble_eq_true rfl) rfl ?_
        refine G_aload_n 3 d_cX9_advance_75 rfl ?_
        refine G_aload_n 3 d_cX9_advance_76 rfl ?_
        refine G_getf 0 3 d_cX9_advance_77 rfl (gk_X9 D I) (Nat.le_of_ble_eq_true rfl) w_1_82 rfl ?_
        refine G_putf (ws' := [(q4654, .inr (14, [.ref q4655, .int 1, .int 0, .int o4667, .int o4667])), (q4655, .inr (15, [.ref q4656, .int p4661])), (q4656, .inl (I .byte, 8192, .inl f4662))]) 0 4 d_cX9_advance_80 rfl (gk_X9 D I) (Nat.le_of_ble_eq_true rfl) w_1_83 rfl rfl rfl (Nat.le_of_ble_eq_true rfl) rfl ?_
        refine G_goto 194 d_cX9_advance_83 (by decide +kernel) ?_
        exact G_vret d_cX9_advance_194 rfl (Nat.le_of_ble_eq_true rfl) (Nat.le_of_ble_eq_true rfl) ⟨1, 0, o4667, o4667, rfl, rfl, (gB_w (gBl (show Int32.toInt 1 = 1 by decide)) (by decide) (by decide)), (gB_w (gBl (show Int32.toInt 0 = 0 by decide)) (by decide) (by decide)), (gB_w bo4667' (by decide) (by decide)), (gB_w bo4667' (by decide) (by decide)), (by have qa0 : Int32.toInt (-1) = (-1) := (by decide); have qa1 : Int32.toInt 0 = 0 := (by decide); have qa2 : Int32.toInt 1 = 1 := (by decide); omega)⟩
    · have bo4667' : gB o4667 0 8192 := ⟨by omega, by omega⟩
      have bo4667'' : gB o4667 0 8191 := ⟨by omega, by omega⟩
      have bp4661' : gB p4661 1 8192 := ⟨by omega, by omega⟩
      change G _ _ _ _ _ _ _ (.int z4671 :: _) _ _ _
      refine G_ws (ws' := [(q4654, .inr (14, [.ref q4655, .int p4657, .int p4658, .int o4667, .int p4660])), (q4655, .inr (15, [.ref q4656, .int p4661])), (q4656, .inl (I .byte, 8192, .inl f4662))]) (cs' := 0) (sl' := 0) rfl rfl rfl ?_
      refine G_istore_n (L' := [(2, .int z4671), (1, .int 1), (0, .ref q4654)]) d_cX9_advance_45 (Nat.le_of_ble_eq_true rfl) rfl ?_
      refine G_aload_n 2 d_cX9_advance_46 rfl ?_
      refine G_getf 0 0 d_cX9_advance_47 rfl (gk_X9 D I) (Nat.le_of_ble_eq_true rfl) w_1_79 rfl ?_
      refine G_aload_n 2 d_cX9_advance_50 rfl ?_
      refine G_getf 0 3 d_cX9_advance_51 rfl (gk_X9 D I) (Nat.le_of_ble_eq_true rfl) w_1_82 rfl ?_
      refine G_iconst 1 d_cX9_advance_54 (by decide +kernel) ?_
      refine G_iadd d_cX9_advance_55 (G_nam fun z4691 hz4691 => ?_)
      have ez4691 : z4691.toInt = o4667.toInt + 1 := by rw [gI_add hz4691 bo4667'' (gBl (show Int32.toInt 1 = 1 by decide)) (by decide) (by decide), show Int32.toInt 1 = 1 from by decide]
      have bz4691 : gB z4691 1 8192 := gB_add (gI_add hz4691 bo4667'' (gBl (show Int32.toInt 1 = 1 by decide)) (by decide) (by decide)) bo4667'' (gBl (show Int32.toInt 1 = 1 by decide)) (by decide) (by decide)
      refine G_callV (As := [.int z4691]) (wr := [(q4654, .inr (14, [.ref q4655, .int p4657, .int p4658, .int o4667, .int p4660]))]) (gV_ok D I) (ct_30_Tape_byteAt l hl0 D I q4655 q4656 z4691 p4661 f4662 (gB_w bp4661' (by decide) (by decide)) bf4662) d_cX9_advance_56 ⟨w_3_20, w_1_2, w_3_23, by decide, rfl, (Nat.le_of_ble_eq_true rfl), (Nat.le_of_ble_eq_true rfl)⟩ w_3_21 w_3_22 1 rfl rfl [1, 2] [0] rfl rfl rfl rfl (by decide) (Nat.le_of_ble_eq_true rfl) (Nat.le_of_ble_eq_true rfl) (Nat.le_of_ble_eq_true rfl) (fun r w hp => ?_) (fun _ _ _ z => z.elim)
      rcases hp with ⟨rfl, rfl, r4692⟩ | ⟨rfl, rfl, r4693, r4694⟩ | ⟨z4695, rfl, rfl, r4696, r4697, r4698⟩
      · exact absurd (show False by omega) not_false
      · change G _ _ _ _ _ _ _ (.int (-1) :: _) _ _ _
        refine G_ws (ws' := [(q4654, .inr (14, [.ref q4655, .int p4657, .int p4658, .int o4667, .int p4660])), (q4655, .inr (15, [.ref q4656, .int p4661])), (q4656, .inl (I .byte, 8192, .inl f4662))]) (cs' := 0) (sl' := 0) rfl rfl rfl ?_
        refine G_istore_n (L' := [(3, .int (-1)), (2, .int z4671), (1, .int 1), (0, .ref q4654)]) d_cX9_advance_59 (Nat.le_of_ble_eq_true rfl) rfl ?_
        refine G_aload_n 3 d_cX9_advance_60 rfl ?_
        refine G_iconst 0 d_cX9_advance_61 (by decide +kernel) ?_
        refine G_putf (ws' := [(q4654, .inr (14, [.ref q4655, .int p4657, .int 0, .int o4667, .int p4660])), (q4655, .inr (15, [.ref q4656, .int p4661])), (q4656, .inl (I .byte, 8192, .inl f4662))]) 0 2 d_cX9_advance_62 rfl (gk_X9 D I) (Nat.le_of_ble_eq_true rfl) w_1_81 rfl rfl rfl (Nat.le_of_ble_eq_true rfl) rfl ?_
        refine G_iload_n 1 d_cX9_advance_65 rfl ?_
        refine G_iconst (-1) d_cX9_advance_66 (by decide +kernel) ?_
        refine G_icmp_ne 86 d_cX9_advance_67 (by decide +kernel) (fun _ => ?_) (fun hc => absurd (show False by have := gj_eq hc (show Int32.toInt (-1) = (-1) by decide); omega) not_false)
        refine G_iload_n 1 d_cX9_advance_86 rfl ?_
        refine G_callS (As := [.int z4671]) (wr := [(q4654, .inr (14, [.ref q4655, .int p4657, .int 0, .int o4667, .int p4660])), (q4655, .inr (15, [.ref q4656, .int p4661])), (q4656, .inl (I .byte, 8192, .inl f4662))]) (gV_ok D I) (ct_300_Signs_isDigit l hl0 D I z4671 ) d_cX9_advance_87 ⟨w_3_24, w_1_4, w_3_26, by decide, rfl, (Nat.le_of_ble_eq_true rfl), (Nat.le_of_ble_eq_true rfl)⟩ w_3_25 [] [0, 1, 2] rfl rfl rfl rfl (by decide) (Nat.le_of_ble_eq_true rfl) (Nat.le_of_ble_eq_true rfl) (Nat.le_of_ble_eq_true rfl) (fun r w hp => ?_) (fun _ _ _ z => z.elim)
        rcases hp with ⟨rfl, rfl, r4699⟩ | ⟨rfl, rfl, r4700, r4701⟩ | ⟨rfl, rfl, r4702, r4703⟩
        · have r4674' : gB z4671 0 47 := ⟨by omega, by omega⟩
          change G _ _ _ _ _ _ _ (.int 0 :: _) _ _ _
          refine G_ws (ws' := [(q4654, .inr (14, [.ref q4655, .int p4657, .int 0, .int o4667, .int p4660])), (q4655, .inr (15, [.ref q4656, .int p4661])), (q4656, .inl (I .byte, 8192, .inl f4662))]) (cs' := 0) (sl' := 0) rfl rfl rfl ?_
          refine G_if_ne 110 d_cX9_advance_90 (by decide +kernel) (fun hc => absurd hc (by decide)) (fun _ => ?_)
          refine G_iload_n 1 d_cX9_advance_93 rfl ?_
          refine G_bipush 45 d_cX9_advance_94 (by decide +kernel) ?_
          refine G_icmp_ne 128 d_cX9_advance_96 (by decide +kernel) (fun hc4704 => ?_) (fun hc4704 => ?_)
          · have r4705 : z4671.toInt ≠ 45 := gj_neq hc4704 (show Int32.toInt 45 = 45 by decide)
            refine G_iload_n 1 d_cX9_advance_128 rfl ?_
            refine G_bipush 118 d_cX9_advance_129 (by decide +kernel) ?_
            refine G_icmp_ne 151 d_cX9_advance_131 (by decide +kernel) (fun _ => ?_) (fun hc => absurd (show False by have := gj_eq hc (show Int32.toInt 118 = 118 by decide); omega) not_false)
            refine G_iload_n 1 d_cX9_advance_151 rfl ?_
            refine G_bipush 98 d_cX9_advance_152 (by decide +kernel) ?_
            refine G_icmp_ne 174 d_cX9_advance_154 (by decide +kernel) (fun _ => ?_) (fun hc => absurd (show False by have := gj_eq hc (show Int32.toInt 98 = 98 by decide); omega) not_false)
            refine G_iload_n 1 d_cX9_advance_174 rfl ?_
            refine G_callS (As := [.int z4671]) (wr := [(q4654, .inr (14, [.ref q4655, .int p4657, .int 0, .int o4667, .int p4660])), (q4655, .inr (15, [.ref q4656, .int p4661])), (q4656, .inl (I .byte, 8192, .inl f4662))]) (gV_ok D I) (ct_308_Signs_isLetter l hl0 D I z4671 ) d_cX9_advance_175 ⟨w_3_45, w_1_4, w_3_47, by decide, rfl, (Nat.le_of_ble_eq_true rfl), (Nat.le_of_ble_eq_true rfl)⟩ w_3_46 [] [0, 1, 2] rfl rfl rfl rfl (by decide) (Nat.le_of_ble_eq_true rfl) (Nat.le_of_ble_eq_true rfl) (Nat.le_of_ble_eq_true rfl) (fun r w hp => ?_) (fun _ _ _ z => z.elim)
            rcases hp with ⟨rfl, rfl, r4706⟩ | ⟨rfl, rfl, r4707, r4708⟩ | ⟨rfl, rfl, r4709, r4710⟩
            · change G _ _ _ _ _ _ _ (.int 0 :: _) _ _ _
              refine G_ws (ws' := [(q4654, .inr (14, [.ref q4655, .int p4657, .int 0, .int o4667, .int p4660])), (q4655, .inr (15, [.ref q4656, .int p4661])), (q4656, .inl (I .byte, 8192, .inl f4662))]) (cs' := 0) (sl' := 0) rfl rfl rfl ?_
              refine G_if_eq 188 d_cX9_advance_178 (by decide +kernel) (fun _ => ?_) (fun hc => absurd hc (by decide))
              refine G_aload_n 3 d_cX9_advance_188 rfl ?_
              refine G_iload_n 1 d_cX9_advance_189 rfl ?_
              refine G_iload_n 0 d_cX9_advance_190 rfl ?_
              refine G_callV (As := [.int z4671, .int (-1)]) (wr := []) (gV_ok D I) (ct_4620_Signs_takeMark l hl0 D I q4654 q4655 q4656 z4671 (-1) p4657 0 o4667 p4660 p4661 f4662 (gB_w bp4661' (by decide) (by decide)) bf4662 (by have qa0 : Int32.toInt (-1) = (-1) := (by decide); have qa1 : Int32.toInt 0 = 0 := (by decide); have qa2 : Int32.toInt 1 = 1 := (by decide); omega)) d_cX9_advance_191 ⟨w_3_109, w_1_4, w_3_112, by decide, rfl, (Nat.le_of_ble_eq_true rfl), (Nat.le_of_ble_eq_true rfl)⟩ w_3_111 w_p_6 0 rfl rfl [0, 1, 2] [] rfl rfl rfl rfl (by decide) (Nat.le_of_ble_eq_true rfl) (Nat.le_of_ble_eq_true rfl) (Nat.le_of_ble_eq_true rfl) (fun r w hp => ?_) (fun _ _ _ z => z.elim)
              obtain ⟨o4711, o4712, o4713, rfl, rfl, bo4711, bo4712, bo4713, x4714⟩ := hp
              change G _ _ _ _ _ _ _ _ _ _ _
              refine G_ws (ws' := [(q4654, .inr (14, [.ref q4655, .int o4711, .int o4712, .int o4667, .int o4713])), (q4655, .inr (15, [.ref q4656, .int p4661])), (q4656, .inl (I .byte, 8192, .inl f4662))]) (cs' := 0) (sl' := 0) rfl rfl rfl ?_
              exact G_vret d_cX9_advance_194 rfl (Nat.le_of_ble_eq_true rfl) (Nat.le_of_ble_eq_true rfl) ⟨o4711, o4712, o4667, o4713, rfl, rfl, (gB_w bo4711 (by decide) (by decide)), (gB_w bo4712 (by decide) (by decide)), (gB_w bo4667'' (by decide) (by decide)), bo4713, (by have qa0 : Int32.toInt (-1) = (-1) := (by decide); have qa1 : Int32.toInt 1 = 1 := (by decide); omega)⟩
            · exact absurd (show False by omega) not_false
            · exact absurd (show False by omega) not_false
          · have r4715 : z4671.toInt = 45 := gj_eq hc4704 (show Int32.toInt 45 = 45 by decide)
            have r4674'' : gB z4671 45 45 := ⟨by omega, by omega⟩
            refine G_iload_n 0 d_cX9_advance_99 rfl ?_
            refine G_callS (As := [.int (-1)]) (wr := [(q4654, .inr (14, [.ref q4655, .int p4657, .int 0, .int o4667, .int p4660])), (q4655, .inr (15, [.ref q4656, .int p4661])), (q4656, .inl (I .byte, 8192, .inl f4662))]) (gV_ok D I) (ct_300_Signs_isDigit l hl0 D I (-1) ) d_cX9_advance_100 ⟨w_3_24, w_1_4, w_3_26, by decide, rfl, (Nat.le_of_ble_eq_true rfl), (Nat.le_of_ble_eq_true rfl)⟩ w_3_25 [] [0, 1, 2] rfl rfl rfl rfl (by decide) (Nat.le_of_ble_eq_true rfl) (Nat.le_of_ble_eq_true rfl) (Nat.le_of_ble_eq_true rfl) (fun r w hp => ?_) (fun _ _ _ z => z.elim)
            rcases hp with ⟨rfl, rfl, r4716⟩ | ⟨rfl, rfl, r4717, r4718⟩ | ⟨rfl, rfl, r4719, r4720⟩
            · rw [show Int32.toInt (-1) = (-1) from by decide] at r4716
              change G _ _ _ _ _ _ _ (.int 0 :: _) _ _ _
              refine G_ws (ws' := [(q4654, .inr (14, [.ref q4655, .int p4657, .int 0, .int o4667, .int p4660])), (q4655, .inr (15, [.ref q4656, .int p4661])), (q4656, .inl (I .byte, 8192, .inl f4662))]) (cs' := 0) (sl' := 0) rfl rfl rfl ?_
              refine G_if_eq 128 d_cX9_advance_103 (by decide +kernel) (fun _ => ?_) (fun hc => absurd hc (by decide))
              refine G_iload_n 1 d_cX9_advance_128 rfl ?_
              refine G_bipush 118 d_cX9_advance_129 (by decide +kernel) ?_
              refine G_icmp_ne 151 d_cX9_advance_131 (by decide +kernel) (fun _ => ?_) (fun hc => absurd (show False by have := gj_eq hc (show Int32.toInt 118 = 118 by decide); omega) not_false)
              refine G_iload_n 1 d_cX9_advance_151 rfl ?_
              refine G_bipush 98 d_cX9_advance_152 (by decide +kernel) ?_
              refine G_icmp_ne 174 d_cX9_advance_154 (by decide +kernel) (fun _ => ?_) (fun hc => absurd (show False by have := gj_eq hc (show Int32.toInt 98 = 98 by decide); omega) not_false)
              refine G_iload_n 1 d_cX9_advance_174 rfl ?_
              refine G_callS (As := [.int z4671]) (wr := [(q4654, .inr (14, [.ref q4655, .int p4657, .int 0, .int o4667, .int p4660])), (q4655, .inr (15, [.ref q4656, .int p4661])), (q4656, .inl (I .byte, 8192, .inl f4662))]) (gV_ok D I) (ct_308_Signs_isLetter l hl0 D I z4671 ) d_cX9_advance_175 ⟨w_3_45, w_1_4, w_3_47, by decide, rfl, (Nat.le_of_ble_eq_true rfl), (Nat.le_of_ble_eq_true rfl)⟩ w_3_46 [] [0, 1, 2] rfl rfl rfl rfl (by decide) (Nat.le_of_ble_eq_true rfl) (Nat.le_of_ble_eq_true rfl) (Nat.le_of_ble_eq_true rfl) (fun r w hp => ?_) (fun _ _ _ z => z.elim)
              rcases hp with ⟨rfl, rfl, r4721⟩ | ⟨rfl, rfl, r4722, r4723⟩ | ⟨rfl, rfl, r4724, r4725⟩
              · change G _ _ _ _ _ _ _ (.int 0 :: _) _ _ _
                refine G_ws (ws' := [(q4654, .inr (14, [.ref q4655, .int p4657, .int 0, .int o4667, .int p4660])), (q4655, .inr (15, [.ref q4656, .int p4661])), (q4656, .inl (I .byte, 8192, .inl f4662))]) (cs' := 0) (sl' := 0) rfl rfl rfl ?_
                refine G_if_eq 188 d_cX9_advance_178 (by decide +kernel) (fun _ => ?_) (fun hc => absurd hc (by decide))
                refine G_aload_n 3 d_cX9_advance_188 rfl ?_
                refine G_iload_n 1 d_cX9_advance_189 rfl ?_
                refine G_iload_n 0 d_cX9_advance_190 rfl ?_
                refine G_callV (As := [.int z4671, .int (-1)]) (wr := []) (gV_ok D I) (ct_4620_Signs_takeMark l hl0 D I q4654 q4655 q4656 z4671 (-1) p4657 0 o4667 p4660 p4661 f4662 (gB_w bp4661' (by decide) (by decide)) bf4662 (by have qa0 : Int32.toInt (-1) = (-1) := (by decide); have qa1 : Int32.toInt 0 = 0 := (by decide); have qa2 : Int32.toInt 1 = 1 := (by decide); omega)) d_cX9_advance_191 ⟨w_3_109, w_1_4, w_3_112, by decide, rfl, (Nat.le_of_ble_eq_true rfl), (Nat.le_of_ble_eq_true rfl)⟩ w_3_111 w_p_6 0 rfl rfl [0, 1, 2] [] rfl rfl rfl rfl (by decide) (Nat.le_of_ble_eq_true rfl) (Nat.le_of_ble_eq_true rfl) (Nat.le_of_ble_eq_true rfl) (fun r w hp => ?_) (fun _ _ _ z => z.elim)
                obtain ⟨o4726, o4727, o4728, rfl, rfl, bo4726, bo4727, bo4728, x4729⟩ := hp
                change G _ _ _ _ _ _ _ _ _ _ _
                refine G_ws (ws' := [(q4654, .inr (14, [.ref q4655, .int o4726, .int o4727, .int o4667, .int o4728])), (q4655, .inr (15, [.ref q4656, .int p4661])), (q4656, .inl (I .byte, 8192, .inl f4662))]) (cs' := 0) (sl' := 0) rfl rfl rfl ?_
                exact G_vret d_cX9_advance_194 rfl (Nat.le_of_ble_eq_true rfl) (Nat.le_of_ble_eq_true rfl) ⟨o4726, o4727, o4667, o4728, rfl, rfl, (gB_w bo4726 (by decide) (by decide)), (gB_w bo4727 (by decide) (by decide)), (gB_w bo4667'' (by decide) (by decide)), bo4728, (by have qa0 : Int32.toInt (-1) = (-1) := (by decide); have qa1 : Int32.toInt 1 = 1 := (by decide); omega)⟩
              · exact absurd (show False by omega) not_false
              · exact absurd (show False by omega) not_false
            · rw [show Int32.toInt (-1) = (-1) from by decide] at r4717
              exact absurd (show False by omega) not_false
            · rw [show Int32.toInt (-1) = (-1) from by decide] at r4719
              exact absurd (show False by omega) not_false
        · have r4674' : gB z4671 48 255 := ⟨by omega, by omega⟩
          have r4674'' : gB z4671 58 255 := ⟨by omega, by omega⟩
          change G _ _ _ _ _ _ _ (.int 0 :: _) _ _ _
          refine G_ws (ws' := [(q4654, .inr (14, [.ref q4655, .int p4657, .int 0, .int o4667, .int p4660])), (q4655, .inr (15, [.ref q4656, .int p4661])), (q4656, .inl (I .byte, 8192, .inl f4662))]) (cs' := 0) (sl' := 0) rfl rfl rfl ?_
          refine G_if_ne 110 d_cX9_advance_90 (by decide +kernel) (fun hc => absurd hc (by decide)) (fun _ => ?_)
          refine G_iload_n 1 d_cX9_advance_93 rfl ?_
          refine G_bipush 45 d_cX9_advance_94 (by decide +kernel) ?_
          refine G_icmp_ne 128 d_cX9_advance_96 (by decide +kernel) (fun _ => ?_) (fun hc => absurd (show False by have := gj_eq hc (show Int32.toInt 45 = 45 by decide); omega) not_false)
          refine G_iload_n 1 d_cX9_advance_128 rfl ?_
          refine G_bipush 118 d_cX9_advance_129 (by decide +kernel) ?_
          refine G_icmp_ne 151 d_cX9_advance_131 (by decide +kernel) (fun hc4730 => ?_) (fun hc4730 => ?_)
          · have r4731 : z4671.toInt ≠ 118 := gj_neq hc4730 (show Int32.toInt 118 = 118 by decide)
            refine G_iload_n 1 d_cX9_advance_151 rfl ?_
            refine G_bipush 98 d_cX9_advance_152 (by decide +kernel) ?_
            refine G_icmp_ne 174 d_cX9_advance_154 (by decide +kernel) (fun hc4732 => ?_) (fun hc4732 => ?_)
            · have r4733 : z4671.toInt ≠ 98 := gj_neq hc4732 (show Int32.toInt 98 = 98 by decide)
              refine G_iload_n 1 d_cX9_advance_174 rfl ?_
              refine G_callS (As := [.int z4671]) (wr := [(q4654, .inr (14, [.ref q4655, .int p4657, .int 0, .int o4667, .int p4660])), (q4655, .inr (15, [.ref q4656, .int p4661])), (q4656, .inl (I .byte, 8192, .inl f4662))]) (gV_ok D I) (ct_308_Signs_isLetter l hl0 D I z4671 ) d_cX9_advance_175 ⟨w_3_45, w_1_4, w_3_47, by decide, rfl, (Nat.le_of_ble_eq_true rfl), (Nat.le_of_ble_eq_true rfl)⟩ w_3_46 [] [0, 1, 2] rfl rfl rfl rfl (by decide) (Nat.le_of_ble_eq_true rfl) (Nat.le_of_ble_eq_true rfl) (Nat.le_of_ble_eq_true rfl) (fun r w hp => ?_) (fun _ _ _ z => z.elim)
              rcases hp with ⟨rfl, rfl, r4734⟩ | ⟨rfl, rfl, r4735, r4736⟩ | ⟨rfl, rfl, r4737, r4738⟩
              · have r4674''' : gB z4671 58 96 := ⟨by omega, by omega⟩
                change G _ _ _ _ _ _ _ (.int 0 :: _) _ _ _
                refine G_ws (ws' := [(q4654, .inr (14, [.ref q4655, .int p4657, .int 0, .int o4667, .int p4660])), (q4655, .inr (15, [.ref q4656, .int p4661])), (q4656, .inl (I .byte, 8192, .inl f4662))]) (cs' := 0) (sl' := 0) rfl rfl rfl ?_
                refine G_if_eq 188 d_cX9_advance_178 (by decide +kernel) (fun _ => ?_) (fun hc => absurd hc (by decide))
                refine G_aload_n 3 d_cX9_advance_188 rfl ?_
                refine G_iload_n 1 d_cX9_advance_189 rfl ?_
                refine G_iload_n 0 d_cX9_advance_190 rfl ?_
                refine G_callV (As := [.int z4671, .int (-1)]) (wr := []) (gV_ok D I) (ct_4620_Signs_takeMark l hl0 D I q4654 q4655 q4656 z4671 (-1) p4657 0 o4667 p4660 p4661 f4662 (gB_w bp4661' (by decide) (by decide)) bf4662 (by have qa0 : Int32.toInt (-1) = (-1) := (by decide); have qa1 : Int32.toInt 0 = 0 := (by decide); have qa2 : Int32.toInt 1 = 1 := (by decide); omega)) d_cX9_advance_191 ⟨w_3_109, w_1_4, w_3_112, by decide, rfl, (Nat.le_of_ble_eq_true rfl), (Nat.le_of_ble_eq_true rfl)⟩ w_3_111 w_p_6 0 rfl rfl [0, 1, 2] [] rfl rfl rfl rfl (by decide) (Nat.le_of_ble_eq_true rfl) (Nat.le_of_ble_eq_true rfl) (Nat.le_of_ble_eq_true rfl) (fun r w hp => ?_) (fun _ _ _ z => z.elim)
                obtain ⟨o4739, o4740, o4741, rfl, rfl, bo4739, bo4740, bo4741, x4742⟩ := hp
                change G _ _ _ _ _ _ _ _ _ _ _
                refine G_ws (ws' := [(q4654, .inr (14, [.ref q4655, .int o4739, .int o4740, .int o4667, .int o4741])), (q4655, .inr (15, [.ref q4656, .int p4661])), (q4656, .inl (I .byte, 8192, .inl f4662))]) (cs' := 0) (sl' := 0) rfl rfl rfl ?_
                exact G_vret d_cX9_advance_194 rfl (Nat.le_of_ble_eq_true rfl) (Nat.le_of_ble_eq_true rfl) ⟨o4739, o4740, o4667, o4741, rfl, rfl, (gB_w bo4739 (by decide) (by decide)), (gB_w bo4740 (by decide) (by decide)), (gB_w bo4667'' (by decide) (by decide)), bo4741, (by have qa0 : Int32.toInt (-1) = (-1) := (by decide); have qa1 : Int32.toInt 1 = 1 := (by decide); omega)⟩
              · have r4674''' : gB z4671 97 255 := ⟨by omega, by omega⟩
                have r4674'''' : gB z4671 123 255 := ⟨by omega, by omega⟩
                change G _ _ _ _ _ _ _ (.int 0 :: _) _ _ _
                refine G_ws (ws' := [(q4654, .inr (14, [.ref q4655, .int p4657, .int 0, .int o4667, .int p4660])), (q4655, .inr (15, [.ref q4656, .int p4661])), (q4656, .inl (I .byte, 8192, .inl f4662))]) (cs' := 0) (sl' := 0) rfl rfl rfl ?_
                refine G_if_eq 188 d_cX9_advance_178 (by decide +kernel) (fun _ => ?_) (fun hc => absurd hc (by decide))
                refine G_aload_n 3 d_cX9_advance_188 rfl ?_
                refine G_iload_n 1 d_cX9_advance_189 rfl ?_
                refine G_iload_n 0 d_cX9_advance_190 rfl ?_
                refine G_callV (As := [.int z4671, .int (-1)]) (wr := []) (gV_ok D I) (ct_4620_Signs_takeMark l hl0 D I q4654 q4655 q4656 z4671 (-1) p4657 0 o4667 p4660 p4661 f4662 (gB_w bp4661' (by decide) (by decide)) bf4662 (by have qa0 : Int32.toInt (-1) = (-1) := (by decide); have qa1 : Int32.toInt 0 = 0 := (by decide); have qa2 : Int32.toInt 1 = 1 := (by decide); omega)) d_cX9_advance_191 ⟨w_3_109, w_1_4, w_3_112, by decide, rfl, (Nat.le_of_ble_eq_true rfl), (Nat.le_of_ble_eq_true rfl)⟩ w_3_111 w_p_6 0 rfl rfl [0, 1, 2] [] rfl rfl rfl rfl (by decide) (Nat.le_of_ble_eq_true rfl) (Nat.le_of_ble_eq_true rfl) (Nat.le_of_ble_eq_true rfl) (fun r w hp => ?_) (fun _ _ _ z => z.elim)
                obtain ⟨o4743, o4744, o4745, rfl, rfl, bo4743, bo4744, bo4745, x4746⟩ := hp
                change G _ _ _ _ _ _ _ _ _ _ _
                refine G_ws (ws' := [(q4654, .inr (14, [.ref q4655, .int o4743, .int o4744, .int o4667, .int o4745])), (q4655, .inr (15, [.ref q4656, .int p4661])), (q4656, .inl (I .byte, 8192, .inl f4662))]) (cs' := 0) (sl' := 0) rfl rfl rfl ?_
                exact G_vret d_cX9_advance_194 rfl (Nat.le_of_ble_eq_true rfl) (Nat.le_of_ble_eq_true rfl) ⟨o4743, o4744, o4667, o4745, rfl, rfl, (gB_w bo4743 (by decide) (by decide)), (gB_w bo4744 (by decide) (by decide)), (gB_w bo4667'' (by decide) (by decide)), bo4745, (by have qa0 : Int32.toInt (-1) = (-1) := (by decide); have qa1 : Int32.toInt 1 = 1 := (by decide); omega)⟩
              · have r4674''' : gB z4671 97 255 := ⟨by omega, by omega⟩
                have r4674'''' : gB z4671 97 122 := ⟨by omega, by omega⟩
                change G _ _ _ _ _ _ _ (.int 1 :: _) _ _ _
                refine G_ws (ws' := [(q4654, .inr (14, [.ref q4655, .int p4657, .int 0, .int o4667, .int p4660])), (q4655, .inr (15, [.ref q4656, .int p4661])), (q4656, .inl (I .byte, 8192, .inl f4662))]) (cs' := 0) (sl' := 0) rfl rfl rfl ?_
                refine G_if_eq 188 d_cX9_advance_178 (by decide +kernel) (fun hc => absurd hc (by decide)) (fun _ => ?_)
                refine G_aload_n 3 d_cX9_advance_181 rfl ?_
                refine G_callV (As := []) (wr := []) (gV_ok D I) (ct_3801_Signs_takeWord l hl0 D I q4654 q4655 q4656 p4657 0 o4667 p4660 p4661 f4662 (gB_w bp4661' (by decide) (by decide)) bf4662 (by have qa0 : Int32.toInt (-1) = (-1) := (by decide); have qa1 : Int32.toInt 0 = 0 := (by decide); have qa2 : Int32.toInt 1 = 1 := (by decide); omega)) d_cX9_advance_182 ⟨w_3_48, w_1_4, w_3_51, by decide, rfl, (Nat.le_of_ble_eq_true rfl), (Nat.le_of_ble_eq_true rfl)⟩ w_3_50 w_p_4 0 rfl rfl [0, 1, 2] [] rfl rfl rfl rfl (by decide) (Nat.le_of_ble_eq_true rfl) (Nat.le_of_ble_eq_true rfl) (Nat.le_of_ble_eq_true rfl) (fun r w hp => ?_) (fun _ _ _ z => z.elim)
                obtain ⟨o4747, o4748, rfl, rfl, bo4747, bo4748, x4749⟩ := hp
                rw [show Int32.toInt 0 = 0 from by decide] at x4749
                change G _ _ _ _ _ _ _ _ _ _ _
                refine G_ws (ws' := [(q4654, .inr (14, [.ref q4655, .int o4747, .int 0, .int o4667, .int o4748])), (q4655, .inr (15, [.ref q4656, .int p4661])), (q4656, .inl (I .byte, 8192, .inl f4662))]) (cs' := 0) (sl' := 0) rfl rfl rfl ?_
                refine G_goto 194 d_cX9_advance_185 (by decide +kernel) ?_
                exact G_vret d_cX9_advance_194 rfl (Nat.le_of_ble_eq_true rfl) (Nat.le_of_ble_eq_true rfl) ⟨o4747, 0, o4667, o4748, rfl, rfl, bo4747, (gB_w (gBl (show Int32.toInt 0 = 0 by decide)) (by decide) (by decide)), (gB_w bo4667'' (by decide) (by decide)), bo4748, (by have qa0 : Int32.toInt (-1) = (-1) := (by decide); have qa1 : Int32.toInt 0 = 0 := (by decide); have qa2 : Int32.toInt 1 = 1 := (by decide); omega)⟩
            · have r4750 : z4671.toInt = 98 := gj_eq hc4732 (show Int32.toInt 98 = 98 by decide)
              have r4674''' : gB z4671 98 98 := ⟨by omega, by omega⟩
              refine G_iload_n 0 d_cX9_advance_157 rfl ?_
              refine G_callS (As := [.int (-1)]) (wr := [(q4654, .inr (14, [.ref q4655, .int p4657, .int 0, .int o4667, .int p4660])), (q4655, .inr (15, [.ref q4656, .int p4661])), (q4656, .inl (I .byte, 8192, .inl f4662))]) (gV_ok D I) (ct_300_Signs_isDigit l hl0 D I (-1) ) d_cX9_advance_158 ⟨w_3_24, w_1_4, w_3_26, by decide, rfl, (Nat.le_of_ble_eq_true rfl), (Nat.le_of_ble_eq_true rfl)⟩ w_3_25 [] [0, 1, 2] rfl rfl rfl rfl (by decide) (Nat.le_of_ble_eq_true rfl) (Nat.le_of_ble_eq_true rfl) (Nat.le_of_ble_eq_true rfl) (fun r w hp => ?_) (fun _ _ _ z => z.elim)
              rcases hp with ⟨rfl, rfl, r4751⟩ | ⟨rfl, rfl, r4752, r4753⟩ | ⟨rfl, rfl, r4754, r4755⟩
              · rw [show Int32.toInt (-1) = (-1) from by decide] at r4751
                change G _ _ _ _ _ _ _ (.int 0 :: _) _ _ _
                refine G_ws (ws' := [(q4654, .inr (14, [.ref q4655, .int p4657, .int 0, .int o4667, .int p4660])), (q4655, .inr (15, [.ref q4656, .int p4661])), (q4656, .inl (I .byte, 8192, .inl f4662))]) (cs' := 0) (sl' := 0) rfl rfl rfl ?_
                refine G_if_eq 174 d_cX9_advance_161 (by decide +kernel) (fun _ => ?_) (fun hc => absurd hc (by decide))
                refine G_iload_n 1 d_cX9_advance_174 rfl ?_
                refine G_callS (As := [.int z4671]) (wr := [(q4654, .inr (14, [.ref q4655, .int p4657, .int 0, .int o4667, .int p4660])), (q4655, .inr (15, [.ref q4656, .int p4661])), (q4656, .inl (I .byte, 8192, .inl f4662))]) (gV_ok D I) (ct_308_Signs_isLetter l hl0 D I z4671 ) d_cX9_advance_175 ⟨w_3_45, w_1_4, w_3_47, by decide, rfl, (Nat.le_of_ble_eq_true rfl), (Nat.le_of_ble_eq_true rfl)⟩ w_3_46 [] [0, 1, 2] rfl rfl rfl rfl (by decide) (Nat.le_of_ble_eq_true rfl) (Nat.le_of_ble_eq_true rfl) (Nat.le_of_ble_eq_true rfl) (fun r w hp => ?_) (fun _ _ _ z => z.elim)
                rcases hp with ⟨rfl, rfl, r4756⟩ | ⟨rfl, rfl, r4757, r4758⟩ | ⟨rfl, rfl, r4759, r4760⟩
                · exact absurd (show False by omega) not_false
                · exact absurd (show False by omega) not_false
                · change G _ _ _ _ _ _ _ (.int 1 :: _) _ _ _
                  refine G_ws (ws' := [(q4654, .inr (14, [.ref q4655, .int p4657, .int 0, .int o4667, .int p4660])), (q4655, .inr (15, [.ref q4656, .int p4661])), (q4656, .inl (I .byte, 8192, .inl f4662))]) (cs' := 0) (sl' := 0) rfl rfl rfl ?_
                  refine G_if_eq 188 d_cX9_advance_178 (by decide +kernel) (fun hc => absurd hc (by decide)) (fun _ => ?_)
                  refine G_aload_n 3 d_cX9_advance_181 rfl ?_
                  refine G_callV (As := []) (wr := []) (gV_ok D I) (ct_3801_Signs_takeWord l hl0 D I q4654 q4655 q4656 p4657 0 o4667 p4660 p4661 f4662 (gB_w bp4661' (by decide) (by decide)) bf4662 (by have qa0 : Int32.toInt (-1) = (-1) := (by decide); have qa1 : Int32.toInt 0 = 0 := (by decide); have qa2 : Int32.toInt 1 = 1 := (by decide); omega)) d_cX9_advance_182 ⟨w_3_48, w_1_4, w_3_51, by decide, rfl, (Nat.le_of_ble_eq_true rfl), (Nat.le_of_ble_eq_true rfl)⟩ w_3_50 w_p_4 0 rfl rfl [0, 1, 2] [] rfl rfl rfl rfl (by decide) (Nat.le_of_ble_eq_true rfl) (Nat.le_of_ble_eq_true rfl) (Nat.le_of_ble_eq_true rfl) (fun r w hp => ?_) (fun _ _ _ z => z.elim)
                  obtain ⟨o4761, o4762, rfl, rfl, bo4761, bo4762, x4763⟩ := hp
                  rw [show Int32.toInt 0 = 0 from by decide] at x4763
                  change G _ _ _ _ _ _ _ _ _ _ _
                  refine G_ws (ws' := [(q4654, .inr (14, [.ref q4655, .int o4761, .int 0, .int o4667, .int o4762])), (q4655, .inr (15, [.ref q4656, .int p4661])), (q4656, .inl (I .byte, 8192, .inl f4662))]) (cs' := 0) (sl' := 0) rfl rfl rfl ?_
                  refine G_goto 194 d_cX9_advance_185 (by decide +kernel) ?_
                  exact G_vret d_cX9_advance_194 rfl (Nat.le_of_ble_eq_true rfl) (Nat.le_of_ble_eq_true rfl) ⟨o4761, 0, o4667, o4762, rfl, rfl, bo4761, (gB_w (gBl (show Int32.toInt 0 = 0 by decide)) (by decide) (by decide)), (gB_w bo4667'' (by decide) (by decide)), bo4762, (by have qa0 : Int32.toInt (-1) = (-1) := (by decide); have qa1 : Int32.toInt 0 = 0 := (by decide); have qa2 : Int32.toInt 1 = 1 := (by decide); omega)⟩
              · rw [show Int32.toInt (-1) = (-1) from by decide] at r4752
                exact absurd (show False by omega) not_false
              · rw [show Int32.toInt (-1) = (-1) from by decide] at r4754
                exact absurd (show False by omega) not_false
          · have r4764 : z4671.toInt = 118 := gj_eq hc4730 (show Int32.toInt 118 = 118 by decide)
            have r4674''' : gB z4671 118 118 := ⟨by omega, by omega⟩
            refine G_iload_n 0 d_cX9_advance_134 rfl ?_
            refine G_callS (As := [.int (-1)]) (wr := [(q4654, .inr (14, [.ref q4655, .int p4657, .int 0, .int o4667, .int p4660])), (q4655, .inr (15, [.ref q4656, .int p4661])), (q4656, .inl (I .byte, 8192, .inl f4662))]) (gV_ok D I) (ct_300_Signs_isDigit l hl0 D I (-1) ) d_cX9_advance_135 ⟨w_3_24, w_1_4, w_3_26, by decide, rfl, (Nat.le_of_ble_eq_true rfl), (Nat.le_of_ble_eq_true rfl)⟩ w_3_25 [] [0, 1, 2] rfl rfl rfl rfl (by decide) (Nat.le_of_ble_eq_true rfl) (Nat.le_of_ble_eq_true rfl) (Nat.le_of_ble_eq_true rfl) (fun r w hp => ?_) (fun _ _ _ z => z.elim)
            rcases hp with ⟨rfl, rfl, r4765⟩ | ⟨rfl, rfl, r4766, r4767⟩ | ⟨rfl, rfl, r4768, r4769⟩
            · rw [show Int32.toInt (-1) = (-1) from by decide] at r4765
              change G _ _ _ _ _ _ _ (.int 0 :: _) _ _ _
              refine G_ws (ws' := [(q4654, .inr (14, [.ref q4655, .int p4657, .int 0, .int o4667, .int p4660])), (q4655, .inr (15, [.ref q4656, .int p4661])), (q4656, .inl (I .byte, 8192, .inl f4662))]) (cs' := 0) (sl' := 0) rfl rfl rfl ?_
              refine G_if_eq 151 d_cX9_advance_138 (by decide +kernel) (fun _ => ?_) (fun hc => absurd hc (by decide))
              refine G_iload_n 1 d_cX9_advance_151 rfl ?_
              refine G_bipush 98 d_cX9_advance_152 (by decide +kernel) ?_
              refine G_icmp_ne 174 d_cX9_advance_154 (by decide +kernel) (fun _ => ?_) (fun hc => absurd (show False by have := gj_eq hc (show Int32.toInt 98 = 98 by decide); omega) not_false)
              refine G_iload_n 1 d_cX9_advance_174 rfl ?_
              refine G_callS (As := [.int z4671]) (wr := [(q4654, .inr (14, [.ref q4655, .int p4657, .int 0, .int o4667, .int p4660])), (q4655, .inr (15, [.ref q4656, .int p4661])), (q4656, .inl (I .byte, 8192, .inl f4662))]) (gV_ok D I) (ct_308_Signs_isLetter l hl0 D I z4671 ) d_cX9_advance_175 ⟨w_3_45, w_1_4, w_3_47, by decide, rfl, (Nat.le_of_ble_eq_true rfl), (Nat.le_of_ble_eq_true rfl)⟩ w_3_46 [] [0, 1, 2] rfl rfl rfl rfl (by decide) (Nat.le_of_ble_eq_true rfl) (Nat.le_of_ble_eq_true rfl) (Nat.le_of_ble_eq_true rfl) (fun r w hp => ?_) (fun _ _ _ z => z.elim)
              rcases hp with ⟨rfl, rfl, r4770⟩ | ⟨rfl, rfl, r4771, r4772⟩ | ⟨rfl, rfl, r4773, r4774⟩
              · exact absurd (show False by omega) not_false
              · exact absurd (show False by omega) not_false
              · change G _ _ _ _ _ _ _ (.int 1 :: _) _ _ _
                refine G_ws (ws' := [(q4654, .inr (14, [.ref q4655, .int p4657, .int 0, .int o4667, .int p4660])), (q4655, .inr (15, [.ref q4656, .int p4661])), (q4656, .inl (I .byte, 8192, .inl f4662))]) (cs' := 0) (sl' := 0) rfl rfl rfl ?_
                refine G_if_eq 188 d_cX9_advance_178 (by decide +kernel) (fun hc => absurd hc (by decide)) (fun _ => ?_)
                refine G_aload_n 3 d_cX9_advance_181 rfl ?_
                refine G_callV (As := []) (wr := []) (gV_ok D I) (ct_3801_Signs_takeWord l hl0 D I q4654 q4655 q4656 p4657 0 o4667 p4660 p4661 f4662 (gB_w bp4661' (by decide) (by decide)) bf4662 (by have qa0 : Int32.toInt (-1) = (-1) := (by decide); have qa1 : Int32.toInt 0 = 0 := (by decide); have qa2 : Int32.toInt 1 = 1 := (by decide); omega)) d_cX9_advance_182 ⟨w_3_48, w_1_4, w_3_51, by decide, rfl, (Nat.le_of_ble_eq_true rfl), (Nat.le_of_ble_eq_true rfl)⟩ w_3_50 w_p_4 0 rfl rfl [0, 1, 2] [] rfl rfl rfl rfl (by decide) (Nat.le_of_ble_eq_true rfl) (Nat.le_of_ble_eq_true rfl) (Nat.le_of_ble_eq_true rfl) (fun r w hp => ?_) (fun _ _ _ z => z.elim)
                obtain ⟨o4775, o4776, rfl, rfl, bo4775, bo4776, x4777⟩ := hp
                rw [show Int32.toInt 0 = 0 from by decide] at x4777
                change G _ _ _ _ _ _ _ _ _ _ _
                refine G_ws (ws' := [(q4654, .inr (14, [.ref q4655, .int o4775, .int 0, .int o4667, .int o4776])), (q4655, .inr (15, [.ref q4656, .int p4661])), (q4656, .inl (I .byte, 8192, .inl f4662))]) (cs' := 0) (sl' := 0) rfl rfl rfl ?_
                refine G_goto 194 d_cX9_advance_185 (by decide +kernel) ?_
                exact G_vret d_cX9_advance_194 rfl (Nat.le_of_ble_eq_true rfl) (Nat.le_of_ble_eq_true rfl) ⟨o4775, 0, o4667, o4776, rfl, rfl, bo4775, (gB_w (gBl (show Int32.toInt 0 = 0 by decide)) (by decide) (by decide)), (gB_w bo4667'' (by decide) (by decide)), bo4776, (by have qa0 : Int32.toInt (-1) = (-1) := (by decide); have qa1 : Int32.toInt 0 = 0 := (by decide); have qa2 : Int32.toInt 1 = 1 := (by decide); omega)⟩
            · rw [show Int32.toInt (-1) = (-1) from by decide] at r4766
              exact absurd (show False by omega) not_false
            · rw [show Int32.toInt (-1) = (-1) from by decide] at r4768
              exact absurd (show False by omega) not_false
        · have r4674' : gB z4671 48 255 := ⟨by omega, by omega⟩
          have r4674'' : gB z4671 48 57 := ⟨by omega, by omega⟩
          change G _ _ _ _ _ _ _ (.int 1 :: _) _ _ _
          refine G_ws (ws' := [(q4654, .inr (14, [.ref q4655, .int p4657, .int 0, .int o4667, .int p4660])), (q4655, .inr (15, [.ref q4656, .int p4661])), (q4656, .inl (I .byte, 8192, .inl f4662))]) (cs' := 0) (sl' := 0) rfl rfl rfl ?_
          refine G_if_ne 110 d_cX9_advance_90 (by decide +kernel) (fun _ => ?_) (fun hc => absurd hc (by decide))
          refine G_aload_n 3 d_cX9_advance_110 rfl ?_
          refine G_iload_n 1 d_cX9_advance_111 rfl ?_
          refine G_bipush 45 d_cX9_advance_112 (by decide +kernel) ?_
          refine G_icmp_ne 121 d_cX9_advance_114 (by decide +kernel) (fun _ => ?_) (fun hc => absurd (show False by have := gj_eq hc (show Int32.toInt 45 = 45 by decide); omega) not_false)
          refine G_iconst 0 d_cX9_advance_121 (by decide +kernel) ?_
          refine G_callV (As := [.int 0]) (wr := []) (gV_ok D I) (ct_624_Signs_takeNumber l hl0 D I q4654 q4655 q4656 0 p4657 0 o4667 p4660 p4661 f4662 (gB_w (gBl (show Int32.toInt 0 = 0 by decide)) (by decide) (by decide)) (gB_w bp4661' (by decide) (by decide)) bf4662 (by have qa0 : Int32.toInt (-1) = (-1) := (by decide); have qa1 : Int32.toInt 0 = 0 := (by decide); have qa2 : Int32.toInt 1 = 1 := (by decide); omega)) d_cX9_advance_122 ⟨w_3_27, w_1_4, w_3_30, by decide, rfl, (Nat.le_of_ble_eq_true rfl), (Nat.le_of_ble_eq_true rfl)⟩ w_3_29 w_p_1 0 rfl rfl [0, 1, 2] [] rfl rfl rfl rfl (by decide) (Nat.le_of_ble_eq_true rfl) (Nat.le_of_ble_eq_true rfl) (Nat.le_of_ble_eq_true rfl) (fun r w hp => ?_) (fun _ _ _ z => z.elim)
          obtain ⟨o4778, o4779, o4780, rfl, rfl, bo4778, bo4779, bo4780, x4781⟩ := hp
          change G _ _ _ _ _ _ _ _ _ _ _
          refine G_ws (ws' := [(q4654, .inr (14, [.ref q4655, .int o4778, .int o4779, .int o4667, .int o4780])), (q4655, .inr (15, [.ref q4656, .int p4661])), (q4656, .inl (I .byte, 8192, .inl f4662))]) (cs' := 0) (sl' := 0) rfl rfl rfl ?_
          refine G_goto 194 d_cX9_advance_125 (by decide +kernel) ?_
          exact G_vret d_cX9_advance_194 rfl (Nat.le_of_ble_eq_true rfl) (Nat.le_of_ble_eq_true rfl) ⟨o4778, o4779, o4667, o4780, rfl, rfl, (gB_w bo4778 (by decide) (by decide)), bo4779, (gB_w bo4667'' (by decide) (by decide)), bo4780, (by have qa0 : Int32.toInt (-1) = (-1) := (by decide); have qa1 : Int32.toInt 1 = 1 := (by decide); omega)⟩
      · have bz4691' : gB z4691 1 8191 := ⟨by omega, by omega⟩
        have bp4661'' : gB p4661 2 8192 := ⟨by omega, by omega⟩
        change G _ _ _ _ _ _ _ (.int z4695 :: _) _ _ _
        refine G_ws (ws' := [(q4654, .inr (14, [.ref q4655, .int p4657, .int p4658, .int o4667, .int p4660])), (q4655, .inr (15, [.ref q4656, .int p4661])), (q4656, .inl (I .byte, 8192, .inl f4662))]) (cs' := 0) (sl' := 0) rfl rfl rfl ?_
        refine G_istore_n (L' := [(3, .int z4695), (2, .int z4671), (1, .int 1), (0, .ref q4654)]) d_cX9_advance_59 (Nat.le_of_ble_eq_true rfl) rfl ?_
        refine G_aload_n 3 d_cX9_advance_60 rfl ?_
        refine G_iconst 0 d_cX9_advance_61 (by decide +kernel) ?_
        refine G_putf (ws' := [(q4654, .inr (14, [.ref q4655, .int p4657, .int 0, .int o4667, .int p4660])), (q4655, .inr (15, [.ref q4656, .int p4661])), (q4656, .inl (I .byte, 8192, .inl f4662))]) 0 2 d_cX9_advance_62 rfl (gk_X9 D I) (Nat.le_of_ble_eq_true rfl) w_1_81 rfl rfl rfl (Nat.le_of_ble_eq_true rfl) rfl ?_
        refine G_iload_n 1 d_cX9_advance_65 rfl ?_
        refine G_iconst (-1) d_cX9_advance_66 (by decide +kernel) ?_
        refine G_icmp_ne 86 d_cX9_advance_67 (by decide +kernel) (fun _ => ?_) (fun hc => absurd (show False by have := gj_eq hc (show Int32.toInt (-1) = (-1) by decide); omega) not_false)
        refine G_iload_n 1 d_cX9_advance_86 rfl ?_
        refine G_callS (As := [.int z4671]) (wr := [(q4654, .inr (14, [.ref q4655, .int p4657, .int 0, .int o4667, .int p4660])), (q4655, .inr (15, [.ref q4656, .int p4661])), (q4656, .inl (I .byte, 8192, .inl f4662))]) (gV_ok D I) (ct_300_Signs_isDigit l hl0 D I z4671 ) d_cX9_advance_87 ⟨w_3_24, w_1_4, w_3_26, by decide, rfl, (Nat.le_of_ble_eq_true rfl), (Nat.le_of_ble_eq_true rfl)⟩ w_3_25 [] [0, 1, 2] rfl rfl rfl rfl (by decide) (Nat.le_of_ble_eq_true rfl) (Nat.le_of_ble_eq_true rfl) (Nat.le_of_ble_eq_true rfl) (fun r w hp => ?_) (fun _ _ _ z => z.elim)
        rcases hp with ⟨rfl, rfl, r4782⟩ | ⟨rfl, rfl, r4783, r4784⟩ | ⟨rfl, rfl, r4785, r4786⟩
        · have r4674' : gB z4671 0 47 := ⟨by omega, by omega⟩
          change G _ _ _ _ _ _ _ (.int 0 :: _) _ _ _
          refine G_ws (ws' := [(q4654, .inr (14, [.ref q4655, .int p4657, .int 0, .int o4667, .int p4660])), (q4655, .inr (15, [.ref q4656, .int p4661])), (q4656, .inl (I .byte, 8192, .inl f4662))]) (cs' := 0) (sl' := 0) rfl rfl rfl ?_
          refine G_if_ne 110 d_cX9_advance_90 (by decide +kernel) (fun hc => absurd hc (by decide)) (fun _ => ?_)
          refine G_iload_n 1 d_cX9_advance_93 rfl ?_
          refine G_bipush 45 d_cX9_advance_94 (by decide +kernel) ?_
          refine G_icmp_ne 128 d_cX9_advance_96 (by decide +kernel) (fun hc4787 => ?_) (fun hc4787 => ?_)
          · have r4788 : z4671.toInt ≠ 45 := gj_neq hc4787 (show Int32.toInt 45 = 45 by decide)
            refine G_iload_n 1 d_cX9_advance_128 rfl ?_
            refine G_bipush 118 d_cX9_advance_129 (by decide +kernel) ?_
            refine G_icmp_ne 151 d_cX9_advance_131 (by decide +kernel) (fun _ => ?_) (fun hc => absurd (show False by have := gj_eq hc (show Int32.toInt 118 = 118 by decide); omega) not_false)
            refine G_iload_n 1 d_cX9_advance_151 rfl ?_
            refine G_bipush 98 d_cX9_advance_152 (by decide +kernel) ?_
            refine G_icmp_ne 174 d_cX9_advance_154 (by decide +kernel) (fun _ => ?_) (fun hc => absurd (show False by have := gj_eq hc (show Int32.toInt 98 = 98 by decide); omega) not_false)
            refine G_iload_n 1 d_cX9_advance_174 rfl ?_
            refine G_callS (As := [.int z4671]) (wr := [(q4654, .inr (14, [.ref q4655, .int p4657, .int 0, .int o4667, .int p4660])), (q4655, .inr (15, [.ref q4656, .int p4661])), (q4656, .inl (I .byte, 8192, .inl f4662))]) (gV_ok D I) (ct_308_Signs_isLetter l hl0 D I z4671 ) d_cX9_advance_175 ⟨w_3_45, w_1_4, w_3_47, by decide, rfl, (Nat.le_of_ble_eq_true rfl), (Nat.le_of_ble_eq_true rfl)⟩ w_3_46 [] [0, 1, 2] rfl rfl rfl rfl (by decide) (Nat.le_of_ble_eq_true rfl) (Nat.le_of_ble_eq_true rfl) (Nat.le_of_ble_eq_true rfl) (fun r w hp => ?_) (fun _ _ _ z => z.elim)
            rcases hp with ⟨rfl, rfl, r4789⟩ | ⟨rfl, rfl, r4790, r4791⟩ | ⟨rfl, rfl, r4792, r4793⟩
            · change G _ _ _ _ _ _ _ (.int 0 :: _) _ _ _
              refine G_ws (ws' := [(q4654, .inr (14, [.ref q4655, .int p4657, .int 0, .int o4667, .int p4660])), (q4655, .inr (15, [.ref q4656, .int p4661])), (q4656, .inl (I .byte, 8192, .inl f4662))]) (cs' := 0) (sl' := 0) rfl rfl rfl ?_
              refine G_if_eq 188 d_cX9_advance_178 (by decide +kernel) (fun _ => ?_) (fun hc => absurd hc (by decide))
              refine G_aload_n 3 d_cX9_advance_188 rfl ?_
              refine G_iload_n 1 d_cX9_advance_189 rfl ?_
              refine G_iload_n 0 d_cX9_advance_190 rfl ?_
              refine G_callV (As := [.int z4671, .int z4695]) (wr := []) (gV_ok D I) (ct_4620_Signs_takeMark l hl0 D I q4654 q4655 q4656 z4671 z4695 p4657 0 o4667 p4660 p4661 f4662 (gB_w bp4661'' (by decide) (by decide)) bf4662 (by have qa0 : Int32.toInt 0 = 0 := (by decide); have qa1 : Int32.toInt 1 = 1 := (by decide); omega)) d_cX9_advance_191 ⟨w_3_109, w_1_4, w_3_112, by decide, rfl, (Nat.le_of_ble_eq_true rfl), (Nat.le_of_ble_eq_true rfl)⟩ w_3_111 w_p_6 0 rfl rfl [0, 1, 2] [] rfl rfl rfl rfl (by decide) (Nat.le_of_ble_eq_true rfl) (Nat.le_of_ble_eq_true rfl) (Nat.le_of_ble_eq_true rfl) (fun r w hp => ?_) (fun _ _ _ z => z.elim)
              obtain ⟨o4794, o4795, o4796, rfl, rfl, bo4794, bo4795, bo4796, x4797⟩ := hp
              change G _ _ _ _ _ _ _ _ _ _ _
              refine G_ws (ws' := [(q4654, .inr (14, [.ref q4655, .int o4794, .int o4795, .int o4667, .int o4796])), (q4655, .inr (15, [.ref q4656, .int p4661])), (q4656, .inl (I .byte, 8192, .inl f4662))]) (cs' := 0) (sl' := 0) rfl rfl rfl ?_
              exact G_vret d_cX9_advance_194 rfl (Nat.le_of_ble_eq_true rfl) (Nat.le_of_ble_eq_true rfl) ⟨o4794, o4795, o4667, o4796, rfl, rfl, (gB_w bo4794 (by decide) (by decide)), (gB_w bo4795 (by decide) (by decide)), (gB_w bo4667'' (by decide) (by decide)), bo4796, (by have qa0 : Int32.toInt 1 = 1 := (by decide); omega)⟩
            · exact absurd (show False by omega) not_false
            · exact absurd (show False by omega) not_false
          · have r4798 : z4671.toInt = 45 := gj_eq hc4787 (show Int32.toInt 45 = 45 by decide)
            have r4674'' : gB z4671 45 45 := ⟨by omega, by omega⟩
            refine G_iload_n 0 d_cX9_advance_99 rfl ?_
            refine G_callS (As := [.int z4695]) (wr := [(q4654, .inr (14, [.ref q4655, .int p4657, .int 0, .int o4667, .int p4660])), (q4655, .inr (15, [.ref q4656, .int p4661])), (q4656, .inl (I .byte, 8192, .inl f4662))]) (gV_ok D I) (ct_300_Signs_isDigit l hl0 D I z4695 ) d_cX9_advance_100 ⟨w_3_24, w_1_4, w_3_26, by decide, rfl, (Nat.le_of_ble_eq_true rfl), (Nat.le_of_ble_eq_true rfl)⟩ w_3_25 [] [0, 1, 2] rfl rfl rfl rfl (by decide) (Nat.le_of_ble_eq_true rfl) (Nat.le_of_ble_eq_true rfl) (Nat.le_of_ble_eq_true rfl) (fun r w hp => ?_) (fun _ _ _ z => z.elim)
            rcases hp with ⟨rfl, rfl, r4799⟩ | ⟨rfl, rfl, r4800, r4801⟩ | ⟨rfl, rfl, r4802, r4803⟩
            · have r4698' : gB z4695 0 47 := ⟨by omega, by omega⟩
              change G _ _ _ _ _ _ _ (.int 0 :: _) _ _ _
              refine G_ws (ws' := [(q4654, .inr (14, [.ref q4655, .int p4657, .int 0, .int o4667, .int p4660])), (q4655, .inr (15, [.ref q4656, .int p4661])), (q4656, .inl (I .byte, 8192, .inl f4662))]) (cs' := 0) (sl' := 0) rfl rfl rfl ?_
              refine G_if_eq 128 d_cX9_advance_103 (by decide +kernel) (fun _ => ?_) (fun hc => absurd hc (by decide))
              refine G_iload_n 1 d_cX9_advance_128 rfl ?_
              refine G_bipush 118 d_cX9_advance_129 (by decide +kernel) ?_
              refine G_icmp_ne 151 d_cX9_advance_131 (by decide +kernel) (fun _ => ?_) (fun hc => absurd (show False by have := gj_eq hc (show Int32.toInt 118 = 118 by decide); omega) not_false)
              refine G_iload_n 1 d_cX9_advance_151 rfl ?_
              refine G_bipush 98 d_cX9_advance_152 (by decide +kernel) ?_
              refine G_icmp_ne 174 d_cX9_advance_154 (by decide +kernel) (fun _ => ?_) (fun hc => absurd (show False by have := gj_eq hc (show Int32.toInt 98 = 98 by decide); omega) not_false)
              refine G_iload_n 1 d_cX9_advance_174 rfl ?_
              refine G_callS (As := [.int z4671]) (wr := [(q4654, .inr (14, [.ref q4655, .int p4657, .int 0, .int o4667, .int p4660])), (q4655, .inr (15, [.ref q4656, .int p4661])), (q4656, .inl (I .byte, 8192, .inl f4662))]) (gV_ok D I) (ct_308_Signs_isLetter l hl0 D I z4671 ) d_cX9_advance_175 ⟨w_3_45, w_1_4, w_3_47, by decide, rfl, (Nat.le_of_ble_eq_true rfl), (Nat.le_of_ble_eq_true rfl)⟩ w_3_46 [] [0, 1, 2] rfl rfl rfl rfl (by decide) (Nat.le_of_ble_eq_true rfl) (Nat.le_of_ble_eq_true rfl) (Nat.le_of_ble_eq_true rfl) (fun r w hp => ?_) (fun _ _ _ z => z.elim)
              rcases hp with ⟨rfl, rfl, r4804⟩ | ⟨rfl, rfl, r4805, r4806⟩ | ⟨rfl, rfl, r4807, r4808⟩
              · change G _ _ _ _ _ _ _ (.int 0 :: _) _ _ _
                refine G_ws (ws' := [(q4654, .inr (14, [.ref q4655, .int p4657, .int 0, .int o4667, .int p4660])), (q4655, .inr (15, [.ref q4656, .int p4661])), (q4656, .inl (I .byte, 8192, .inl f4662))]) (cs' := 0) (sl' := 0) rfl rfl rfl ?_
                refine G_if_eq 188 d_cX9_advance_178 (by decide +kernel) (fun _ => ?_) (fun hc => absurd hc (by decide))
                refine G_aload_n 3 d_cX9_advance_188 rfl ?_
                refine G_iload_n 1 d_cX9_advance_189 rfl ?_
                refine G_iload_n 0 d_cX9_advance_190 rfl ?_
                refine G_callV (As := [.int z4671, .int z4695]) (wr := []) (gV_ok D I) (ct_4620_Signs_takeMark l hl0 D I q4654 q4655 q4656 z4671 z4695 p4657 0 o4667 p4660 p4661 f4662 (gB_w bp4661'' (by decide) (by decide)) bf4662 (by have qa0 : Int32.toInt 0 = 0 := (by decide); have qa1 : Int32.toInt 1 = 1 := (by decide); omega)) d_cX9_advance_191 ⟨w_3_109, w_1_4, w_3_112, by decide, rfl, (Nat.le_of_ble_eq_true rfl), (Nat.le_of_ble_eq_true rfl)⟩ w_3_111 w_p_6 0 rfl rfl [0, 1, 2] [] rfl rfl rfl rfl (by decide) (Nat.le_of_ble_eq_true rfl) (Nat.le_of_ble_eq_true rfl) (Nat.le_of_ble_eq_true rfl) (fun r w hp => ?_) (fun _ _ _ z => z.elim)
                obtain ⟨o4809, o4810, o4811, rfl, rfl, bo4809, bo4810, bo4811, x4812⟩ := hp
                change G _ _ _ _ _ _ _ _ _ _ _
                refine G_ws (ws' := [(q4654, .inr (14, [.ref q4655, .int o4809, .int o4810, .int o4667, .int o4811])), (q4655, .inr (15, [.ref q4656, .int p4661])), (q4656, .inl (I .byte, 8192, .inl f4662))]) (cs' := 0) (sl' := 0) rfl rfl rfl ?_
                exact G_vret d_cX9_advance_194 rfl (Nat.le_of_ble_eq_true rfl) (Nat.le_of_ble_eq_true rfl) ⟨o4809, o4810, o4667, o4811, rfl, rfl, (gB_w bo4809 (by decide) (by decide)), (gB_w bo4810 (by decide) (by decide)), (gB_w bo4667'' (by decide) (by decide)), bo4811, (by have qa0 : Int32.toInt 1 = 1 := (by decide); omega)⟩
              · exact absurd (show False by omega) not_false
              · exact absurd (show False by omega) not_false
            · have r4698' : gB z4695 48 255 := ⟨by omega, by omega⟩
              have r4698'' : gB z4695 58 255 := ⟨by omega, by omega⟩
              change G _ _ _ _ _ _ _ (.int 0 :: _) _ _ _
              refine G_ws (ws' := [(q4654, .inr (14, [.ref q4655, .int p4657, .int 0, .int o4667, .int p4660])), (q4655, .inr (15, [.ref q4656, .int p4661])), (q4656, .inl (I .byte, 8192, .inl f4662))]) (cs' := 0) (sl' := 0) rfl rfl rfl ?_
              refine G_if_eq 128 d_cX9_advance_103 (by decide +kernel) (fun _ => ?_) (fun hc => absurd hc (by decide))
              refine G_iload_n 1 d_cX9_advance_128 rfl ?_
              refine G_bipush 118 d_cX9_advance_129 (by decide +kernel) ?_
              refine G_icmp_ne 151 d_cX9_advance_131 (by decide +kernel) (fun _ => ?_) (fun hc => absurd (show False by have := gj_eq hc (show Int32.toInt 118 = 118 by decide); omega) not_false)
              refine G_iload_n 1 d_cX9_advance_151 rfl ?_
              refine G_bipush 98 d_cX9_advance_152 (by decide +kernel) ?_
              refine G_icmp_ne 174 d_cX9_advance_154 (by decide +kernel) (fun _ => ?_) (fun hc => absurd (show False by have := gj_eq hc (show Int32.toInt 98 = 98 by decide); omega) not_false)
              refine G_iload_n 1 d_cX9_advance_174 rfl ?_
              refine G_callS (As := [.int z4671]) (wr := [(q4654, .inr (14, [.ref q4655, .int p4657, .int 0, .int o4667, .int p4660])), (q4655, .inr (15, [.ref q4656, .int p4661])), (q4656, .inl (I .byte, 8192, .inl f4662))]) (gV_ok D I) (ct_308_Signs_isLetter l hl0 D I z4671 ) d_cX9_advance_175 ⟨w_3_45, w_1_4, w_3_47, by decide, rfl, (Nat.le_of_ble_eq_true rfl), (Nat.le_of_ble_eq_true rfl)⟩ w_3_46 [] [0, 1, 2] rfl rfl rfl rfl (by decide) (Nat.le_of_ble_eq_true rfl) (Nat.le_of_ble_eq_true rfl) (Nat.le_of_ble_eq_true rfl) (fun r w hp => ?_) (fun _ _ _ z => z.elim)
              rcases hp with ⟨rfl, rfl, r4813⟩ | ⟨rfl, rfl, r4814, r4815⟩ | ⟨rfl, rfl, r4816, r4817⟩
              · change G _ _ _ _ _ _ _ (.int 0 :: _) _ _ _
                refine G_ws (ws' := [(q4654, .inr (14, [.ref q4655, .int p4657, .int 0, .int o4667, .int p4660])), (q4655, .inr (15, [.ref q4656, .int p4661])), (q4656, .inl (I .byte, 8192, .inl f4662))]) (cs' := 0) (sl' := 0) rfl rfl rfl ?_
                refine G_if_eq 188 d_cX9_advance_178 (by decide +kernel) (fun _ => ?_) (fun hc => absurd hc (by decide))
                refine G_aload_n 3 d_cX9_advance_188 rfl ?_
                refine G_iload_n 1 d_cX9_advance_189 rfl ?_
                refine G_iload_n 0 d_cX9_advance_190 rfl ?_
                refine G_callV (As := [.int z4671, .int z4695]) (wr := []) (gV_ok D I) (ct_4620_Signs_takeMark l hl0 D I q4654 q4655 q4656 z4671 z4695 p4657 0 o4667 p4660 p4661 f4662 (gB_w bp4661'' (by decide) (by decide)) bf4662 (by have qa0 : Int32.toInt 0 = 0 := (by decide); have qa1 : Int32.toInt 1 = 1 := (by decide); omega)) d_cX9_advance_191 ⟨w_3_109, w_1_4, w_3_112, by decide, rfl, (Nat.le_of_ble_eq_true rfl), (Nat.le_of_ble_eq_true rfl)⟩ w_3_111 w_p_6 0 rfl rfl [0, 1, 2] [] rfl rfl rfl rfl (by decide) (Nat.le_of_ble_eq_true rfl) (Nat.le_of_ble_eq_true rfl) (Nat.le_of_ble_eq_true rfl) (fun r w hp => ?_) (fun _ _ _ z => z.elim)
                obtain ⟨o4818, o4819, o4820, rfl, rfl, bo4818, bo4819, bo4820, x4821⟩ := hp
                change G _ _ _ _ _ _ _ _ _ _ _
                refine G_ws (ws' := [(q4654, .inr (14, [.ref q4655, .int o4818, .int o4819, .int o4667, .int o4820])), (q4655, .inr (15, [.ref q4656, .int p4661])), (q4656, .inl (I .byte, 8192, .inl f4662))]) (cs' := 0) (sl' := 0) rfl rfl rfl ?_
                exact G_vret d_cX9_advance_194 rfl (Nat.le_of_ble_eq_true rfl) (Nat.le_of_ble_eq_true rfl) ⟨o4818, o4819, o4667, o4820, rfl, rfl, (gB_w bo4818 (by decide) (by decide)), (gB_w bo4819 (by decide) (by decide)), (gB_w bo4667'' (by decide) (by decide)), bo4820, (by have qa0 : Int32.toInt 1 = 1 := (by decide); omega)⟩
              · exact absurd (show False by omega) not_false
              · exact absurd (show False by omega) not_false
            · have r4698' : gB z4695 48 255 := ⟨by omega, by omega⟩
              have r4698'' : gB z4695 48 57 := ⟨by omega, by omega⟩
              change G _ _ _ _ _ _ _ (.int 1 :: _) _ _ _
              refine G_ws (ws' := [(q4654, .inr (14, [.ref q4655, .int p4657, .int 0, .int o4667, .int p4660])), (q4655, .inr (15, [.ref q4656, .int p4661])), (q4656, .inl (I .byte, 8192, .inl f4662))]) (cs' := 0) (sl' := 0) rfl rfl rfl ?_
              refine G_if_eq 128 d_cX9_advance_103 (by decide +kernel) (fun hc => absurd hc (by decide)) (fun _ => ?_)
              refine G_iload_n 2 d_cX9_advance_106 rfl ?_
              refine G_if_ne 128 d_cX9_advance_107 (by decide +kernel) (fun _ => ?_) (fun hc => absurd hc (by decide))
              refine G_iload_n 1 d_cX9_advance_128 rfl ?_
              refine G_bipush 118 d_cX9_advance_129 (by decide +kernel) ?_
              refine G_icmp_ne 151 d_cX9_advance_131 (by decide +kernel) (fun _ => ?_) (fun hc => absurd (show False by have := gj_eq hc (show Int32.toInt 118 = 118 by decide); omega) not_false)
              refine G_iload_n 1 d_cX9_advance_151 rfl ?_
              refine G_bipush 98 d_cX9_advance_152 (by decide +kernel) ?_
              refine G_icmp_ne 174 d_cX9_advance_154 (by decide +kernel) (fun _ => ?_) (fun hc => absurd (show False by have := gj_eq hc (show Int32.toInt 98 = 98 by decide); omega) not_false)
              refine G_iload_n 1 d_cX9_advance_174 rfl ?_
              refine G_callS (As := [.int z4671]) (wr := [(q4654, .inr (14, [.ref q4655, .int p4657, .int 0, .int o4667, .int p4660])), (q4655, .inr (15, [.ref q4656, .int p4661])), (q4656, .inl (I .byte, 8192, .inl f4662))]) (gV_ok D I) (ct_308_Signs_isLetter l hl0 D I z4671 ) d_cX9_advance_175 ⟨w_3_45, w_1_4, w_3_47, by decide, rfl, (Nat.le_of_ble_eq_true rfl), (Nat.le_of_ble_eq_true rfl)⟩ w_3_46 [] [0, 1, 2] rfl rfl rfl rfl (by decide) (Nat.le_of_ble_eq_true rfl) (Nat.le_of_ble_eq_true rfl) (Nat.le_of_ble_eq_true rfl) (fun r w hp => ?_) (fun _ _ _ z => z.elim)
              rcases hp with ⟨rfl, rfl, r4822⟩ | ⟨rfl, rfl, r4823, r4824⟩ | ⟨rfl, rfl, r4825, r4826⟩
              · change G _ _ _ _ _ _ _ (.int 0 :: _) _ _ _
                refine G_ws (ws' := [(q4654, .inr (14, [.ref q4655, .int p4657, .int 0, .int o4667, .int p4660])), (q4655, .inr (15, [.ref q4656, .int p4661])), (q4656, .inl (I .byte, 8192, .inl f4662))]) (cs' := 0) (sl' := 0) rfl rfl rfl ?_
                refine G_if_eq 188 d_cX9_advance_178 (by decide +kernel) (fun _ => ?_) (fun hc => absurd hc (by decide))
                refine G_aload_n 3 d_cX9_advance_188 rfl ?_
                refine G_iload_n 1 d_cX9_advance_189 rfl ?_
                refine G_iload_n 0 d_cX9_advance_190 rfl ?_
                refine G_callV (As := [.int z4671, .int z4695]) (wr := []) (gV_ok D I) (ct_4620_Signs_takeMark l hl0 D I q4654 q4655 q4656 z4671 z4695 p4657 0 o4667 p4660 p4661 f4662 (gB_w bp4661'' (by decide) (by decide)) bf4662 (by have qa0 : Int32.toInt 0 = 0 := (by decide); have qa1 : Int32.toInt 1 = 1 := (by decide); omega)) d_cX9_advance_191 ⟨w_3_109, w_1_4, w_3_112, by decide, rfl, (Nat.le_of_ble_eq_true rfl), (Nat.le_of_ble_eq_true rfl)⟩ w_3_111 w_p_6 0 rfl rfl [0, 1, 2] [] rfl rfl rfl rfl (by decide) (Nat.le_of_ble_eq_true rfl) (Nat.le_of_ble_eq_true rfl) (Nat.le_of_ble_eq_true rfl) (fun r w hp => ?_) (fun _ _ _ z => z.elim)
                obtain ⟨o4827, o4828, o4829, rfl, rfl, bo4827, bo4828, bo4829, x4830⟩ := hp
                change G _ _ _ _ _ _ _ _ _ _ _
                refine G_ws (ws' := [(q4654, .inr (14, [.ref q4655, .int o4827, .int o4828, .int o4667, .int o4829])), (q4655, .inr (15, [.ref q4656, .int p4661])), (q4656, .inl (I .byte, 8192, .inl f4662))]) (cs' := 0) (sl' := 0) rfl rfl rfl ?_
                exact G_vret d_cX9_advance_194 rfl (Nat.le_of_ble_eq_true rfl) (Nat.le_of_ble_eq_true rfl) ⟨o4827, o4828, o4667, o4829, rfl, rfl, (gB_w bo4827 (by decide) (by decide)), (gB_w bo4828 (by decide) (by decide)), (gB_w bo4667'' (by decide) (by decide)), bo4829, (by have qa0 : Int32.toInt 1 = 1 := (by decide); omega)⟩
              · exact absurd (show False by omega) not_false
              · exact absurd (show False by omega) not_false
        · have r4674' : gB z4671 48 255 := ⟨by omega, by omega⟩
          have r4674'' : gB z4671 58 255 := ⟨by omega, by omega⟩
          change G _ _ _ _ _ _ _ (.int 0 :: _) _ _ _
          refine G_ws (ws' := [(q4654, .inr (14, [.ref q4655, .int p4657, .int 0, .int o4667, .int p4660])), (q4655, .inr (15, [.ref q4656, .int p4661])), (q4656, .inl (I .byte, 8192, .inl f4662))]) (cs' := 0) (sl' := 0) rfl rfl rfl ?_
          refine G_if_ne 110 d_cX9_advance_90 (by decide +kernel) (fun hc => absurd hc (by decide)) (fun _ => ?_)
          refine G_iload_n 1 d_cX9_advance_93 rfl ?_
          refine G_bipush 45 d_cX9_advance_94 (by decide +kernel) ?_
          refine G_icmp_ne 128 d_cX9_advance_96 (by decide +kernel) (fun _ => ?_) (fun hc => absurd (show False by have := gj_eq hc (show Int32.toInt 45 = 45 by decide); omega) not_false)
          refine G_iload_n 1 d_cX9_advance_128 rfl ?_
          refine G_bipush 118 d_cX9_advance_129 (by decide +kernel) ?_
          refine G_icmp_ne 151 d_cX9_advance_131 (by decide +kernel) (fun hc4831 => ?_) (fun hc4831 => ?_)
          · have r4832 : z4671.toInt ≠ 118 := gj_neq hc4831 (show Int32.toInt 118 = 118 by decide)
            refine G_iload_n 1 d_cX9_advance_151 rfl ?_
            refine G_bipush 98 d_cX9_advance_152 (by decide +kernel) ?_
            refine G_icmp_ne 174 d_cX9_advance_154 (by decide +kernel) (fun hc4833 => ?_) (fun hc4833 => ?_)
            · have r4834 : z4671.toInt ≠ 98 := gj_neq hc4833 (show Int32.toInt 98 = 98 by decide)
              refine G_iload_n 1 d_cX9_advance_174 rfl ?_
              refine G_callS (As := [.int z4671]) (wr := [(q4654, .inr (14, [.ref q4655, .int p4657, .int 0, .int o4667, .int p4660])), (q4655, .inr (15, [.ref q4656, .int p4661])), (q4656, .inl (I .byte, 8192, .inl f4662))]) (gV_ok D I) (ct_308_Signs_isLetter l hl0 D I z4671 ) d_cX9_advance_175 ⟨w_3_45, w_1_4, w_3_47, by decide, rfl, (Nat.le_of_ble_eq_true rfl), (Nat.le_of_ble_eq_true rfl)⟩ w_3_46 [] [0, 1, 2] rfl rfl rfl rfl (by decide) (Nat.le_of_ble_eq_true rfl) (Nat.le_of_ble_eq_true rfl) (Nat.le_of_ble_eq_true rfl) (fun r w hp => ?_) (fun _ _ _ z => z.elim)
              rcases hp with ⟨rfl, rfl, r4835⟩ | ⟨rfl, rfl, r4836, r4837⟩ | ⟨rfl, rfl, r4838, r4839⟩
              · have r4674''' : gB z4671 58 96 := ⟨by omega, by omega⟩
                change G _ _ _ _ _ _ _ (.int 0 :: _) _ _ _
                refine G_ws (ws' := [(q4654, .inr (14, [.ref q4655, .int p4657, .int 0, .int o4667, .int p4660])), (q4655, .inr (15, [.ref q4656, .int p4661])), (q4656, .inl (I .byte, 8192, .inl f4662))]) (cs' := 0) (sl' := 0) rfl rfl rfl ?_
                refine G_if_eq 188 d_cX9_advance_178 (by decide +kernel) (fun _ => ?_) (fun hc => absurd hc (by decide))
                refine G_aload_n 3 d_cX9_advance_188 rfl ?_
                refine G_iload_n 1 d_cX9_advance_189 rfl ?_
                refine G_iload_n 0 d_cX9_advance_190 rfl ?_
                refine G_callV (As := [.int z4671, .int z4695]) (wr := []) (gV_ok D I) (ct_4620_Signs_takeMark l hl0 D I q4654 q4655 q4656 z4671 z4695 p4657 0 o4667 p4660 p4661 f4662 (gB_w bp4661'' (by decide) (by decide)) bf4662 (by have qa0 : Int32.toInt 0 = 0 := (by decide); have qa1 : Int32.toInt 1 = 1 := (by decide); omega)) d_cX9_advance_191 ⟨w_3_109, w_1_4, w_3_112, by decide, rfl, (Nat.le_of_ble_eq_true rfl), (Nat.le_of_ble_eq_true rfl)⟩ w_3_111 w_p_6 0 rfl rfl [0, 1, 2] [] rfl rfl rfl rfl (by decide) (Nat.le_of_ble_eq_true rfl) (Nat.le_of_ble_eq_true rfl) (Nat.le_of_ble_eq_true rfl) (fun r w hp => ?_) (fun _ _ _ z => z.elim)
                obtain ⟨o4840, o4841, o4842, rfl, rfl, bo4840, bo4841, bo4842, x4843⟩ := hp
                change G _ _ _ _ _ _ _ _ _ _ _
                refine G_ws (ws' := [(q4654, .inr (14, [.ref q4655, .int o4840, .int o4841, .int o4667, .int o4842])), (q4655, .inr (15, [.ref q4656, .int p4661])), (q4656, .inl (I .byte, 8192, .inl f4662))]) (cs' := 0) (sl' := 0) rfl rfl rfl ?_
                exact G_vret d_cX9_advance_194 rfl (Nat.le_of_ble_eq_true rfl) (Nat.le_of_ble_eq_true rfl) ⟨o4840, o4841, o4667, o4842, rfl, rfl, (gB_w bo4840 (by decide) (by decide)), (gB_w bo4841 (by decide) (by decide)), (gB_w bo4667'' (by decide) (by decide)), bo4842, (by have qa0 : Int32.toInt 1 = 1 := (by decide); omega)⟩
              · have r4674''' : gB z4671 97 255 := ⟨by omega, by omega⟩
                have r4674'''' : gB z4671 123 255 := ⟨by omega, by omega⟩
                change G _ _ _ _ _ _ _ (.int 0 :: _) _ _ _
                refine G_ws (ws' := [(q4654, .inr (14, [.ref q4655, .int p4657, .int 0, .int o4667, .int p4660])), (q4655, .inr (15, [.ref q4656, .int p4661])), (q4656, .inl (I .byte, 8192, .inl f4662))]) (cs' := 0) (sl' := 0) rfl rfl rfl ?_
                refine G_if_eq 188 d_cX9_advance_178 (by decide +kernel) (fun _ => ?_) (fun hc => absurd hc (by decide))
                refine G_aload_n 3 d_cX9_advance_188 rfl ?_
                refine G_iload_n 1 d_cX9_advance_189 rfl ?_
                refine G_iload_n 0 d_cX9_advance_190 rfl ?_
                refine G_callV (As := [.int z4671, .int z4695]) (wr := []) (gV_ok D I) (ct_4620_Signs_takeMark l hl0 D I q4654 q4655 q4656 z4671 z4695 p4657 0 o4667 p4660 p4661 f4662 (gB_w bp4661'' (by decide) (by decide)) bf4662 (by have qa0 : Int32.toInt 0 = 0 := (by decide); have qa1 : Int32.toInt 1 = 1 := (by decide); omega)) d_cX9_advance_191 ⟨w_3_109, w_1_4, w_3_112, by decide, rfl, (Nat.le_of_ble_eq_true rfl), (Nat.le_of_ble_eq_true rfl)⟩ w_3_111 w_p_6 0 rfl rfl [0, 1, 2] [] rfl rfl rfl rfl (by decide) (Nat.le_of_ble_eq_true rfl) (Nat.le_of_ble_eq_true rfl) (Nat.le_of_ble_eq_true rfl) (fun r w hp => ?_) (fun _ _ _ z => z.elim)
                obtain ⟨o4844, o4845, o4846, rfl, rfl, bo4844, bo4845, bo4846, x4847⟩ := hp
                change G _ _ _ _ _ _ _ _ _ _ _
                refine G_ws (ws' := [(q4654, .inr (14, [.ref q4655, .int o4844, .int o4845, .int o4667, .int o4846])), (q4655, .inr (15, [.ref q4656, .int p4661])), (q4656, .inl (I .byte, 8192, .inl f4662))]) (cs' := 0) (sl' := 0) rfl rfl rfl ?_
                exact G_vret d_cX9_advance_194 rfl (Nat.le_of_ble_eq_true rfl) (Nat.le_of_ble_eq_true rfl) ⟨o4844, o4845, o4667, o4846, rfl, rfl, (gB_w bo4844 (by decide) (by decide)), (gB_w bo4845 (by decide) (by decide)), (gB_w bo4667'' (by decide) (by decide)), bo4846, (by have qa0 : Int32.toInt 1 = 1 := (by decide); omega)⟩
              · have r4674''' : gB z4671 97 255 := ⟨by omega, by omega⟩
                have r4674'''' : gB z4671 97 122 := ⟨by omega, by omega⟩
                change G _ _ _ _ _ _ _ (.int 1 :: _) _ _ _
                refine G_ws (ws' := [(q4654, .inr (14, [.ref q4655, .int p4657, .int 0, .int o4667, .int p4660])), (q4655, .inr (15, [.ref q4656, .int p4661])), (q4656, .inl (I .byte, 8192, .inl f4662))]) (cs' := 0) (sl' := 0) rfl rfl rfl ?_
                refine G_if_eq 188 d_cX9_advance_178 (by decide +kernel) (fun hc => absurd hc (by decide)) (fun _ => ?_)
                refine G_aload_n 3 d_cX9_advance_181 rfl ?_
                refine G_callV (As := []) (wr := []) (gV_ok D I) (ct_3801_Signs_takeWord l hl0 D I q4654 q4655 q4656 p4657 0 o4667 p4660 p4661 f4662 (gB_w bp4661'' (by decide) (by decide)) bf4662 (by have qa0 : Int32.toInt 0 = 0 := (by decide); have qa1 : Int32.toInt 1 = 1 := (by decide); omega)) d_cX9_advance_182 ⟨w_3_48, w_1_4, w_3_51, by decide, rfl, (Nat.le_of_ble_eq_true rfl), (Nat.le_of_ble_eq_true rfl)⟩ w_3_50 w_p_4 0 rfl rfl [0, 1, 2] [] rfl rfl rfl rfl (by decide) (Nat.le_of_ble_eq_true rfl) (Nat.le_of_ble_eq_true rfl) (Nat.le_of_ble_eq_true rfl) (fun r w hp => ?_) (fun _ _ _ z => z.elim)
                obtain ⟨o4848, o4849, rfl, rfl, bo4848, bo4849, x4850⟩ := hp
                rw [show Int32.toInt 0 = 0 from by decide] at x4850
                change G _ _ _ _ _ _ _ _ _ _ _
                refine G_ws (ws' := [(q4654, .inr (14, [.ref q4655, .int o4848, .int 0, .int o4667, .int o4849])), (q4655, .inr (15, [.ref q4656, .int p4661])), (q4656, .inl (I .byte, 8192, .inl f4662))]) (cs' := 0) (sl' := 0) rfl rfl rfl ?_
                refine G_goto 194 d_cX9_advance_185 (by decide +kernel) ?_
                exact G_vret d_cX9_advance_194 rfl (Nat.le_of_ble_eq_true rfl) (Nat.le_of_ble_eq_true rfl) ⟨o4848, 0, o4667, o4849, rfl, rfl, bo4848, (gB_w (gBl (show Int32.toInt 0 = 0 by decide)) (by decide) (by decide)), (gB_w bo4667'' (by decide) (by decide)), bo4849, (by have qa0 : Int32.toInt 0 = 0 := (by decide); have qa1 : Int32.toInt 1 = 1 := (by decide); omega)⟩
            · have r4851 : z4671.toInt = 98 := gj_eq hc4833 (show Int32.toInt 98 = 98 by decide)
              have r4674''' : gB z4671 98 98 := ⟨by omega, by omega⟩
              refine G_iload_n 0 d_cX9_advance_157 rfl ?_
              refine G_callS (As := [.int z4695]) (wr := [(q4654, .inr (14, [.ref q4655, .int p4657, .int 0, .int o4667, .int p4660])), (q4655, .inr (15, [.ref q4656, .int p4661])), (q4656, .inl (I .byte, 8192, .inl f4662))]) (gV_ok D I) (ct_300_Signs_isDigit l hl0 D I z4695 ) d_cX9_advance_158 ⟨w_3_24, w_1_4, w_3_26, by decide, rfl, (Nat.le_of_ble_eq_true rfl), (Nat.le_of_ble_eq_true rfl)⟩ w_3_25 [] [0, 1, 2] rfl rfl rfl rfl (by decide) (Nat.le_of_ble_eq_true rfl) (Nat.le_of_ble_eq_true rfl) (Nat.le_of_ble_eq_true rfl) (fun r w hp => ?_) (fun _ _ _ z => z.elim)
              rcases hp with ⟨rfl, rfl, r4852⟩ | ⟨rfl, rfl, r4853, r4854⟩ | ⟨rfl, rfl, r4855, r4856⟩
              · have r4698' : gB z4695 0 47 := ⟨by omega, by omega⟩
                change G _ _ _ _ _ _ _ (.int 0 :: _) _ _ _
                refine G_ws (ws' := [(q4654, .inr (14, [.ref q4655, .int p4657, .int 0, .int o4667, .int p4660])), (q4655, .inr (15, [.ref q4656, .int p4661])), (q4656, .inl (I .byte, 8192, .inl f4662))]) (cs' := 0) (sl' := 0) rfl rfl rfl ?_
                refine G_if_eq 174 d_cX9_advance_161 (by decide +kernel) (fun _ => ?_) (fun hc => absurd hc (by decide))
                refine G_iload_n 1 d_cX9_advance_174 rfl ?_
                refine G_callS (As := [.int z4671]) (wr := [(q4654, .inr (14, [.ref q4655, .int p4657, .int 0, .int o4667, .int p4660])), (q4655, .inr (15, [.ref q4656, .int p4661])), (q4656, .inl (I .byte, 8192, .inl f4662))]) (gV_ok D I) (ct_308_Signs_isLetter l hl0 D I z4671 ) d_cX9_advance_175 ⟨w_3_45, w_1_4, w_3_47, by decide, rfl, (Nat.le_of_ble_eq_true rfl), (Nat.le_of_ble_eq_true rfl)⟩ w_3_46 [] [0, 1, 2] rfl rfl rfl rfl (by decide) (Nat.le_of_ble_eq_true rfl) (Nat.le_of_ble_eq_true rfl) (Nat.le_of_ble_eq_true rfl) (fun r w hp => ?_) (fun _ _ _ z => z.elim)
                rcases hp with ⟨rfl, rfl, r4857⟩ | ⟨rfl, rfl, r4858, r4859⟩ | ⟨rfl, rfl, r4860, r4861⟩
                · exact absurd (show False by omega) not_false
                · exact absurd (show False by omega) not_false
                · change G _ _ _ _ _ _ _ (.int 1 :: _) _ _ _
                  refine G_ws (ws' := [(q4654, .inr (14, [.ref q4655, .int p4657, .int 0, .int o4667, .int p4660])), (q4655, .inr (15, [.ref q4656, .int p4661])), (q4656, .inl (I .byte, 8192, .inl f4662))]) (cs' := 0) (sl' := 0) rfl rfl rfl ?_
                  refine G_if_eq 188 d_cX9_advance_178 (by decide +kernel) (fun hc => absurd hc (by decide)) (fun _ => ?_)
                  refine G_aload_n 3 d_cX9_advance_181 rfl ?_
                  refine G_callV (As := []) (wr := []) (gV_ok D I) (ct_3801_Signs_takeWord l hl0 D I q4654 q4655 q4656 p4657 0 o4667 p4660 p4661 f4662 (gB_w bp4661'' (by decide) (by decide)) bf4662 (by have qa0 : Int32.toInt 0 = 0 := (by decide); have qa1 : Int32.toInt 1 = 1 := (by decide); omega)) d_cX9_advance_182 ⟨w_3_48, w_1_4, w_3_51, by decide, rfl, (Nat.le_of_ble_eq_true rfl), (Nat.le_of_ble_eq_true rfl)⟩ w_3_50 w_p_4 0 rfl rfl [0, 1, 2] [] rfl rfl rfl rfl (by decide) (Nat.le_of_ble_eq_true rfl) (Nat.le_of_ble_eq_true rfl) (Nat.le_of_ble_eq_true rfl) (fun r w hp => ?_) (fun _ _ _ z => z.elim)
                  obtain ⟨o4862, o4863, rfl, rfl, bo4862, bo4863, x4864⟩ := hp
                  rw [show Int32.toInt 0 = 0 from by decide] at x4864
                  change G _ _ _ _ _ _ _ _ _ _ _
                  refine G_ws (ws' := [(q4654, .inr (14, [.ref q4655, .int o4862, .int 0, .int o4667, .int o4863])), (q4655, .inr (15, [.ref q4656, .int p4661])), (q4656, .inl (I .byte, 8192, .inl f4662))]) (cs' := 0) (sl' := 0) rfl rfl rfl ?_
                  refine G_goto 194 d_cX9_advance_185 (by decide +kernel) ?_
                  exact G_vret d_cX9_advance_194 rfl (Nat.le_of_ble_eq_true rfl) (Nat.le_of_ble_eq_true rfl) ⟨o4862, 0, o4667, o4863, rfl, rfl, bo4862, (gB_w (gBl (show Int32.toInt 0 = 0 by decide)) (by decide) (by decide)), (gB_w bo4667'' (by decide) (by decide)), bo4863, (by have qa0 : Int32.toInt 0 = 0 := (by decide); have qa1 : Int32.toInt 1 = 1 := (by decide); omega)⟩
              · have r4698' : gB z4695 48 255 := ⟨by omega, by omega⟩
                have r4698'' : gB z4695 58 255 := ⟨by omega, by omega⟩
                change G _ _ _ _ _ _ _ (.int 0 :: _) _ _ _
                refine G_ws (ws' := [(q4654, .inr (14, [.ref q4655, .int p4657, .int 0, .int o4667, .int p4660])), (q4655, .inr (15, [.ref q4656, .int p4661])), (q4656, .inl (I .byte, 8192, .inl f4662))]) (cs' := 0) (sl' := 0) rfl rfl rfl ?_
                refine G_if_eq 174 d_cX9_advance_161 (by decide +kernel) (fun _ => ?_) (fun hc => absurd hc (by decide))
                refine G_iload_n 1 d_cX9_advance_174 rfl ?_
                refine G_callS (As := [.int z4671]) (wr := [(q4654, .inr (14, [.ref q4655, .int p4657, .int 0, .int o4667, .int p4660])), (q4655, .inr (15, [.ref q4656, .int p4661])), (q4656, .inl (I .byte, 8192, .inl f4662))]) (gV_ok D I) (ct_308_Signs_isLetter l hl0 D I z4671 ) d_cX9_advance_175 ⟨w_3_45, w_1_4, w_3_47, by decide, rfl, (Nat.le_of_ble_eq_true rfl), (Nat.le_of_ble_eq_true rfl)⟩ w_3_46 [] [0, 1, 2] rfl rfl rfl rfl (by decide) (Nat.le_of_ble_eq_true rfl) (Nat.le_of_ble_eq_true rfl) (Nat.le_of_ble_eq_true rfl) (fun r w hp => ?_) (fun _ _ _ z => z.elim)
                rcases hp with ⟨rfl, rfl, r4865⟩ | ⟨rfl, rfl, r4866, r4867⟩ | ⟨rfl, rfl, r4868, r4869⟩
                · exact absurd (show False by omega) not_false
                · exact absurd (show False by omega) not_false
                · change G _ _ _ _ _ _ _ (.int 1 :: _) _ _ _
                  refine G_ws (ws' := [(q4654, .inr (14, [.ref q4655, .int p4657, .int 0, .int o4667, .int p4660])), (q4655, .inr (15, [.ref q4656, .int p4661])), (q4656, .inl (I .byte, 8192, .inl f4662))]) (cs' := 0) (sl' := 0) rfl rfl rfl ?_
                  refine G_if_eq 188 d_cX9_advance_178 (by decide +kernel) (fun hc => absurd hc (by decide)) (fun _ => ?_)
                  refine G_aload_n 3 d_cX9_advance_181 rfl ?_
                  refine G_callV (As := []) (wr := []) (gV_ok D I) (ct_3801_Signs_takeWord l hl0 D I q4654 q4655 q4656 p4657 0 o4667 p4660 p4661 f4662 (gB_w bp4661'' (by decide) (by decide)) bf4662 (by have qa0 : Int32.toInt 0 = 0 := (by decide); have qa1 : Int32.toInt 1 = 1 := (by decide); omega)) d_cX9_advance_182 ⟨w_3_48, w_1_4, w_3_51, by decide, rfl, (Nat.le_of_ble_eq_true rfl), (Nat.le_of_ble_eq_true rfl)⟩ w_3_50 w_p_4 0 rfl rfl [0, 1, 2] [] rfl rfl rfl rfl (by decide) (Nat.le_of_ble_eq_true rfl) (Nat.le_of_ble_eq_true rfl) (Nat.le_of_ble_eq_true rfl) (fun r w hp => ?_) (fun _ _ _ z => z.elim)
                  obtain ⟨o4870, o4871, rfl, rfl, bo4870, bo4871, x4872⟩ := hp
                  rw [show Int32.toInt 0 = 0 from by decide] at x4872
                  change G _ _ _ _ _ _ _ _ _ _ _
                  refine G_ws (ws' := [(q4654, .inr (14, [.ref q4655, .int o4870, .int 0, .int o4667, .int o4871])), (q4655, .inr (15, [.ref q4656, .int p4661])), (q4656, .inl (I .byte, 8192, .inl f4662))]) (cs' := 0) (sl' := 0) rfl rfl rfl ?_
                  refine G_goto 194 d_cX9_advance_185 (by decide +kernel) ?_
                  exact G_vret d_cX9_advance_194 rfl (Nat.le_of_ble_eq_true rfl) (Nat.le_of_ble_eq_true rfl) ⟨o4870, 0, o4667, o4871, rfl, rfl, bo4870, (gB_w (gBl (show Int32.toInt 0 = 0 by decide)) (by decide) (by decide)), (gB_w bo4667'' (by decide) (by decide)), bo4871, (by have qa0 : Int32.toInt 0 = 0 := (by decide); have qa1 : Int32.toInt 1 = 1 := (by decide); omega)⟩
              · have r4698' : gB z4695 48 255 := ⟨by omega, by omega⟩
                have r4698'' : gB z4695 48 57 := ⟨by omega, by omega⟩
                change G _ _ _ _ _ _ _ (.int 1 :: _) _ _ _
                refine G_ws (ws' := [(q4654, .inr (14, [.ref q4655, .int p4657, .int 0, .int o4667, .int p4660])), (q4655, .inr (15, [.ref q4656, .int p4661])), (q4656, .inl (I .byte, 8192, .inl f4662))]) (cs' := 0) (sl' := 0) rfl rfl rfl ?_
                refine G_if_eq 174 d_cX9_advance_161 (by decide +kernel) (fun hc => absurd hc (by decide)) (fun _ => ?_)
                refine G_aload_n 3 d_cX9_advance_164 rfl ?_
                refine G_iconst 3 d_cX9_advance_165 (by decide +kernel) ?_
                refine G_bipush 40 d_cX9_advance_166 (by decide +kernel) ?_
                refine G_callV (As := [.int 3, .int 40]) (wr := []) (gV_ok D I) (ct_661_Signs_takeNamed l hl0 D I q4654 q4655 q4656 3 40 p4657 0 o4667 p4660 p4661 f4662 (gB_w (gBl (show Int32.toInt 3 = 3 by decide)) (by decide) (by decide)) (gB_w bp4661'' (by decide) (by decide)) bf4662 (by have qa0 : Int32.toInt 0 = 0 := (by decide); have qa1 : Int32.toInt 1 = 1 := (by decide); have qa2 : Int32.toInt 3 = 3 := (by decide); have qa3 : Int32.toInt 40 = 40 := (by decide); omega)) d_cX9_advance_168 ⟨w_3_41, w_1_4, w_3_44, by decide, rfl, (Nat.le_of_ble_eq_true rfl), (Nat.le_of_ble_eq_true rfl)⟩ w_3_43 w_p_3 0 rfl rfl [0, 1, 2] [] rfl rfl rfl rfl (by decide) (Nat.le_of_ble_eq_true rfl) (Nat.le_of_ble_eq_true rfl) (Nat.le_of_ble_eq_true rfl) (fun r w hp => ?_) (fun _ _ _ z => z.elim)
                obtain ⟨o4873, o4874, o4875, rfl, rfl, bo4873, bo4874, bo4875, x4876⟩ := hp
                change G _ _ _ _ _ _ _ _ _ _ _
                refine G_ws (ws' := [(q4654, .inr (14, [.ref q4655, .int o4873, .int o4874, .int o4667, .int o4875])), (q4655, .inr (15, [.ref q4656, .int p4661])), (q4656, .inl (I .byte, 8192, .inl f4662))]) (cs' := 0) (sl' := 0) rfl rfl rfl ?_
                refine G_goto 194 d_cX9_advance_171 (by decide +kernel) ?_
                exact G_vret d_cX9_advance_194 rfl (Nat.le_of_ble_eq_true rfl) (Nat.le_of_ble_eq_true rfl) ⟨o4873, o4874, o4667, o4875, rfl, rfl, (gB_w bo4873 (by decide) (by decide)), bo4874, (gB_w bo4667'' (by decide) (by decide)), bo4875, (by have qa0 : Int32.toInt 1 = 1 := (by decide); omega)⟩
          · have r4877 : z4671.toInt = 118 := gj_eq hc4831 (show Int32.toInt 118 = 118 by decide)
            have r4674''' : gB z4671 118 118 := ⟨by omega, by omega⟩
            refine G_iload_n 0 d_cX9_advance_134 rfl ?_
            refine G_callS (As := [.int z4695]) (wr := [(q4654, .inr (14, [.ref q4655, .int p4657, .int 0, .int o4667, .int p4660])), (q4655, .inr (15, [.ref q4656, .int p4661])), (q4656, .inl (I .byte, 8192, .inl f4662))]) (gV_ok D I) (ct_300_Signs_isDigit l hl0 D I z4695 ) d_cX9_advance_135 ⟨w_3_24, w_1_4, w_3_26, by decide, rfl, (Nat.le_of_ble_eq_true rfl), (Nat.le_of_ble_eq_true rfl)⟩ w_3_25 [] [0, 1, 2] rfl rfl rfl rfl (by decide) (Nat.le_of_ble_eq_true rfl) (Nat.le_of_ble_eq_true rfl) (Nat.le_of_ble_eq_true rfl) (fun r w hp => ?_) (fun _ _ _ z => z.elim)
            rcases hp with ⟨rfl, rfl, r4878⟩ | ⟨rfl, rfl, r4879, r4880⟩ | ⟨rfl, rfl, r4881, r4882⟩
            · have r4698' : gB z4695 0 47 := ⟨by omega, by omega⟩
              change G _ _ _ _ _ _ _ (.int 0 :: _) _ _ _
              refine G_ws (ws' := [(q4654, .inr (14, [.ref q4655, .int p4657, .int 0, .int o4667, .int p4660])), (q4655, .inr (15, [.ref q4656, .int p4661])), (q4656, .inl (I .byte, 8192, .inl f4662))]) (cs' := 0) (sl' := 0) rfl rfl rfl ?_
              refine G_if_eq 151 d_cX9_advance_138 (by decide +kernel) (fun _ => ?_) (fun hc => absurd hc (by decide))
              refine G_iload_n 1 d_cX9_advance_151 rfl ?_
              refine G_bipush 98 d_cX9_advance_152 (by decide +kernel) ?_
              refine G_icmp_ne 174 d_cX9_advance_154 (by decide +kernel) (fun _ => ?_) (fun hc => absurd (show False by have := gj_eq hc (show Int32.toInt 98 = 98 by decide); omega) not_false)
              refine G_iload_n 1 d_cX9_advance_174 rfl ?_
              refine G_callS (As := [.int z4671]) (wr := [(q4654, .inr (14, [.ref q4655, .int p4657, .int 0, .int o4667, .int p4660])), (q4655, .inr (15, [.ref q4656, .int p4661])), (q4656, .inl (I .byte, 8192, .inl f4662))]) (gV_ok D I) (ct_308_Signs_isLetter l hl0 D I z4671 ) d_cX9_advance_175 ⟨w_3_45, w_1_4, w_3_47, by decide, rfl, (Nat.le_of_ble_eq_true rfl), (Nat.le_of_ble_eq_true rfl)⟩ w_3_46 [] [0, 1, 2] rfl rfl rfl rfl (by decide) (Nat.le_of_ble_eq_true rfl) (Nat.le_of_ble_eq_true rfl) (Nat.le_of_ble_eq_true rfl) (fun r w hp => ?_) (fun _ _ _ z => z.elim)
              rcases hp with ⟨rfl, rfl, r4883⟩ | ⟨rfl, rfl, r4884, r4885⟩ | ⟨rfl, rfl, r4886, r4887⟩
              · exact absurd (show False by omega) not_false
              · exact absurd (show False by omega) not_false
              · change G _ _ _ _ _ _ _ (.int 1 :: _) _ _ _
                refine G_ws (ws' := [(q4654, .inr (14, [.ref q4655, .int p4657, .int 0, .int o4667, .int p4660])), (q4655, .inr (15, [.ref q4656, .int p4661])), (q4656, .inl (I .byte, 8192, .inl f4662))]) (cs' := 0) (sl' := 0) rfl rfl rfl ?_
                refine G_if_eq 188 d_cX9_advance_178 (by decide +kernel) (fun hc => absurd hc (by decide)) (fun _ => ?_)
                refine G_aload_n 3 d_cX9_advance_181 rfl ?_
                refine G_callV (As := []) (wr := []) (gV_ok D I) (ct_3801_Signs_takeWord l hl0 D I q4654 q4655 q4656 p4657 0 o4667 p4660 p4661 f4662 (gB_w bp4661'' (by decide) (by decide)) bf4662 (by have qa0 : Int32.toInt 0 = 0 := (by decide); have qa1 : Int32.toInt 1 = 1 := (by decide); omega)) d_cX9_advance_182 ⟨w_3_48, w_1_4, w_3_51, by decide, rfl, (Nat.le_of_ble_eq_true rfl), (Nat.le_of_ble_eq_true rfl)⟩ w_3_50 w_p_4 0 rfl rfl [0, 1, 2] [] rfl rfl rfl rfl (by decide) (Nat.le_of_ble_eq_true rfl) (Nat.le_of_ble_eq_true rfl) (Nat.le_of_ble_eq_true rfl) (fun r w hp => ?_) (fun _ _ _ z => z.elim)
                obtain ⟨o4888, o4889, rfl, rfl, bo4888, bo4889, x4890⟩ := hp
                rw [show Int32.toInt 0 = 0 from by decide] at x4890
                change G _ _ _ _ _ _ _ _ _ _ _
                refine G_ws (ws' := [(q4654, .inr (14, [.ref q4655, .int o4888, .int 0, .int o4667, .int o4889])), (q4655, .inr (15, [.ref q4656, .int p4661])), (q4656, .inl (I .byte, 8192, .inl f4662))]) (cs' := 0) (sl' := 0) rfl rfl rfl ?_
                refine G_goto 194 d_cX9_advance_185 (by decide +kernel) ?_
                exact G_vret d_cX9_advance_194 rfl (Nat.le_of_ble_eq_true rfl) (Nat.le_of_ble_eq_true rfl) ⟨o4888, 0, o4667, o4889, rfl, rfl, bo4888, (gB_w (gBl (show Int32.toInt 0 = 0 by decide)) (by decide) (by decide)), (gB_w bo4667'' (by decide) (by decide)), bo4889, (by have qa0 : Int32.toInt 0 = 0 := (by decide); have qa1 : Int32.toInt 1 = 1 := (by decide); omega)⟩
            · have r4698' : gB z4695 48 255 := ⟨by omega, by omega⟩
              have r4698'' : gB z4695 58 255 := ⟨by omega, by omega⟩
              change G _ _ _ _ _ _ _ (.int 0 :: _) _ _ _
              refine G_ws (ws' := [(q4654, .inr (14, [.ref q4655, .int p4657, .int 0, .int o4667, .int p4660])), (q4655, .inr (15, [.ref q4656, .int p4661])), (q4656, .inl (I .byte, 8192, .inl f4662))]) (cs' := 0) (sl' := 0) rfl rfl rfl ?_
              refine G_if_eq 151 d_cX9_advance_138 (by decide +kernel) (fun _ => ?_) (fun hc => absurd hc (by decide))
              refine G_iload_n 1 d_cX9_advance_151 rfl ?_
              refine G_bipush 98 d_cX9_advance_152 (by decide +kernel) ?_
              refine G_icmp_ne 174 d_cX9_advance_154 (by decide +kernel) (fun _ => ?_) (fun hc => absurd (show False by have := gj_eq hc (show Int32.toInt 98 = 98 by decide); omega) not_false)
              refine G_iload_n 1 d_cX9_advance_174 rfl ?_
              refine G_callS (As := [.int z4671]) (wr := [(q4654, .inr (14, [.ref q4655, .int p4657, .int 0, .int o4667, .int p4660])), (q4655, .inr (15, [.ref q4656, .int p4661])), (q4656, .inl (I .byte, 8192, .inl f4662))]) (gV_ok D I) (ct_308_Signs_isLetter l hl0 D I z4671 ) d_cX9_advance_175 ⟨w_3_45, w_1_4, w_3_47, by decide, rfl, (Nat.le_of_ble_eq_true rfl), (Nat.le_of_ble_eq_true rfl)⟩ w_3_46 [] [0, 1, 2] rfl rfl rfl rfl (by decide) (Nat.le_of_ble_eq_true rfl) (Nat.le_of_ble_eq_true rfl) (Nat.le_of_ble_eq_true rfl) (fun r w hp => ?_) (fun _ _ _ z => z.elim)
              rcases hp with ⟨rfl, rfl, r4891⟩ | ⟨rfl, rfl, r4892, r4893⟩ | ⟨rfl, rfl, r4894, r4895⟩
              · exact absurd (show False by omega) not_false
              · exact absurd (show False by omega) not_false
              · change G _ _ _ _ _ _ _ (.int 1 :: _) _ _ _
                refine G_ws (ws' := [(q4654, .inr (14, [.ref q4655, .int p4657, .int 0, .int o4667, .int p4660])), (q4655, .inr (15, [.ref q4656, .int p4661])), (q4656, .inl (I .byte, 8192, .inl f4662))]) (cs' := 0) (sl' := 0) rfl rfl rfl ?_
                refine G_if_eq 188 d_cX9_advance_178 (by decide +kernel) (fun hc => absurd hc (by decide)) (fun _ => ?_)
                refine G_aload_n 3 d_cX9_advance_181 rfl ?_
                refine G_callV (As := []) (wr := []) (gV_ok D I) (ct_3801_Signs_takeWord l hl0 D I q4654 q4655 q4656 p4657 0 o4667 p4660 p4661 f4662 (gB_w bp4661'' (by decide) (by decide)) bf4662 (by have qa0 : Int32.toInt 0 = 0 := (by decide); have qa1 : Int32.toInt 1 = 1 := (by decide); omega)) d_cX9_advance_182 ⟨w_3_48, w_1_4, w_3_51, by decide, rfl, (Nat.le_of_ble_eq_true rfl), (Nat.le_of_ble_eq_true rfl)⟩ w_3_50 w_p_4 0 rfl rfl [0, 1, 2] [] rfl rfl rfl rfl (by decide) (Nat.le_of_ble_eq_true rfl) (Nat.le_of_ble_eq_true rfl) (Nat.le_of_ble_eq_true rfl) (fun r w hp => ?_) (fun _ _ _ z => z.elim)
                obtain ⟨o4896, o4897, rfl, rfl, bo4896, bo4897, x4898⟩ := hp
                rw [show Int32.toInt 0 = 0 from by decide] at x4898
                change G _ _ _ _ _ _ _ _ _ _ _
                refine G_ws (ws' := [(q4654, .inr (14, [.ref q4655, .int o4896, .int 0, .int o4667, .int o4897])), (q4655, .inr (15, [.ref q4656, .int p4661])), (q4656, .inl (I .byte, 8192, .inl f4662))]) (cs' := 0) (sl' := 0) rfl rfl rfl ?_
                refine G_goto 194 d_cX9_advance_185 (by decide +kernel) ?_
                exact G_vret d_cX9_advance_194 rfl (Nat.le_of_ble_eq_true rfl) (Nat.le_of_ble_eq_true rfl) ⟨o4896, 0, o4667, o4897, rfl, rfl, bo4896, (gB_w (gBl (show Int32.toInt 0 = 0 by decide)) (by decide) (by decide)), (gB_w bo4667'' (by decide) (by decide)), bo4897, (by have qa0 : Int32.toInt 0 = 0 := (by decide); have qa1 : Int32.toInt 1 = 1 := (by decide); omega)⟩
            · have r4698' : gB z4695 48 255 := ⟨by omega, by omega⟩
              have r4698'' : gB z4695 48 57 := ⟨by omega, by omega⟩
              change G _ _ _ _ _ _ _ (.int 1 :: _) _ _ _
              refine G_ws (ws' := [(q4654, .inr (14, [.ref q4655, .int p4657, .int 0, .int o4667, .int p4660])), (q4655, .inr (15, [.ref q4656, .int p4661])), (q4656, .inl (I .byte, 8192, .inl f4662))]) (cs' := 0) (sl' := 0) rfl rfl rfl ?_
              refine G_if_eq 151 d_cX9_advance_138 (by decide +kernel) (fun hc => absurd hc (by decide)) (fun _ => ?_)
              refine G_aload_n 3 d_cX9_advance_141 rfl ?_
              refine G_iconst 2 d_cX9_advance_142 (by decide +kernel) ?_
              refine G_bipush 100 d_cX9_advance_143 (by decide +kernel) ?_
              refine G_callV (As := [.int 2, .int 100]) (wr := []) (gV_ok D I) (ct_661_Signs_takeNamed l hl0 D I q4654 q4655 q4656 2 100 p4657 0 o4667 p4660 p4661 f4662 (gB_w (gBl (show Int32.toInt 2 = 2 by decide)) (by decide) (by decide)) (gB_w bp4661'' (by decide) (by decide)) bf4662 (by have qa0 : Int32.toInt 0 = 0 := (by decide); have qa1 : Int32.toInt 1 = 1 := (by decide); have qa2 : Int32.toInt 2 = 2 := (by decide); have qa3 : Int32.toInt 100 = 100 := (by decide); omega)) d_cX9_advance_145 ⟨w_3_41, w_1_4, w_3_44, by decide, rfl, (Nat.le_of_ble_eq_true rfl), (Nat.le_of_ble_eq_true rfl)⟩ w_3_43 w_p_3 0 rfl rfl [0, 1, 2] [] rfl rfl rfl rfl (by decide) (Nat.le_of_ble_eq_true rfl) (Nat.le_of_ble_eq_true rfl) (Nat.le_of_ble_eq_true rfl) (fun r w hp => ?_) (fun _ _ _ z => z.elim)
              obtain ⟨o4899, o4900, o4901, rfl, rfl, bo4899, bo4900, bo4901, x4902⟩ := hp
              change G _ _ _ _ _ _ _ _ _ _ _
              refine G_ws (ws' := [(q4654, .inr (14, [.ref q4655, .int o4899, .int o4900, .int o4667, .int o4901])), (q4655, .inr (15, [.ref q4656, .int p4661])), (q4656, .inl (I .byte, 8192, .inl f4662))]) (cs' := 0) (sl' := 0) rfl rfl rfl ?_
              refine G_goto 194 d_cX9_advance_148 (by decide +kernel) ?_
              exact G_vret d_cX9_advance_194 rfl (Nat.le_of_ble_eq_true rfl) (Nat.le_of_ble_eq_true rfl) ⟨o4899, o4900, o4667, o4901, rfl, rfl, (gB_w bo4899 (by decide) (by decide)), bo4900, (gB_w bo4667'' (by decide) (by decide)), bo4901, (by have qa0 : Int32.toInt 1 = 1 := (by decide); omega)⟩
        · have r4674' : gB z4671 48 255 := ⟨by omega, by omega⟩
          have r4674'' : gB z4671 48 57 := ⟨by omega, by omega⟩
          change G _ _ _ _ _ _ _ (.int 1 :: _) _ _ _
          refine G_ws (ws' := [(q4654, .inr (14, [.ref q4655, .int p4657, .int 0, .int o4667, .int p4660])), (q4655, .inr (15, [.ref q4656, .int p4661])), (q4656, .inl (I .byte, 8192, .inl f4662))]) (cs' := 0) (sl' := 0) rfl rfl rfl ?_
          refine G_if_ne 110 d_cX9_advance_90 (by decide +kernel) (fun _ => ?_) (fun hc => absurd hc (by decide))
          refine G_aload_n 3 d_cX9_advance_110 rfl ?_
          refine G_iload_n 1 d_cX9_advance_111 rfl ?_
          refine G_bipush 45 d_cX9_advance_112 (by decide +kernel) ?_
          refine G_icmp_ne 121 d_cX9_advance_114 (by decide +kernel) (fun _ => ?_) (fun hc => absurd (show False by have := gj_eq hc (show Int32.toInt 45 = 45 by decide); omega) not_false)
          refine G_iconst 0 d_cX9_advance_121 (by decide +kernel) ?_
          refine G_callV (As := [.int 0]) (wr := []) (gV_ok D I) (ct_624_Signs_takeNumber l hl0 D I q4654 q4655 q4656 0 p4657 0 o4667 p4660 p4661 f4662 (gB_w (gBl (show Int32.toInt 0 = 0 by decide)) (by decide) (by decide)) (gB_w bp4661'' (by decide) (by decide)) bf4662 (by have qa0 : Int32.toInt 0 = 0 := (by decide); have qa1 : Int32.toInt 1 = 1 := (by decide); omega)) d_cX9_advance_122 ⟨w_3_27, w_1_4, w_3_30, by decide, rfl, (Nat.le_of_ble_eq_true rfl), (Nat.le_of_ble_eq_true rfl)⟩ w_3_29 w_p_1 0 rfl rfl [0, 1, 2] [] rfl rfl rfl rfl (by decide) (Nat.le_of_ble_eq_true rfl) (Nat.le_of_ble_eq_true rfl) (Nat.le_of_ble_eq_true rfl) (fun r w hp => ?_) (fun _ _ _ z => z.elim)
          obtain ⟨o4903, o4904, o4905, rfl, rfl, bo4903, bo4904, bo4905, x4906⟩ := hp
          change G _ _ _ _ _ _ _ _ _ _ _
          refine G_ws (ws' := [(q4654, .inr (14, [.ref q4655, .int o4903, .int o4904, .int o4667, .int o4905])), (q4655, .inr (15, [.ref q4656, .int p4661])), (q4656, .inl (I .byte, 8192, .inl f4662))]) (cs' := 0) (sl' := 0) rfl rfl rfl ?_
          refine G_goto 194 d_cX9_advance_125 (by decide +kernel) ?_
          exact G_vret d_cX9_advance_194 rfl (Nat.le_of_ble_eq_true rfl) (Nat.le_of_ble_eq_true rfl) ⟨o4903, o4904, o4667, o4905, rfl, rfl, (gB_w bo4903 (by decide) (by decide)), bo4904, (gB_w bo4667'' (by decide) (by decide)), bo4905, (by have qa0 : Int32.toInt 1 = 1 := (by decide); omega)⟩
  · have r4907 : p4657.toInt ≠ 2 := gj_neq hc4665 (show Int32.toInt 2 = 2 by decide)
    refine G_aload_n 0 d_cX9_advance_8 rfl ?_
    refine G_getf 0 1 d_cX9_advance_9 rfl (gk_X9 D I) (Nat.le_of_ble_eq_true rfl) w_1_80 rfl ?_
    refine G_iconst 4 d_cX9_advance_12 (by decide +kernel) ?_
    refine G_icmp_ne 20 d_cX9_advance_13 (by decide +kernel) (fun hc4908 => ?_) (fun hc4908 => ?_)
    · have r4909 : p4657.toInt ≠ 4 := gj_neq hc4908 (show Int32.toInt 4 = 4 by decide)
      refine G_iconst 0 d_cX9_advance_20 (by decide +kernel) ?_
      refine G_istore_n (L' := [(1, .int 0), (0, .ref q4654)]) d_cX9_advance_21 (Nat.le_of_ble_eq_true rfl) rfl ?_
      refine G_aload_n 1 d_cX9_advance_22 rfl ?_
      refine G_aload_n 1 d_cX9_advance_23 rfl ?_
      refine G_aload_n 1 d_cX9_advance_24 rfl ?_
      refine G_getf 0 4 d_cX9_advance_25 rfl (gk_X9 D I) (Nat.le_of_ble_eq_true rfl) w_1_83 rfl ?_
      refine G_callV (As := [.int p4660]) (wr := []) (gV_ok D I) (ct_326_Signs_skipBlanks l hl0 D I q4654 q4655 q4656 p4660 p4657 p4658 p4659 p4660 p4661 f4662 bp4661 bf4662 (by have qa0 : Int32.toInt 0 = 0 := (by decide); omega)) d_cX9_advance_28 ⟨w_3_12, w_1_4, w_3_15, by decide, rfl, (Nat.le_of_ble_eq_true rfl), (Nat.le_of_ble_eq_true rfl)⟩ w_3_14 w_p_0 0 rfl rfl [0, 1, 2] [] rfl rfl rfl rfl (by decide) (Nat.le_of_ble_eq_true rfl) (Nat.le_of_ble_eq_true rfl) (Nat.le_of_ble_eq_true rfl) (fun r w hp => ?_) (fun _ _ _ z => z.elim)
      obtain ⟨o4910, rfl, rfl, bo4910⟩ := hp
      change G _ _ _ _ _ _ _ (.int o4910 :: _) _ _ _
      refine G_ws (ws' := [(q4654, .inr (14, [.ref q4655, .int p4657, .int p4658, .int p4659, .int p4660])), (q4655, .inr (15, [.ref q4656, .int p4661])), (q4656, .inl (I .byte, 8192, .inl f4662))]) (cs' := 0) (sl' := 0) rfl rfl rfl ?_
      refine G_putf (ws' := [(q4654, .inr (14, [.ref q4655, .int p4657, .int p4658, .int o4910, .int p4660])), (q4655, .inr (15, [.ref q4656, .int p4661])), (q4656, .inl (I .byte, 8192, .inl f4662))]) 0 3 d_cX9_advance_31 rfl (gk_X9 D I) (Nat.le_of_ble_eq_true rfl) w_1_82 rfl rfl rfl (Nat.le_of_ble_eq_true rfl) rfl ?_
      refine G_aload_n 1 d_cX9_advance_34 rfl ?_
      refine G_getf 0 0 d_cX9_advance_35 rfl (gk_X9 D I) (Nat.le_of_ble_eq_true rfl) w_1_79 rfl ?_
      refine G_aload_n 1 d_cX9_advance_38 rfl ?_
      refine G_getf 0 3 d_cX9_advance_39 rfl (gk_X9 D I) (Nat.le_of_ble_eq_true rfl) w_1_82 rfl ?_
      refine G_callV (As := [.int o4910]) (wr := [(q4654, .inr (14, [.ref q4655, .int p4657, .int p4658, .int o4910, .int p4660]))]) (gV_ok D I) (ct_30_Tape_byteAt l hl0 D I q4655 q4656 o4910 p4661 f4662 bp4661 bf4662) d_cX9_advance_42 ⟨w_3_20, w_1_2, w_3_23, by decide, rfl, (Nat.le_of_ble_eq_true rfl), (Nat.le_of_ble_eq_true rfl)⟩ w_3_21 w_3_22 1 rfl rfl [1, 2] [0] rfl rfl rfl rfl (by decide) (Nat.le_of_ble_eq_true rfl) (Nat.le_of_ble_eq_true rfl) (Nat.le_of_ble_eq_true rfl) (fun r w hp => ?_) (fun _ _ _ z => z.elim)
      rcases hp with ⟨rfl, rfl, r4911⟩ | ⟨rfl, rfl, r4912, r4913⟩ | ⟨z4914, rfl, rfl, r4915, r4916, r4917⟩
      · have bo4910' : gB o4910 (-2147483648) (-1) := ⟨by omega, by omega⟩
        change G _ _ _ _ _ _ _ (.int (-1) :: _) _ _ _
        refine G_ws (ws' := [(q4654, .inr (14, [.ref q4655, .int p4657, .int p4658, .int o4910, .int p4660])), (q4655, .inr (15, [.ref q4656, .int p4661])), (q4656, .inl (I .byte, 8192, .inl f4662))]) (cs' := 0) (sl' := 0) rfl rfl rfl ?_
        refine G_istore_n (L' := [(2, .int (-1)), (1, .int 0), (0, .ref q4654)]) d_cX9_advance_45 (Nat.le_of_ble_eq_true rfl) rfl ?_
        refine G_aload_n 2 d_cX9_advance_46 rfl ?_
        refine G_getf 0 0 d_cX9_advance_47 rfl (gk_X9 D I) (Nat.le_of_ble_eq_true rfl) w_1_79 rfl ?_
        refine G_aload_n 2 d_cX9_advance_50 rfl ?_
        refine G_getf 0 3 d_cX9_advance_51 rfl (gk_X9 D I) (Nat.le_of_ble_eq_true rfl) w_1_82 rfl ?_
        refine G_iconst 1 d_cX9_advance_54 (by decide +kernel) ?_
        refine G_iadd d_cX9_advance_55 (G_nam fun z4918 hz4918 => ?_)
        have ez4918 : z4918.toInt = o4910.toInt + 1 := by rw [gI_add hz4918 bo4910' (gBl (show Int32.toInt 1 = 1 by decide)) (by decide) (by decide), show Int32.toInt 1 = 1 from by decide]
        have bz4918 : gB z4918 (-2147483647) 0 := gB_add (gI_add hz4918 bo4910' (gBl (show Int32.toInt 1 = 1 by decide)) (by decide) (by decide)) bo4910' (gBl (show Int32.toInt 1 = 1 by decide)) (by decide) (by decide)
        refine G_callV (As := [.int z4918]) (wr := [(q4654, .inr (14, [.ref q4655, .int p4657, .int p4658, .int o4910, .int p4660]))]) (gV_ok D I) (ct_30_Tape_byteAt l hl0 D I q4655 q4656 z4918 p4661 f4662 bp4661 bf4662) d_cX9_advance_56 ⟨w_3_20, w_1_2, w_3_23, by decide, rfl, (Nat.le_of_ble_eq_true rfl), (Nat.le_of_ble_eq_true rfl)⟩ w_3_21 w_3_22 1 rfl rfl [1, 2] [0] rfl rfl rfl rfl (by decide) (Nat.le_of_ble_eq_true rfl) (Nat.le_of_ble_eq_true rfl) (Nat.le_of_ble_eq_true rfl) (fun r w hp => ?_) (fun _ _ _ z => z.elim)
        rcases hp with ⟨rfl, rfl, r4919⟩ | ⟨rfl, rfl, r4920, r4921⟩ | ⟨z4922, rfl, rfl, r4923, r4924, r4925⟩
        · have bz4918' : gB z4918 (-2147483647) (-1) := ⟨by omega, by omega⟩
          change G _ _ _ _ _ _ _ (.int (-1) :: _) _ _ _
          refine G_ws (ws' := [(q4654, .inr (14, [.ref q4655, .int p4657, .int p4658, .int o4910, .int p4660])), (q4655, .inr (15, [.ref q4656, .int p4661])), (q4656, .inl (I .byte, 8192, .inl f4662))]) (cs' := 0) (sl' := 0) rfl rfl rfl ?_
          refine G_istore_n (L' := [(3, .int (-1)), (2, .int (-1)), (1, .int 0), (0, .ref q4654)]) d_cX9_advance_59 (Nat.le_of_ble_eq_true rfl) rfl ?_
          refine G_aload_n 3 d_cX9_advance_60 rfl ?_
          refine G_iconst 0 d_cX9_advance_61 (by decide +kernel) ?_
          refine G_putf (ws' := [(q4654, .inr (14, [.ref q4655, .int p4657, .int 0, .int o4910, .int p4660])), (q4655, .inr (15, [.ref q4656, .int p4661])), (q4656, .inl (I .byte, 8192, .inl f4662))]) 0 2 d_cX9_advance_62 rfl (gk_X9 D I) (Nat.le_of_ble_eq_true rfl) w_1_81 rfl rfl rfl (Nat.le_of_ble_eq_true rfl) rfl ?_
          refine G_iload_n 1 d_cX9_advance_65 rfl ?_
          refine G_iconst (-1) d_cX9_advance_66 (by decide +kernel) ?_
          refine G_icmp_ne 86 d_cX9_advance_67 (by decide +kernel) (fun hc => absurd hc (by decide)) (fun _ => ?_)
          refine G_aload_n 3 d_cX9_advance_70 rfl ?_
          refine G_iconst 1 d_cX9_advance_71 (by decide +kernel) ?_
          refine G_putf (ws' := [(q4654, .inr (14, [.ref q4655, .int 1, .int 0, .int o4910, .int p4660])), (q4655, .inr (15, [.ref q4656, .int p4661])), (q4656, .inl (I .byte, 8192, .inl f4662))]) 0 1 d_cX9_advance_72 rfl (gk_X9 D I) (Nat.le_of_ble_eq_true rfl) w_1_80 rfl rfl rfl (Nat.le_of_ble_eq_true rfl) rfl ?_
          refine G_aload_n 3 d_cX9_advance_75 rfl ?_
          refine G_aload_n 3 d_cX9_advance_76 rfl ?_
          refine G_getf 0 3 d_cX9_advance_77 rfl (gk_X9 D I) (Nat.le_of_ble_eq_true rfl) w_1_82 rfl ?_
          refine G_putf (ws' := [(q4654, .inr (14, [.ref q4655, .int 1, .int 0, .int o4910, .int o4910])), (q4655, .inr (15, [.ref q4656, .int p4661])), (q4656, .inl (I .byte, 8192, .inl f4662))]) 0 4 d_cX9_advance_80 rfl (gk_X9 D I) (Nat.le_of_ble_eq_true rfl) w_1_83 rfl rfl rfl (Nat.le_of_ble_eq_true rfl) rfl ?_
          refine G_goto 194 d_cX9_advance_83 (by decide +kernel) ?_
          exact G_vret d_cX9_advance_194 rfl (Nat.le_of_ble_eq_true rfl) (Nat.le_of_ble_eq_true rfl) ⟨1, 0, o4910, o4910, rfl, rfl, (gB_w (gBl (show Int32.toInt 1 = 1 by decide)) (by decide) (by decide)), (gB_w (gBl (show Int32.toInt 0 = 0 by decide)) (by decide) (by decide)), (gB_w bo4910' (by decide) (by decide)), (gB_w bo4910' (by decide) (by decide)), (by have qa0 : Int32.toInt (-1) = (-1) := (by decide); have qa1 : Int32.toInt 0 = 0 := (by decide); have qa2 : Int32.toInt 1 = 1 := (by decide); omega)⟩
        · have bz4918' : gB z4918 0 0 := ⟨by omega, by omega⟩
          have bp4661' : gB p4661 0 0 := ⟨by omega, by omega⟩
          change G _ _ _ _ _ _ _ (.int (-1) :: _) _ _ _
          refine G_ws (ws' := [(q4654, .inr (14, [.ref q4655, .int p4657, .int p4658, .int o4910, .int p4660])), (q4655, .inr (15, [.ref q4656, .int p4661])), (q4656, .inl (I .byte, 8192, .inl f4662))]) (cs' := 0) (sl' := 0) rfl rfl rfl ?_
          refine G_istore_n (L' := [(3, .int (-1)), (2, .int (-1)), (1, .int 0), (0, .ref q4654)]) d_cX9_advance_59 (Nat.le_of_ble_eq_true rfl) rfl ?_
          refine G_aload_n 3 d_cX9_advance_60 rfl ?_
          refine G_iconst 0 d_cX9_advance_61 (by decide +kernel) ?_
          refine G_putf (ws' := [(q4654, .inr (14, [.ref q4655, .int p4657, .int 0, .int o4910, .int p4660])), (q4655, .inr (15, [.ref q4656, .int p4661])), (q4656, .inl (I .byte, 8192, .inl f4662))]) 0 2 d_cX9_advance_62 rfl (gk_X9 D I) (Nat.le_of_ble_eq_true rfl) w_1_81 rfl rfl rfl (Nat.le_of_ble_eq_true rfl) rfl ?_
          refine G_iload_n 1 d_cX9_advance_65 rfl ?_
          refine G_iconst (-1) d_cX9_advance_66 (by decide +kernel) ?_
          refine G_icmp_ne 86 d_cX9_advance_67 (by decide +kernel) (fun hc => absurd hc (by decide)) (fun _ => ?_)
          refine G_aload_n 3 d_cX9_advance_70 rfl ?_
          refine G_iconst 1 d_cX9_advance_71 (by decide +kernel) ?_
          refine G_putf (ws' := [(q4654, .inr (14, [.ref q4655, .int 1, .int 0, .int o4910, .int p4660])), (q4655, .inr (15, [.ref q4656, .int p4661])), (q4656, .inl (I .byte, 8192, .inl f4662))]) 0 1 d_cX9_advance_72 rfl (gk_X9 D I) (Nat.le_of_ble_eq_true rfl) w_1_80 rfl rfl rfl (Nat.le_of_ble_eq_true rfl) rfl ?_
          refine G_aload_n 3 d_cX9_advance_75 rfl ?_
          refine G_aload_n 3 d_cX9_advance_76 rfl ?_
          refine G_getf 0 3 d_cX9_advance_77 rfl (gk_X9 D I) (Nat.le_of_ble_eq_true rfl) w_1_82 rfl ?_
          refine G_putf (ws' := [(q4654, .inr (14, [.ref q4655, .int 1, .int 0, .int o4910, .int o4910])), (q4655, .inr (15, [.ref q4656, .int p4661])), (q4656, .inl (I .byte, 8192, .inl f4662))]) 0 4 d_cX9_advance_80 rfl (gk_X9 D I) (Nat.le_of_ble_eq_true rfl) w_1_83 rfl rfl rfl (Nat.le_of_ble_eq_true rfl) rfl ?_
          refine G_goto 194 d_cX9_advance_83 (by decide +kernel) ?_
          exact G_vret d_cX9_advance_194 rfl (Nat.le_of_ble_eq_true rfl) (Nat.le_of_ble_eq_true rfl) ⟨1, 0, o4910, o4910, rfl, rfl, (gB_w (gBl (show Int32.toInt 1 = 1 by decide)) (by decide) (by decide)), (gB_w (gBl (show Int32.toInt 0 = 0 by decide)) (by decide) (by decide)), (gB_w bo4910' (by decide) (by decide)), (gB_w bo4910' (by decide) (by decide)), (by have qa0 : Int32.toInt (-1) = (-1) := (by decide); have qa1 : Int32.toInt 0 = 0 := (by decide); have qa2 : Int32.toInt 1 = 1 := (by decide); omega)⟩
        · have bz4918' : gB z4918 0 0 := ⟨by omega, by omega⟩
          have bp4661' : gB p4661 1 8192 := ⟨by omega, by omega⟩
          change G _ _ _ _ _ _ _ (.int z4922 :: _) _ _ _
          refine G_ws (ws' := [(q4654, .inr (14, [.ref q4655, .int p4657, .int p4658, .int o4910, .int p4660])), (q4655, .inr (15, [.ref q4656, .int p4661])), (q4656, .inl (I .byte, 8192, .inl f4662))]) (cs' := 0) (sl' := 0) rfl rfl rfl ?_
          refine G_istore_n (L' := [(3, .int z4922), (2, .int (-1)), (1, .int 0), (0, .ref q4654)]) d_cX9_advance_59 (Nat.le_of_ble_eq_true rfl) rfl ?_
          refine G_aload_n 3 d_cX9_advance_60 rfl ?_
          refine G_iconst 0 d_cX9_advance_61 (by decide +kernel) ?_
          refine G_putf (ws' := [(q4654, .inr (14, [.ref q4655, .int p4657, .int 0, .int o4910, .int p4660])), (q4655, .inr (15, [.ref q4656, .int p4661])), (q4656, .inl (I .byte, 8192, .inl f4662))]) 0 2 d_cX9_advance_62 rfl (gk_X9 D I) (Nat.le_of_ble_eq_true rfl) w_1_81 rfl rfl rfl (Nat.le_of_ble_eq_true rfl) rfl ?_
          refine G_iload_n 1 d_cX9_advance_65 rfl ?_
          refine G_iconst (-1) d_cX9_advance_66 (by decide +kernel) ?_
          refine G_icmp_ne 86 d_cX9_advance_67 (by decide +kernel) (fun hc => absurd hc (by decide)) (fun _ => ?_)
          refine G_aload_n 3 d_cX9_advance_70 rfl ?_
          refine G_iconst 1 d_cX9_advance_71 (by decide +kernel) ?_
          refine G_putf (ws' := [(q4654, .inr (14, [.ref q4655, .int 1, .int 0, .int o4910, .int p4660])), (q4655, .inr (15, [.ref q4656, .int p4661])), (q4656, .inl (I .byte, 8192, .inl f4662))]) 0 1 d_cX9_advance_72 rfl (gk_X9 D I) (Nat.le_of_ble_eq_true rfl) w_1_80 rfl rfl rfl (Nat.le_of_ble_eq_true rfl) rfl ?_
          refine G_aload_n 3 d_cX9_advance_75 rfl ?_
          refine G_aload_n 3 d_cX9_advance_76 rfl ?_
          refine G_getf 0 3 d_cX9_advance_77 rfl (gk_X9 D I) (Nat.le_of_ble_eq_true rfl) w_1_82 rfl ?_
          refine G_putf (ws' := [(q4654, .inr (14, [.ref q4655, .int 1, .int 0, .int o4910, .int o4910])), (q4655, .inr (15, [.ref q4656, .int p4661])), (q4656, .inl (I .byte, 8192, .inl f4662))]) 0 4 d_cX9_advance_80 rfl (gk_X9 D I) (Nat.le_of_ble_eq_true rfl) w_1_83 rfl rfl rfl (Nat.le_of_ble_eq_true rfl) rfl ?_
          refine G_goto 194 d_cX9_advance_83 (by decide +kernel) ?_
          exact G_vret d_cX9_advance_194 rfl (Nat.le_of_ble_eq_true rfl) (Nat.le_of_ble_eq_true rfl) ⟨1, 0, o4910, o4910, rfl, rfl, (gB_w (gBl (show Int32.toInt 1 = 1 by decide)) (by decide) (by decide)), (gB_w (gBl (show Int32.toInt 0 = 0 by decide)) (by decide) (by decide)), (gB_w bo4910' (by decide) (by decide)), (gB_w bo4910' (by decide) (by decide)), (by have qa0 : Int32.toInt (-1) = (-1) := (by decide); have qa1 : Int32.toInt 0 = 0 := (by decide); have qa2 : Int32.toInt 1 = 1 := (by decide); omega)⟩
      · have bo4910' : gB o4910 0 8192 := ⟨by omega, by omega⟩
        change G _ _ _ _ _ _ _ (.int (-1) :: _) _ _ _
        refine G_ws (ws' := [(q4654, .inr (14, [.ref q4655, .int p4657, .int p4658, .int o4910, .int p4660])), (q4655, .inr (15, [.ref q4656, .int p4661])), (q4656, .inl (I .byte, 8192, .inl f4662))]) (cs' := 0) (sl' := 0) rfl rfl rfl ?_
        refine G_istore_n (L' := [(2, .int (-1)), (1, .int 0), (0, .ref q4654)]) d_cX9_advance_45 (Nat.le_of_ble_eq_true rfl) rfl ?_
        refine G_aload_n 2 d_cX9_advance_46 rfl ?_
        refine G_getf 0 0 d_cX9_advance_47 rfl (gk_X9 D I) (Nat.le_of_ble_eq_true rfl) w_1_79 rfl ?_
        refine G_aload_n 2 d_cX9_advance_50 rfl ?_
        refine G_getf 0 3 d_cX9_advance_51 rfl (gk_X9 D I) (Nat.le_of_ble_eq_true rfl) w_1_82 rfl ?_
        refine G_iconst 1 d_cX9_advance_54 (by decide +kernel) ?_
        refine G_iadd d_cX9_advance_55 (G_nam fun z4926 hz4926 => ?_)
        have ez4926 : z4926.toInt = o4910.toInt + 1 := by rw [gI_add hz4926 bo4910' (gBl (show Int32.toInt 1 = 1 by decide)) (by decide) (by decide), show Int32.toInt 1 = 1 from by decide]
        have bz4926 : gB z4926 1 8193 := gB_add (gI_add hz4926 bo4910' (gBl (show Int32.toInt 1 = 1 by decide)) (by decide) (by decide)) bo4910' (gBl (show Int32.toInt 1 = 1 by decide)) (by decide) (by decide)
        refine G_callV (As := [.int z4926]) (wr := [(q4654, .inr (14, [.ref q4655, .int p4657, .int p4658, .int o4910, .int p4660]))]) (gV_ok D I) (ct_30_Tape_byteAt l hl0 D I q4655 q4656 z4926 p4661 f4662 bp4661 bf4662) d_cX9_advance_56 ⟨w_3_20, w_1_2, w_3_23, by decide, rfl, (Nat.le_of_ble_eq_true rfl), (Nat.le_of_ble_eq_true rfl)⟩ w_3_21 w_3_22 1 rfl rfl [1, 2] [0] rfl rfl rfl rfl (by decide) (Nat.le_of_ble_eq_true rfl) (Nat.le_of_ble_eq_true rfl) (Nat.le_of_ble_eq_true rfl) (fun r w hp => ?_) (fun _ _ _ z => z.elim)
        rcases hp with ⟨rfl, rfl, r4927⟩ | ⟨rfl, rfl, r4928, r4929⟩ | ⟨z4930, rfl, rfl, r4931, r4932, r4933⟩
        · exact absurd (show False by omega) not_false
        · change G _ _ _ _ _ _ _ (.int (-1) :: _) _ _ _
          refine G_ws (ws' := [(q4654, .inr (14, [.ref q4655, .int p4657, .int p4658, .int o4910, .int p4660])), (q4655, .inr (15, [.ref q4656, .int p4661])), (q4656, .inl (I .byte, 8192, .inl f4662))]) (cs' := 0) (sl' := 0) rfl rfl rfl ?_
          refine G_istore_n (L' := [(3, .int (-1)), (2, .int (-1)), (1, .int 0), (0, .ref q4654)]) d_cX9_advance_59 (Nat.le_of_ble_eq_true rfl) rfl ?_
          refine G_aload_n 3 d_cX9_advance_60 rfl ?_
          refine G_iconst 0 d_cX9_advance_61 (by decide +kernel) ?_
          refine G_putf (ws' := [(q4654, .inr (14, [.ref q4655, .int p4657, .int 0, .int o4910, .int p4660])), (q4655, .inr (15, [.ref q4656, .int p4661])), (q4656, .inl (I .byte, 8192, .inl f4662))]) 0 2 d_cX9_advance_62 rfl (gk_X9 D I) (Nat.le_of_ble_eq_true rfl) w_1_81 rfl rfl rfl (Nat.le_of_ble_eq_true rfl) rfl ?_
          refine G_iload_n 1 d_cX9_advance_65 rfl ?_
          refine G_iconst (-1) d_cX9_advance_66 (by decide +kernel) ?_
          refine G_icmp_ne 86 d_cX9_advance_67 (by decide +kernel) (fun hc => absurd hc (by decide)) (fun _ => ?_)
          refine G_aload_n 3 d_cX9_advance_70 rfl ?_
          refine G_iconst 1 d_cX9_advance_71 (by decide +kernel) ?_
          refine G_putf (ws' := [(q4654, .inr (14, [.ref q4655, .int 1, .int 0, .int o4910, .int p4660])), (q4655, .inr (15, [.ref q4656, .int p4661])), (q4656, .inl (I .byte, 8192, .inl f4662))]) 0 1 d_cX9_advance_72 rfl (gk_X9 D I) (Nat.le_of_ble_eq_true rfl) w_1_80 rfl rfl rfl (Nat.le_of_ble_eq_true rfl) rfl ?_
          refine G_aload_n 3 d_cX9_advance_75 rfl ?_
          refine G_aload_n 3 d_cX9_advance_76 rfl ?_
          refine G_getf 0 3 d_cX9_advance_77 rfl (gk_X9 D I) (Nat.le_of_ble_eq_true rfl) w_1_82 rfl ?_
          refine G_putf (ws' := [(q4654, .inr (14, [.ref q4655, .int 1, .int 0, .int o4910, .int o4910])), (q4655, .inr (15, [.ref q4656, .int p4661])), (q4656, .inl (I .byte, 8192, .inl f4662))]) 0 4 d_cX9_advance_80 rfl (gk_X9 D I) (Nat.le_of_ble_eq_true rfl) w_1_83 rfl rfl rfl (Nat.le_of_ble_eq_true rfl) rfl ?_
          refine G_goto 194 d_cX9_advance_83 (by decide +kernel) ?_
          exact G_vret d_cX9_advance_194 rfl (Nat.le_of_ble_eq_true rfl) (Nat.le_of_ble_eq_true rfl) ⟨1, 0, o4910, o4910, rfl, rfl, (gB_w (gBl (show Int32.toInt 1 = 1 by decide)) (by decide) (by decide)), (gB_w (gBl (show Int32.toInt 0 = 0 by decide)) (by decide) (by decide)), (gB_w bo4910' (by decide) (by decide)), (gB_w bo4910' (by decide) (by decide)), (by have qa0 : Int32.toInt (-1) = (-1) := (by decide); have qa1 : Int32.toInt 0 = 0 := (by decide); have qa2 : Int32.toInt 1 = 1 := (by decide); omega)⟩
        · have bz4926' : gB z4926 1 8191 := ⟨by omega, by omega⟩
          have bp4661' : gB p4661 2 8192 := ⟨by omega, by omega⟩
          change G _ _ _ _ _ _ _ (.int z4930 :: _) _ _ _
          refine G_ws (ws' := [(q4654, .inr (14, [.ref q4655, .int p4657, .int p4658, .int o4910, .int p4660])), (q4655, .inr (15, [.ref q4656, .int p4661])), (q4656, .inl (I .byte, 8192, .inl f4662))]) (cs' := 0) (sl' := 0) rfl rfl rfl ?_
          refine G_istore_n (L' := [(3, .int z4930), (2, .int (-1)), (1, .int 0), (0, .ref q4654)]) d_cX9_advance_59 (Nat.le_of_ble_eq_true rfl) rfl ?_
          refine G_aload_n 3 d_cX9_advance_60 rfl ?_
          refine G_iconst 0 d_cX9_advance_61 (by decide +kernel) ?_
          refine G_putf (ws' := [(q4654, .inr (14, [.ref q4655, .int p4657, .int 0, .int o4910, .int p4660])), (q4655, .inr (15, [.ref q4656, .int p4661])), (q4656, .inl (I .byte, 8192, .inl f4662))]) 0 2 d_cX9_advance_62 rfl (gk_X9 D I) (Nat.le_of_ble_eq_true rfl) w_1_81 rfl rfl rfl (Nat.le_of_ble_eq_true rfl) rfl ?_
          refine G_iload_n 1 d_cX9_advance_65 rfl ?_
          refine G_iconst (-1) d_cX9_advance_66 (by decide +kernel) ?_
          refine G_icmp_ne 86 d_cX9_advance_67 (by decide +kernel) (fun hc => absurd hc (by decide)) (fun _ => ?_)
          refine G_aload_n 3 d_cX9_advance_70 rfl ?_
          refine G_iconst 1 d_cX9_advance_71 (by decide +kernel) ?_
          refine G_putf (ws' := [(q4654, .inr (14, [.ref q4655, .int 1, .int 0, .int o4910, .int p4660])), (q4655, .inr (15, [.ref q4656, .int p4661])), (q4656, .inl (I .byte, 8192, .inl f4662))]) 0 1 d_cX9_advance_72 rfl (gk_X9 D I) (Nat.le_of_ble_eq_true rfl) w_1_80 rfl rfl rfl (Nat.le_of_ble_eq_true rfl) rfl ?_
          refine G_aload_n 3 d_cX9_advance_75 rfl ?_
          refine G_aload_n 3 d_cX9_advance_76 rfl ?_
          refine G_getf 0 3 d_cX9_advance_77 rfl (gk_X9 D I) (Nat.le_of_ble_eq_true rfl) w_1_82 rfl ?_
          refine G_putf (ws' := [(q4654, .inr (14, [.ref q4655, .int 1, .int 0, .int o4910, .int o4910])), (q4655, .inr (15, [.ref q4656, .int p4661])), (q4656, .inl (I .byte, 8192, .inl f4662))]) 0 4 d_cX9_advance_80 rfl (gk_X9 D I) (Nat.le_of_ble_eq_true rfl) w_1_83 rfl rfl rfl (Nat.le_of_ble_eq_true rfl) rfl ?_
          refine G_goto 194 d_cX9_advance_83 (by decide +kernel) ?_
          exact G_vret d_cX9_advance_194 rfl (Nat.le_of_ble_eq_true rfl) (Nat.le_of_ble_eq_true rfl) ⟨1, 0, o4910, o4910, rfl, rfl, (gB_w (gBl (show Int32.toInt 1 = 1 by decide)) (by decide) (by decide)), (gB_w (gBl (show Int32.toInt 0 = 0 by decide)) (by decide) (by decide)), (gB_w bo4910' (by decide) (by decide)), (gB_w bo4910' (by decide) (by decide)), (by have qa0 : Int32.toInt (-1) = (-1) := (by decide); have qa1 : Int32.toInt 0 = 0 := (by decide); have qa2 : Int32.toInt 1 = 1 := (by decide); omega)⟩
      · have bo4910' : gB o4910 0 8192 := ⟨by omega, by omega⟩
        have bo4910'' : gB o4910 0 8191 := ⟨by omega, by omega⟩
        have bp4661' : gB p4661 1 8192 := ⟨by omega, by omega⟩
        change G _ _ _ _ _ _ _ (.int z4914 :: _) _ _ _
        refine G_ws (ws' := [(q4654, .inr (14, [.ref q4655, .int p4657, .int p4658, .int o4910, .int p4660])), (q4655, .inr (15, [.ref q4656, .int p4661])), (q4656, .inl (I .byte, 8192, .inl f4662))]) (cs' := 0) (sl' := 0) rfl rfl rfl ?_
        refine G_istore_n (L' := [(2, .int z4914), (1, .int 0), (0, .ref q4654)]) d_cX9_advance_45 (Nat.le_of_ble_eq_true rfl) rfl ?_
        refine G_aload_n 2 d_cX9_advance_46 rfl ?_
        refine G_getf 0 0 d_cX9_advance_47 rfl (gk_X9 D I) (Nat.le_of_ble_eq_true rfl) w_1_79 rfl ?_
        refine G_aload_n 2 d_cX9_advance_50 rfl ?_
        refine G_getf 0 3 d_cX9_advance_51 rfl (gk_X9 D I) (Nat.le_of_ble_eq_true rfl) w_1_82 rfl ?_
        refine G_iconst 1 d_cX9_advance_54 (by decide +kernel) ?_
        refine G_iadd d_cX9_advance_55 (G_nam fun z4934 hz4934 => ?_)
        have ez4934 : z4934.toInt = o4910.toInt + 1 := by rw [gI_add hz4934 bo4910'' (gBl (show Int32.toInt 1 = 1 by decide)) (by decide) (by decide), show Int32.toInt 1 = 1 from by decide]
        have bz4934 : gB z4934 1 8192 := gB_add (gI_add hz4934 bo4910'' (gBl (show Int32.toInt 1 = 1 by decide)) (by decide) (by decide)) bo4910'' (gBl (show Int32.toInt 1 = 1 by decide)) (by decide) (by decide)
        refine G_callV (As := [.int z4934]) (wr := [(q4654, .inr (14, [.ref q4655, .int p4657, .int p4658, .int o4910, .int p4660]))]) (gV_ok D I) (ct_30_Tape_byteAt l hl0 D I q4655 q4656 z4934 p4661 f4662 (gB_w bp4661' (by decide) (by decide)) bf4662) d_cX9_advance_56 ⟨w_3_20, w_1_2, w_3_23, by decide, rfl, (Nat.le_of_ble_eq_true rfl), (Nat.le_of_ble_eq_true rfl)⟩ w_3_21 w_3_22 1 rfl rfl [1, 2] [0] rfl rfl rfl rfl (by decide) (Nat.le_of_ble_eq_true rfl) (Nat.le_of_ble_eq_true rfl) (Nat.le_of_ble_eq_true rfl) (fun r w hp => ?_) (fun _ _ _ z => z.elim)
        rcases hp with ⟨rfl, rfl, r4935⟩ | ⟨rfl, rfl, r4936, r4937⟩ | ⟨z4938, rfl, rfl, r4939, r4940, r4941⟩
        · exact absurd (show False by omega) not_false
        · change G _ _ _ _ _ _ _ (.int (-1) :: _) _ _ _
          refine G_ws (ws' := [(q4654, .inr (14, [.ref q4655, .int p4657, .int p4658, .int o4910, .int p4660])), (q4655, .inr (15, [.ref q4656, .int p4661])), (q4656, .inl (I .byte, 8192, .inl f4662))]) (cs' := 0) (sl' := 0) rfl rfl rfl ?_
          refine G_istore_n (L' := [(3, .int (-1)), (2, .int z4914), (1, .int 0), (0, .ref q4654)]) d_cX9_advance_59 (Nat.le_of_ble_eq_true rfl) rfl ?_
          refine G_aload_n 3 d_cX9_advance_60 rfl ?_
          refine G_iconst 0 d_cX9_advance_61 (by decide +kernel) ?_
          refine G_putf (ws' := [(q4654, .inr (14, [.ref q4655, .int p4657, .int 0, .int o4910, .int p4660])), (q4655, .inr (15, [.ref q4656, .int p4661])), (q4656, .inl (I .byte, 8192, .inl f4662))]) 0 2 d_cX9_advance_62 rfl (gk_X9 D I) (Nat.le_of_ble_eq_true rfl) w_1_81 rfl rfl rfl (Nat.le_of_ble_eq_true rfl) rfl ?_
          refine G_iload_n 1 d_cX9_advance_65 rfl ?_
          refine G_iconst (-1) d_cX9_advance_66 (by decide +kernel) ?_
          refine G_icmp_ne 86 d_cX9_advance_67 (by decide +kernel) (fun _ => ?_) (fun hc => absurd (show False by have := gj_eq hc (show Int32.toInt (-1) = (-1) by decide); omega) not_false)
          refine G_iload_n 1 d_cX9_advance_86 rfl ?_
          refine G_callS (As := [.int z4914]) (wr := [(q4654, .inr (14, [.ref q4655, .int p4657, .int 0, .int o4910, .int p4660])), (q4655, .inr (15, [.ref q4656, .int p4661])), (q4656, .inl (I .byte, 8192, .inl f4662))]) (gV_ok D I) (ct_300_Signs_isDigit l hl0 D I z4914 ) d_cX9_advance_87 ⟨w_3_24, w_1_4, w_3_26, by decide, rfl, (Nat.le_of_ble_eq_true rfl), (Nat.le_of_ble_eq_true rfl)⟩ w_3_25 [] [0, 1, 2] rfl rfl rfl rfl (by decide) (Nat.le_of_ble_eq_true rfl) (Nat.le_of_ble_eq_true rfl) (Nat.le_of_ble_eq_true rfl) (fun r w hp => ?_) (fun _ _ _ z => z.elim)
          rcases hp with ⟨rfl, rfl, r4942⟩ | ⟨rfl, rfl, r4943, r4944⟩ | ⟨rfl, rfl, r4945, r4946⟩
          · have r4917' : gB z4914 0 47 := ⟨by omega, by omega⟩
            change G _ _ _ _ _ _ _ (.int 0 :: _) _ _ _
            refine G_ws (ws' := [(q4654, .inr (14, [.ref q4655, .int p4657, .int 0, .int o4910, .int p4660])), (q4655, .inr (15, [.ref q4656, .int p4661])), (q4656, .inl (I .byte, 8192, .inl f4662))]) (cs' := 0) (sl' := 0) rfl rfl rfl ?_
            refine G_if_ne 110 d_cX9_advance_90 (by decide +kernel) (fun hc => absurd hc (by decide)) (fun _ => ?_)
            refine G_iload_n 1 d_cX9_advance_93 rfl ?_
            refine G_bipush 45 d_cX9_advance_94 (by decide +kernel) ?_
            refine G_icmp_ne 128 d_cX9_advance_96 (by decide +kernel) (fun hc4947 => ?_) (fun hc4947 => ?_)
            · have r4948 : z4914.toInt ≠ 45 := gj_neq hc4947 (show Int32.toInt 45 = 45 by decide)
              refine G_iload_n 1 d_cX9_advance_128 rfl ?_
              refine G_bipush 118 d_cX9_advance_129 (by decide +kernel) ?_
              refine G_icmp_ne 151 d_cX9_advance_131 (by decide +kernel) (fun _ => ?_) (fun hc => absurd (show False by have := gj_eq hc (show Int32.toInt 118 = 118 by decide); omega) not_false)
              refine G_iload_n 1 d_cX9_advance_151 rfl ?_
              refine G_bipush 98 d_cX9_advance_152 (by decide +kernel) ?_
              refine G_icmp_ne 174 d_cX9_advance_154 (by decide +kernel) (fun _ => ?_) (fun hc => absurd (show False by have := gj_eq hc (show Int32.toInt 98 = 98 by decide); omega) not_false)
              refine G_iload_n 1 d_cX9_advance_174 rfl ?_
              refine G_callS (As := [.int z4914]) (wr := [(q4654, .inr (14, [.ref q4655, .int p4657, .int 0, .int o4910, .int p4660])), (q4655, .inr (15, [.ref q4656, .int p4661])), (q4656, .inl (I .byte, 8192, .inl f4662))]) (gV_ok D I) (ct_308_Signs_isLetter l hl0 D I z4914 ) d_cX9_advance_175 ⟨w_3_45, w_1_4, w_3_47, by decide, rfl, (Nat.le_of_ble_eq_true rfl), (Nat.le_of_ble_eq_true rfl)⟩ w_3_46 [] [0, 1, 2] rfl rfl rfl rfl (by decide) (Nat.le_of_ble_eq_true rfl) (Nat.le_of_ble_eq_true rfl) (Nat.le_of_ble_eq_true rfl) (fun r w hp => ?_) (fun _ _ _ z => z.elim)
              rcases hp with ⟨rfl, rfl, r4949⟩ | ⟨rfl, rfl, r4950, r4951⟩ | ⟨rfl, rfl, r4952, r4953⟩
              · change G _ _ _ _ _ _ _ (.int 0 :: _) _ _ _
                refine G_ws (ws' := [(q4654, .inr (14, [.ref q4655, .int p4657, .int 0, .int o4910, .int p4660])), (q4655, .inr (15, [.ref q4656, .int p4661])), (q4656, .inl (I .byte, 8192, .inl f4662))]) (cs' := 0) (sl' := 0) rfl rfl rfl ?_
                refine G_if_eq 188 d_cX9_advance_178 (by decide +kernel) (fun _ => ?_) (fun hc => absurd hc (by decide))
                refine G_aload_n 3 d_cX9_advance_188 rfl ?_
                refine G_iload_n 1 d_cX9_advance_189 rfl ?_
                refine G_iload_n 0 d_cX9_advance_190 rfl ?_
                refine G_callV (As := [.int z4914, .int (-1)]) (wr := []) (gV_ok D I) (ct_4620_Signs_takeMark l hl0 D I q4654 q4655 q4656 z4914 (-1) p4657 0 o4910 p4660 p4661 f4662 (gB_w bp4661' (by decide) (by decide)) bf4662 (by have qa0 : Int32.toInt (-1) = (-1) := (by decide); have qa1 : Int32.toInt 0 = 0 := (by decide); omega)) d_cX9_advance_191 ⟨w_3_109, w_1_4, w_3_112, by decide, rfl, (Nat.le_of_ble_eq_true rfl), (Nat.le_of_ble_eq_true rfl)⟩ w_3_111 w_p_6 0 rfl rfl [0, 1, 2] [] rfl rfl rfl rfl (by decide) (Nat.le_of_ble_eq_true rfl) (Nat.le_of_ble_eq_true rfl) (Nat.le_of_ble_eq_true rfl) (fun r w hp => ?_) (fun _ _ _ z => z.elim)
                obtain ⟨o4954, o4955, o4956, rfl, rfl, bo4954, bo4955, bo4956, x4957⟩ := hp
                change G _ _ _ _ _ _ _ _ _ _ _
                refine G_ws (ws' := [(q4654, .inr (14, [.ref q4655, .int o4954, .int o4955, .int o4910, .int o4956])), (q4655, .inr (15, [.ref q4656, .int p4661])), (q4656, .inl (I .byte, 8192, .inl f4662))]) (cs' := 0) (sl' := 0) rfl rfl rfl ?_
                exact G_vret d_cX9_advance_194 rfl (Nat.le_of_ble_eq_true rfl) (Nat.le_of_ble_eq_true rfl) ⟨o4954, o4955, o4910, o4956, rfl, rfl, (gB_w bo4954 (by decide) (by decide)), (gB_w bo4955 (by decide) (by decide)), (gB_w bo4910'' (by decide) (by decide)), bo4956, (by have qa0 : Int32.toInt (-1) = (-1) := (by decide); have qa1 : Int32.toInt 0 = 0 := (by decide); omega)⟩
              · exact absurd (show False by omega) not_false
              · exact absurd (show False by omega) not_false
            · have r4958 : z4914.toInt = 45 := gj_eq hc4947 (show Int32.toInt 45 = 45 by decide)
              have r4917'' : gB z4914 45 45 := ⟨by omega, by omega⟩
              refine G_iload_n 0 d_cX9_advance_99 rfl ?_
              refine G_callS (As := [.int (-1)]) (wr := [(q4654, .inr (14, [.ref q4655, .int p4657, .int 0, .int o4910, .int p4660])), (q4655, .inr (15, [.ref q4656, .int p4661])), (q4656, .inl (I .byte, 8192, .inl f4662))]) (gV_ok D I) (ct_300_Signs_isDigit l hl0 D I (-1) ) d_cX9_advance_100 ⟨w_3_24, w_1_4, w_3_26, by decide, rfl, (Nat.le_of_ble_eq_true rfl), (Nat.le_of_ble_eq_true rfl)⟩ w_3_25 [] [0, 1, 2] rfl rfl rfl rfl (by decide) (Nat.le_of_ble_eq_true rfl) (Nat.le_of_ble_eq_true rfl) (Nat.le_of_ble_eq_true rfl) (fun r w hp => ?_) (fun _ _ _ z => z.elim)
              rcases hp with ⟨rfl, rfl, r4959⟩ | ⟨rfl, rfl, r4960, r4961⟩ | ⟨rfl, rfl, r4962, r4963⟩
              · rw [show Int32.toInt (-1) = (-1) from by decide] at r4959
                change G _ _ _ _ _ _ _ (.int 0 :: _) _ _ _
                refine G_ws (ws' := [(q4654, .inr (14, [.ref q4655, .int p4657, .int 0, .int o4910, .int p4660])), (q4655, .inr (15, [.ref q4656, .int p4661])), (q4656, .inl (I .byte, 8192, .inl f4662))]) (cs' := 0) (sl' := 0) rfl rfl rfl ?_
                refine G_if_eq 128 d_cX9_advance_103 (by decide +kernel) (fun _ => ?_) (fun hc => absurd hc (by decide))
                refine G_iload_n 1 d_cX9_advance_128 rfl ?_
                refine G_bipush 118 d_cX9_advance_129 (by decide +kernel) ?_
                refine G_icmp_ne 151 d_cX9_advance_131 (by decide +kernel) (fun _ => ?_) (fun hc => absurd (show False by have := gj_eq hc (show Int32.toInt 118 = 118 by decide); omega) not_false)
                refine G_iload_n 1 d_cX9_advance_151 rfl ?_
                refine G_bipush 98 d_cX9_advance_152 (by decide +kernel) ?_
                refine G_icmp_ne 174 d_cX9_advance_154 (by decide +kernel) (fun _ => ?_) (fun hc => absurd (show False by have := gj_eq hc (show Int32.toInt 98 = 98 by decide); omega) not_false)
                refine G_iload_n 1 d_cX9_advance_174 rfl ?_
                refine G_callS (As := [.int z4914]) (wr := [(q4654, .inr (14, [.ref q4655, .int p4657, .int 0, .int o4910, .int p4660])), (q4655, .inr (15, [.ref q4656, .int p4661])), (q4656, .inl (I .byte, 8192, .inl f4662))]) (gV_ok D I) (ct_308_Signs_isLetter l hl0 D I z4914 ) d_cX9_advance_175 ⟨w_3_45, w_1_4, w_3_47, by decide, rfl, (Nat.le_of_ble_eq_true rfl), (Nat.le_of_ble_eq_true rfl)⟩ w_3_46 [] [0, 1, 2] rfl rfl rfl rfl (by decide) (Nat.le_of_ble_eq_true rfl) (Nat.le_of_ble_eq_true rfl) (Nat.le_of_ble_eq_true rfl) (fun r w hp => ?_) (fun _ _ _ z => z.elim)
                rcases hp with ⟨rfl, rfl, r4964⟩ | ⟨rfl, rfl, r4965, r4966⟩ | ⟨rfl, rfl, r4967, r4968⟩
                · change G _ _ _ _ _ _ _ (.int 0 :: _) _ _ _
                  refine G_ws (ws' := [(q4654, .inr (14, [.ref q4655, .int p4657, .int 0, .int o4910, .int p4660])), (q4655, .inr (15, [.ref q4656, .int p4661])), (q4656, .inl (I .byte, 8192, .inl f4662))]) (cs' := 0) (sl' := 0) rfl rfl rfl ?_
                  refine G_if_eq 188 d_cX9_advance_178 (by decide +kernel) (fun _ => ?_) (fun hc => absurd hc (by decide))
                  refine G_aload_n 3 d_cX9_advance_188 rfl ?_
                  refine G_iload_n 1 d_cX9_advance_189 rfl ?_
                  refine G_iload_n 0 d_cX9_advance_190 rfl ?_
                  refine G_callV (As := [.int z4914, .int (-1)]) (wr := []) (gV_ok D I) (ct_4620_Signs_takeMark l hl0 D I q4654 q4655 q4656 z4914 (-1) p4657 0 o4910 p4660 p4661 f4662 (gB_w bp4661' (by decide) (by decide)) bf4662 (by have qa0 : Int32.toInt (-1) = (-1) := (by decide); have qa1 : Int32.toInt 0 = 0 := (by decide); omega)) d_cX9_advance_191 ⟨w_3_109, w_1_4, w_3_112, by decide, rfl, (Nat.le_of_ble_eq_true rfl), (Nat.le_of_ble_eq_true rfl)⟩ w_3_111 w_p_6 0 rfl rfl [0, 1, 2] [] rfl rfl rfl rfl (by decide) (Nat.le_of_ble_eq_true rfl) (Nat.le_of_ble_eq_true rfl) (Nat.le_of_ble_eq_true rfl) (fun r w hp => ?_) (fun _ _ _ z => z.elim)
                  obtain ⟨o4969, o4970, o4971, rfl, rfl, bo4969, bo4970, bo4971, x4972⟩ := hp
                  change G _ _ _ _ _ _ _ _ _ _ _
                  refine G_ws (ws' := [(q4654, .inr (14, [.ref q4655, .int o4969, .int o4970, .int o4910, .int o4971])), (q4655, .inr (15, [.ref q4656, .int p4661])), (q4656, .inl (I .byte, 8192, .inl f4662))]) (cs' := 0) (sl' := 0) rfl rfl rfl ?_
                  exact G_vret d_cX9_advance_194 rfl (Nat.le_of_ble_eq_true rfl) (Nat.le_of_ble_eq_true rfl) ⟨o4969, o4970, o4910, o4971, rfl, rfl, (gB_w bo4969 (by decide) (by decide)), (gB_w bo4970 (by decide) (by decide)), (gB_w bo4910'' (by decide) (by decide)), bo4971, (by have qa0 : Int32.toInt (-1) = (-1) := (by decide); have qa1 : Int32.toInt 0 = 0 := (by decide); omega)⟩
                · exact absurd (show False by omega) not_false
                · exact absurd (show False by omega) not_false
              · rw [show Int32.toInt (-1) = (-1) from by decide] at r4960
                exact absurd (show False by omega) not_false
              · rw [show Int32.toInt (-1) = (-1) from by decide] at r4962
                exact absurd (show False by omega) not_false
          · have r4917' : gB z4914 48 255 := ⟨by omega, by omega⟩
            have r4917'' : gB z4914 58 255 := ⟨by omega, by omega⟩
            change G _ _ _ _ _ _ _ (.int 0 :: _) _ _ _
            refine G_ws (ws' := [(q4654, .inr (14, [.ref q4655, .int p4657, .int 0, .int o4910, .int p4660])), (q4655, .inr (15, [.ref q4656, .int p4661])), (q4656, .inl (I .byte, 8192, .inl f4662))]) (cs' := 0) (sl' := 0) rfl rfl rfl ?_
            refine G_if_ne 110 d_cX9_advance_90 (by decide +kernel) (fun hc => absurd hc (by decide)) (fun _ => ?_)
            refine G_iload_n 1 d_cX9_advance_93 rfl ?_
            refine G_bipush 45 d_cX9_advance_94 (by decide +kernel) ?_
            refine G_icmp_ne 128 d_cX9_advance_96 (by decide +kernel) (fun _ => ?_) (fun hc => absurd (show False by have := gj_eq hc (show Int32.toInt 45 = 45 by decide); omega) not_false)
            refine G_iload_n 1 d_cX9_advance_128 rfl ?_
            refine G_bipush 118 d_cX9_advance_129 (by decide +kernel) ?_
            refine G_icmp_ne 151 d_cX9_advance_131 (by decide +kernel) (fun hc4973 => ?_) (fun hc4973 => ?_)
            · have r4974 : z4914.toInt ≠ 118 := gj_neq hc4973 (show Int32.toInt 118 = 118 by decide)
              refine G_iload_n 1 d_cX9_advance_151 rfl ?_
              refine G_bipush 98 d_cX9_advance_152 (by decide +kernel) ?_
              refine G_icmp_ne 174 d_cX9_advance_154 (by decide +kernel) (fun hc4975 => ?_) (fun hc4975 => ?_)
              · have r4976 : z4914.toInt ≠ 98 := gj_neq hc4975 (show Int32.toInt 98 = 98 by decide)
                refine G_iload_n 1 d_cX9_advance_174 rfl ?_
                refine G_callS (As := [.int z4914]) (wr := [(q4654, .inr (14, [.ref q4655, .int p4657, .int 0, .int o4910, .int p4660])), (q4655, .inr (15, [.ref q4656, .int p4661])), (q4656, .inl (I .byte, 8192, .inl f4662))]) (gV_ok D I) (ct_308_Signs_isLetter l hl0 D I z4914 ) d_cX9_advance_175 ⟨w_3_45, w_1_4, w_3_47, by decide, rfl, (Nat.le_of_ble_eq_true rfl), (Nat.le_of_ble_eq_true rfl)⟩ w_3_46 [] [0, 1, 2] rfl rfl rfl rfl (by decide) (Nat.le_of_ble_eq_true rfl) (Nat.le_of_ble_eq_true rfl) (Nat.le_of_ble_eq_true rfl) (fun r w hp => ?_) (fun _ _ _ z => z.elim)
                rcases hp with ⟨rfl, rfl, r4977⟩ | ⟨rfl, rfl, r4978, r4979⟩ | ⟨rfl, rfl, r4980, r4981⟩
                · have r4917''' : gB z4914 58 96 := ⟨by omega, by omega⟩
                  change G _ _ _ _ _ _ _ (.int 0 :: _) _ _ _
                  refine G_ws (ws' := [(q4654, .inr (14, [.ref q4655, .int p4657, .int 0, .int o4910, .int p4660])), (q4655, .inr (15, [.ref q4656, .int p4661])), (q4656, .inl (I .byte, 8192, .inl f4662))]) (cs' := 0) (sl' := 0) rfl rfl rfl ?_
                  refine G_if_eq 188 d_cX9_advance_178 (by decide +kernel) (fun _ => ?_) (fun hc => absurd hc (by decide))
                  refine G_aload_n 3 d_cX9_advance_188 rfl ?_
                  refine G_iload_n 1 d_cX9_advance_189 rfl ?_
                  refine G_iload_n 0 d_cX9_advance_190 rfl ?_
                  refine G_callV (As := [.int z4914, .int (-1)]) (wr := []) (gV_ok D I) (ct_4620_Signs_takeMark l hl0 D I q4654 q4655 q4656 z4914 (-1) p4657 0 o4910 p4660 p4661 f4662 (gB_w bp4661' (by decide) (by decide)) bf4662 (by have qa0 : Int32.toInt (-1) = (-1) := (by decide); have qa1 : Int32.toInt 0 = 0 := (by decide); omega)) d_cX9_advance_191 ⟨w_3_109, w_1_4, w_3_112, by decide, rfl, (Nat.le_of_ble_eq_true rfl), (Nat.le_of_ble_eq_true rfl)⟩ w_3_111 w_p_6 0 rfl rfl [0, 1, 2] [] rfl rfl rfl rfl (by decide) (Nat.le_of_ble_eq_true rfl) (Nat.le_of_ble_eq_true rfl) (Nat.le_of_ble_eq_true rfl) (fun r w hp => ?_) (fun _ _ _ z => z.elim)
                  obtain ⟨o4982, o4983, o4984, rfl, rfl, bo4982, bo4983, bo4984, x4985⟩ := hp
                  change G _ _ _ _ _ _ _ _ _ _ _
                  refine G_ws (ws' := [(q4654, .inr (14, [.ref q4655, .int o4982, .int o4983, .int o4910, .int o4984])), (q4655, .inr (15, [.ref q4656, .int p4661])), (q4656, .inl (I .byte, 8192, .inl f4662))]) (cs' := 0) (sl' := 0) rfl rfl rfl ?_
                  exact G_vret d_cX9_advance_194 rfl (Nat.le_of_ble_eq_true rfl) (Nat.le_of_ble_eq_true rfl) ⟨o4982, o4983, o4910, o4984, rfl, rfl, (gB_w bo4982 (by decide) (by decide)), (gB_w bo4983 (by decide) (by decide)), (gB_w bo4910'' (by decide) (by decide)), bo4984, (by have qa0 : Int32.toInt (-1) = (-1) := (by decide); have qa1 : Int32.toInt 0 = 0 := (by decide); omega)⟩
                · have r4917''' : gB z4914 97 255 := ⟨by omega, by omega⟩
                  have r4917'''' : gB z4914 123 255 := ⟨by omega, by omega⟩
                  change G _ _ _ _ _ _ _ (.int 0 :: _) _ _ _
                  refine G_ws (ws' := [(q4654, .inr (14, [.ref q4655, .int p4657, .int 0, .int o4910, .int p4660])), (q4655, .inr (15, [.ref q4656, .int p4661])), (q4656, .inl (I .byte, 8192, .inl f4662))]) (cs' := 0) (sl' := 0) rfl rfl rfl ?_
                  refine G_if_eq 188 d_cX9_advance_178 (by decide +kernel) (fun _ => ?_) (fun hc => absurd hc (by decide))
                  refine G_aload_n 3 d_cX9_advance_188 rfl ?_
                  refine G_iload_n 1 d_cX9_advance_189 rfl ?_
                  refine G_iload_n 0 d_cX9_advance_190 rfl ?_
                  refine G_callV (As := [.int z4914, .int (-1)]) (wr := []) (gV_ok D I) (ct_4620_Signs_takeMark l hl0 D I q4654 q4655 q4656 z4914 (-1) p4657 0 o4910 p4660 p4661 f4662 (gB_w bp4661' (by decide) (by decide)) bf4662 (by have qa0 : Int32.toInt (-1) = (-1) := (by decide); have qa1 : Int32.toInt 0 = 0 := (by decide); omega)) d_cX9_advance_191 ⟨w_3_109, w_1_4, w_3_112, by decide, rfl, (Nat.le_of_ble_eq_true rfl), (Nat.le_of_ble_eq_true rfl)⟩ w_3_111 w_p_6 0 rfl rfl [0, 1, 2] [] rfl rfl rfl rfl (by decide) (Nat.le_of_ble_eq_true rfl) (Nat.le_of_ble_eq_true rfl) (Nat.le_of_ble_eq_true rfl) (fun r w hp => ?_) (fun _ _ _ z => z.elim)
                  obtain ⟨o4986, o4987, o4988, rfl, rfl, bo4986, bo4987, bo4988, x4989⟩ := hp
                  change G _ _ _ _ _ _ _ _ _ _ _
                  refine G_ws (ws' := [(q4654, .inr (14, [.ref q4655, .int o4986, .int o4987, .int o4910, .int o4988])), (q4655, .inr (15, [.ref q4656, .int p4661])), (q4656, .inl (I .byte, 8192, .inl f4662))]) (cs' := 0) (sl' := 0) rfl rfl rfl ?_
                  exact G_vret d_cX9_advance_194 rfl (Nat.le_of_ble_eq_true rfl) (Nat.le_of_ble_eq_true rfl) ⟨o4986, o4987, o4910, o4988, rfl, rfl, (gB_w bo4986 (by decide) (by decide)), (gB_w bo4987 (by decide) (by decide)), (gB_w bo4910'' (by decide) (by decide)), bo4988, (by have qa0 : Int32.toInt (-1) = (-1) := (by decide); have qa1 : Int32.toInt 0 = 0 := (by decide); omega)⟩
                · have r4917''' : gB z4914 97 255 := ⟨by omega, by omega⟩
                  have r4917'''' : gB z4914 97 122 := ⟨by omega, by omega⟩
                  change G _ _ _ _ _ _ _ (.int 1 :: _) _ _ _
                  refine G_ws (ws' := [(q4654, .inr (14, [.ref q4655, .int p4657, .int 0, .int o4910, .int p4660])), (q4655, .inr (15, [.ref q4656, .int p4661])), (q4656, .inl (I .byte, 8192, .inl f4662))]) (cs' := 0) (sl' := 0) rfl rfl rfl ?_
                  refine G_if_eq 188 d_cX9_advance_178 (by decide +kernel) (fun hc => absurd hc (by decide)) (fun _ => ?_)
                  refine G_aload_n 3 d_cX9_advance_181 rfl ?_
                  refine G_callV (As := []) (wr := []) (gV_ok D I) (ct_3801_Signs_takeWord l hl0 D I q4654 q4655 q4656 p4657 0 o4910 p4660 p4661 f4662 (gB_w bp4661' (by decide) (by decide)) bf4662 (by have qa0 : Int32.toInt (-1) = (-1) := (by decide); have qa1 : Int32.toInt 0 = 0 := (by decide); omega)) d_cX9_advance_182 ⟨w_3_48, w_1_4, w_3_51, by decide, rfl, (Nat.le_of_ble_eq_true rfl), (Nat.le_of_ble_eq_true rfl)⟩ w_3_50 w_p_4 0 rfl rfl [0, 1, 2] [] rfl rfl rfl rfl (by decide) (Nat.le_of_ble_eq_true rfl) (Nat.le_of_ble_eq_true rfl) (Nat.le_of_ble_eq_true rfl) (fun r w hp => ?_) (fun _ _ _ z => z.elim)
                  obtain ⟨o4990, o4991, rfl, rfl, bo4990, bo4991, x4992⟩ := hp
                  rw [show Int32.toInt 0 = 0 from by decide] at x4992
                  change G _ _ _ _ _ _ _ _ _ _ _
                  refine G_ws (ws' := [(q4654, .inr (14, [.ref q4655, .int o4990, .int 0, .int o4910, .int o4991])), (q4655, .inr (15, [.ref q4656, .int p4661])), (q4656, .inl (I .byte, 8192, .inl f4662))]) (cs' := 0) (sl' := 0) rfl rfl rfl ?_
                  refine G_goto 194 d_cX9_advance_185 (by decide +kernel) ?_
                  exact G_vret d_cX9_advance_194 rfl (Nat.le_of_ble_eq_true rfl) (Nat.le_of_ble_eq_true rfl) ⟨o4990, 0, o4910, o4991, rfl, rfl, bo4990, (gB_w (gBl (show Int32.toInt 0 = 0 by decide)) (by decide) (by decide)), (gB_w bo4910'' (by decide) (by decide)), bo4991, (by have qa0 : Int32.toInt (-1) = (-1) := (by decide); have qa1 : Int32.toInt 0 = 0 := (by decide); omega)⟩
              · have r4993 : z4914.toInt = 98 := gj_eq hc4975 (show Int32.toInt 98 = 98 by decide)
                have r4917''' : gB z4914 98 98 := ⟨by omega, by omega⟩
                refine G_iload_n 0 d_cX9_advance_157 rfl ?_
                refine G_callS (As := [.int (-1)]) (wr := [(q4654, .inr (14, [.ref q4655, .int p4657, .int 0, .int o4910, .int p4660])), (q4655, .inr (15, [.ref q4656, .int p4661])), (q4656, .inl (I .byte, 8192, .inl f4662))]) (gV_ok D I) (ct_300_Signs_isDigit l hl0 D I (-1) ) d_cX9_advance_158 ⟨w_3_24, w_1_4, w_3_26, by decide, rfl, (Nat.le_of_ble_eq_true rfl), (Nat.le_of_ble_eq_true rfl)⟩ w_3_25 [] [0, 1, 2] rfl rfl rfl rfl (by decide) (Nat.le_of_ble_eq_true rfl) (Nat.le_of_ble_eq_true rfl) (Nat.le_of_ble_eq_true rfl) (fun r w hp => ?_) (fun _ _ _ z => z.elim)
                rcases hp with ⟨rfl, rfl, r4994⟩ | ⟨rfl, rfl, r4995, r4996⟩ | ⟨rfl, rfl, r4997, r4998⟩
                · rw [show Int32.toInt (-1) = (-1) from by decide] at r4994
                  change G _ _ _ _ _ _ _ (.int 0 :: _) _ _ _
                  refine G_ws (ws' := [(q4654, .inr (14, [.ref q4655, .int p4657, .int 0, .int o4910, .int p4660])), (q4655, .inr (15, [.ref q4656, .int p4661])), (q4656, .inl (I .byte, 8192, .inl f4662))]) (cs' := 0) (sl' := 0) rfl rfl rfl ?_
                  refine G_if_eq 174 d_cX9_advance_161 (by decide +kernel) (fun _ => ?_) (fun hc => absurd hc (by decide))
                  refine G_iload_n 1 d_cX9_advance_174 rfl ?_
                  refine G_callS (As := [.int z4914]) (wr := [(q4654, .inr (14, [.ref q4655, .int p4657, .int 0, .int o4910, .int p4660])), (q4655, .inr (15, [.ref q4656, .int p4661])), (q4656, .inl (I .byte, 8192, .inl f4662))]) (gV_ok D I) (ct_308_Signs_isLetter l hl0 D I z4914 ) d_cX9_advance_175 ⟨w_3_45, w_1_4, w_3_47, by decide, rfl, (Nat.le_of_ble_eq_true rfl), (Nat.le_of_ble_eq_true rfl)⟩ w_3_46 [] [0, 1, 2] rfl rfl rfl rfl (by decide) (Nat.le_of_ble_eq_true rfl) (Nat.le_of_ble_eq_true rfl) (Nat.le_of_ble_eq_true rfl) (fun r w hp => ?_) (fun _ _ _ z => z.elim)
                  rcases hp with ⟨rfl, rfl, r4999⟩ | ⟨rfl, rfl, r5000, r5001⟩ | ⟨rfl, rfl, r5002, r5003⟩
                  · exact absurd (show False by omega) not_false
                  · exact absurd (show False by omega) not_false
                  · change G _ _ _ _ _ _ _ (.int 1 :: _) _ _ _
                    refine G_ws (ws' := [(q4654, .inr (14, [.ref q4655, .int p4657, .int 0, .int o4910, .int p4660])), (q4655, .inr (15, [.ref q4656, .int p4661])), (q4656, .inl (I .byte, 8192, .inl f4662))]) (cs' := 0) (sl' := 0) rfl rfl rfl ?_
                    refine G_if_eq 188 d_cX9_advance_178 (by decide +kernel) (fun hc => absurd hc (by decide)) (fun _ => ?_)
                    refine G_aload_n 3 d_cX9_advance_181 rfl ?_
                    refine G_callV (As := []) (wr := []) (gV_ok D I) (ct_3801_Signs_takeWord l hl0 D I q4654 q4655 q4656 p4657 0 o4910 p4660 p4661 f4662 (gB_w bp4661' (by decide) (by decide)) bf4662 (by have qa0 : Int32.toInt (-1) = (-1) := (by decide); have qa1 : Int32.toInt 0 = 0 := (by decide); omega)) d_cX9_advance_182 ⟨w_3_48, w_1_4, w_3_51, by decide, rfl, (Nat.le_of_ble_eq_true rfl), (Nat.le_of_ble_eq_true rfl)⟩ w_3_50 w_p_4 0 rfl rfl [0, 1, 2] [] rfl rfl rfl rfl (by decide) (Nat.le_of_ble_eq_true rfl) (Nat.le_of_ble_eq_true rfl) (Nat.le_of_ble_eq_true rfl) (fun r w hp => ?_) (fun _ _ _ z => z.elim)
                    obtain ⟨o5004, o5005, rfl, rfl, bo5004, bo5005, x5006⟩ := hp
                    rw [show Int32.toInt 0 = 0 from by decide] at x5006
                    change G _ _ _ _ _ _ _ _ _ _ _
                    refine G_ws (ws' := [(q4654, .inr (14, [.ref q4655, .int o5004, .int 0, .int o4910, .int o5005])), (q4655, .inr (15, [.ref q4656, .int p4661])), (q4656, .inl (I .byte, 8192, .inl f4662))]) (cs' := 0) (sl' := 0) rfl rfl rfl ?_
                    refine G_goto 194 d_cX9_advance_185 (by decide +kernel) ?_
                    exact G_vret d_cX9_advance_194 rfl (Nat.le_of_ble_eq_true rfl) (Nat.le_of_ble_eq_true rfl) ⟨o5004, 0, o4910, o5005, rfl, rfl, bo5004, (gB_w (gBl (show Int32.toInt 0 = 0 by decide)) (by decide) (by decide)), (gB_w bo4910'' (by decide) (by decide)), bo5005, (by have qa0 : Int32.toInt (-1) = (-1) := (by decide); have qa1 : Int32.toInt 0 = 0 := (by decide); omega)⟩
                · rw [show Int32.toInt (-1) = (-1) from by decide] at r4995
                  exact absurd (show False by omega) not_false
                · rw [show Int32.toInt (-1) = (-1) from by decide] at r4997
                  exact absurd (show False by omega) not_false
            · have r5007 : z4914.toInt = 118 := gj_eq hc4973 (show Int32.toInt 118 = 118 by decide)
              have r4917''' : gB z4914 118 118 := ⟨by omega, by omega⟩
              refine G_iload_n 0 d_cX9_advance_134 rfl ?_
              refine G_callS (As := [.int (-1)]) (wr := [(q4654, .inr (14, [.ref q4655, .int p4657, .int 0, .int o4910, .int p4660])), (q4655, .inr (15, [.ref q4656, .int p4661])), (q4656, .inl (I .byte, 8192, .inl f4662))]) (gV_ok D I) (ct_300_Signs_isDigit l hl0 D I (-1) ) d_cX9_advance_135 ⟨w_3_24, w_1_4, w_3_26, by decide, rfl, (Nat.le_of_ble_eq_true rfl), (Nat.le_of_ble_eq_true rfl)⟩ w_3_25 [] [0, 1, 2] rfl rfl rfl rfl (by decide) (Nat.le_of_ble_eq_true rfl) (Nat.le_of_ble_eq_true rfl) (Nat.le_of_ble_eq_true rfl) (fun r w hp => ?_) (fun _ _ _ z => z.elim)
              rcases hp with ⟨rfl, rfl, r5008⟩ | ⟨rfl, rfl, r5009, r5010⟩ | ⟨rfl, rfl, r5011, r5012⟩
              · rw [show Int32.toInt (-1) = (-1) from by decide] at r5008
                change G _ _ _ _ _ _ _ (.int 0 :: _) _ _ _
                refine G_ws (ws' := [(q4654, .inr (14, [.ref q4655, .int p4657, .int 0, .int o4910, .int p4660])), (q4655, .inr (15, [.ref q4656, .int p4661])), (q4656, .inl (I .byte, 8192, .inl f4662))]) (cs' := 0) (sl' := 0) rfl rfl rfl ?_
                refine G_if_eq 151 d_cX9_advance_138 (by decide +kernel) (fun _ => ?_) (fun hc => absurd hc (by decide))
                refine G_iload_n 1 d_cX9_advance_151 rfl ?_
                refine G_bipush 98 d_cX9_advance_152 (by decide +kernel) ?_
                refine G_icmp_ne 174 d_cX9_advance_154 (by decide +kernel) (fun _ => ?_) (fun hc => absurd (show False by have := gj_eq hc (show Int32.toInt 98 = 98 by decide); omega) not_false)
                refine G_iload_n 1 d_cX9_advance_174 rfl ?_
                refine G_callS (As := [.int z4914]) (wr := [(q4654, .inr (14, [.ref q4655, .int p4657, .int 0, .int o4910, .int p4660])), (q4655, .inr (15, [.ref q4656, .int p4661])), (q4656, .inl (I .byte, 8192, .inl f4662))]) (gV_ok D I) (ct_308_Signs_isLetter l hl0 D I z4914 ) d_cX9_advance_175 ⟨w_3_45, w_1_4, w_3_47, by decide, rfl, (Nat.le_of_ble_eq_true rfl), (Nat.le_of_ble_eq_true rfl)⟩ w_3_46 [] [0, 1, 2] rfl rfl rfl rfl (by decide) (Nat.le_of_ble_eq_true rfl) (Nat.le_of_ble_eq_true rfl) (Nat.le_of_ble_eq_true rfl) (fun r w hp => ?_) (fun _ _ _ z => z.elim)
                rcases hp with ⟨rfl, rfl, r5013⟩ | ⟨rfl, rfl, r5014, r5015⟩ | ⟨rfl, rfl, r5016, r5017⟩
                · exact absurd (show False by omega) not_false
                · exact absurd (show False by omega) not_false
                · change G _ _ _ _ _ _ _ (.int 1 :: _) _ _ _
                  refine G_ws (ws' := [(q4654, .inr (14, [.ref q4655, .int p4657, .int 0, .int o4910, .int p4660])), (q4655, .inr (15, [.ref q4656, .int p4661])), (q4656, .inl (I .byte, 8192, .inl f4662))]) (cs' := 0) (sl' := 0) rfl rfl rfl ?_
                  refine G_if_eq 188 d_cX9_advance_178 (by decide +kernel) (fun hc => absurd hc (by decide)) (fun _ => ?_)
                  refine G_aload_n 3 d_cX9_advance_181 rfl ?_
                  refine G_callV (As := []) (wr := []) (gV_ok D I) (ct_3801_Signs_takeWord l hl0 D I q4654 q4655 q4656 p4657 0 o4910 p4660 p4661 f4662 (gB_w bp4661' (by decide) (by decide)) bf4662 (by have qa0 : Int32.toInt (-1) = (-1) := (by decide); have qa1 : Int32.toInt 0 = 0 := (by decide); omega)) d_cX9_advance_182 ⟨w_3_48, w_1_4, w_3_51, by decide, rfl, (Nat.le_of_ble_eq_true rfl), (Nat.le_of_ble_eq_true rfl)⟩ w_3_50 w_p_4 0 rfl rfl [0, 1, 2] [] rfl rfl rfl rfl (by decide) (Nat.le_of_ble_eq_true rfl) (Nat.le_of_ble_eq_true rfl) (Nat.le_of_ble_eq_true rfl) (fun r w hp => ?_) (fun _ _ _ z => z.elim)
                  obtain ⟨o5018, o5019, rfl, rfl, bo5018, bo5019, x5020⟩ := hp
                  rw [show Int32.toInt 0 = 0 from by decide] at x5020
                  change G _ _ _ _ _ _ _ _ _ _ _
                  refine G_ws (ws' := [(q4654, .inr (14, [.ref q4655, .int o5018, .int 0, .int o4910, .int o5019])), (q4655, .inr (15, [.ref q4656, .int p4661])), (q4656, .inl (I .byte, 8192, .inl f4662))]) (cs' := 0) (sl' := 0) rfl rfl rfl ?_
                  refine G_goto 194 d_cX9_advance_185 (by decide +kernel) ?_
                  exact G_vret d_cX9_advance_194 rfl (Nat.le_of_ble_eq_true rfl) (Nat.le_of_ble_eq_true rfl) ⟨o5018, 0, o4910, o5019, rfl, rfl, bo5018, (gB_w (gBl (show Int32.toInt 0 = 0 by decide)) (by decide) (by decide)), (gB_w bo4910'' (by decide) (by decide)), bo5019, (by have qa0 : Int32.toInt (-1) = (-1) := (by decide); have qa1 : Int32.toInt 0 = 0 := (by decide); omega)⟩
              · rw [show Int32.toInt (-1) = (-1) from by decide] at r5009
                exact absurd (show False by omega) not_false
              · rw [show Int32.toInt (-1) = (-1) from by decide] at r5011
                exact absurd (show False by omega) not_false
          · have r4917' : gB z4914 48 255 := ⟨by omega, by omega⟩
            have r4917'' : gB z4914 48 57 := ⟨by omega, by omega⟩
            change G _ _ _ _ _ _ _ (.int 1 :: _) _ _ _
            refine G_ws (ws' := [(q4654, .inr (14, [.ref q4655, .int p4657, .int 0, .int o4910, .int p4660])), (q4655, .inr (15, [.ref q4656, .int p4661])), (q4656, .inl (I .byte, 8192, .inl f4662))]) (cs' := 0) (sl' := 0) rfl rfl rfl ?_
            refine G_if_ne 110 d_cX9_advance_90 (by decide +kernel) (fun _ => ?_) (fun hc => absurd hc (by decide))
            refine G_aload_n 3 d_cX9_advance_110 rfl ?_
            refine G_iload_n 1 d_cX9_advance_111 rfl ?_
            refine G_bipush 45 d_cX9_advance_112 (by decide +kernel) ?_
            refine G_icmp_ne 121 d_cX9_advance_114 (by decide +kernel) (fun _ => ?_) (fun hc => absurd (show False by have := gj_eq hc (show Int32.toInt 45 = 45 by decide); omega) not_false)
            refine G_iconst 0 d_cX9_advance_121 (by decide +kernel) ?_
            refine G_callV (As := [.int 0]) (wr := []) (gV_ok D I) (ct_624_Signs_takeNumber l hl0 D I q4654 q4655 q4656 0 p4657 0 o4910 p4660 p4661 f4662 (gB_w (gBl (show Int32.toInt 0 = 0 by decide)) (by decide) (by decide)) (gB_w bp4661' (by decide) (by decide)) bf4662 (by have qa0 : Int32.toInt (-1) = (-1) := (by decide); have qa1 : Int32.toInt 0 = 0 := (by decide); omega)) d_cX9_advance_122 ⟨w_3_27, w_1_4, w_3_30, by decide, rfl, (Nat.le_of_ble_eq_true rfl), (Nat.le_of_ble_eq_true rfl)⟩ w_3_29 w_p_1 0 rfl rfl [0, 1, 2] [] rfl rfl rfl rfl (by decide) (Nat.le_of_ble_eq_true rfl) (Nat.le_of_ble_eq_true rfl) (Nat.le_of_ble_eq_true rfl) (fun r w hp => ?_) (fun _ _ _ z => z.elim)
            obtain ⟨o5021, o5022, o5023, rfl, rfl, bo5021, bo5022, bo5023, x5024⟩ := hp
            change G _ _ _ _ _ _ _ _ _ _ _
            refine G_ws (ws' := [(q4654, .inr (14, [.ref q4655, .int o5021, .int o5022, .int o4910, .int o5023])), (q4655, .inr (15, [.ref q4656, .int p4661])), (q4656, .inl (I .byte, 8192, .inl f4662))]) (cs' := 0) (sl' := 0) rfl rfl rfl ?_
            refine G_goto 194 d_cX9_advance_125 (by decide +kernel) ?_
            exact G_vret d_cX9_advance_194 rfl (Nat.le_of_ble_eq_true rfl) (Nat.le_of_ble_eq_true rfl) ⟨o5021, o5022, o4910, o5023, rfl, rfl, (gB_w bo5021 (by decide) (by decide)), bo5022, (gB_w bo4910'' (by decide) (by decide)), bo5023, (by have qa0 : Int32.toInt (-1) = (-1) := (by decide); have qa1 : Int32.toInt 0 = 0 := (by decide); omega)⟩
        · have bz4934' : gB z4934 1 8191 := ⟨by omega, by omega⟩
          have bp4661'' : gB p4661 2 8192 := ⟨by omega, by omega⟩
          change G _ _ _ _ _ _ _ (.int z4938 :: _) _ _ _
          refine G_ws (ws' := [(q4654, .inr (14, [.ref q4655, .int p4657, .int p4658, .int o4910, .int p4660])), (q4655, .inr (15, [.ref q4656, .int p4661])), (q4656, .inl (I .byte, 8192, .inl f4662))]) (cs' := 0) (sl' := 0) rfl rfl rfl ?_
          refine G_istore_n (L' := [(3, .int z4938), (2, .int z4914), (1, .int 0), (0, .ref q4654)]) d_cX9_advance_59 (Nat.le_of_ble_eq_true rfl) rfl ?_
          refine G_aload_n 3 d_cX9_advance_60 rfl ?_
          refine G_iconst 0 d_cX9_advance_61 (by decide +kernel) ?_
          refine G_putf (ws' := [(q4654, .inr (14, [.ref q4655, .int p4657, .int 0, .int o4910, .int p4660])), (q4655, .inr (15, [.ref q4656, .int p4661])), (q4656, .inl (I .byte, 8192, .inl f4662))]) 0 2 d_cX9_advance_62 rfl (gk_X9 D I) (Nat.le_of_ble_eq_true rfl) w_1_81 rfl rfl rfl (Nat.le_of_ble_eq_true rfl) rfl ?_
          refine G_iload_n 1 d_cX9_advance_65 rfl ?_
          refine G_iconst (-1) d_cX9_advance_66 (by decide +kernel) ?_
          refine G_icmp_ne 86 d_cX9_advance_67 (by decide +kernel) (fun _ => ?_) (fun hc => absurd (show False by have := gj_eq hc (show Int32.toInt (-1) = (-1) by decide); omega) not_false)
          refine G_iload_n 1 d_cX9_advance_86 rfl ?_
          refine G_callS (As := [.int z4914]) (wr := [(q4654, .inr (14, [.ref q4655, .int p4657, .int 0, .int o4910, .int p4660])), (q4655, .inr (15, [.ref q4656, .int p4661])), (q4656, .inl (I .byte, 8192, .inl f4662))]) (gV_ok D I) (ct_300_Signs_isDigit l hl0 D I z4914 ) d_cX9_advance_87 ⟨w_3_24, w_1_4, w_3_26, by decide, rfl, (Nat.le_of_ble_eq_true rfl), (Nat.le_of_ble_eq_true rfl)⟩ w_3_25 [] [0, 1, 2] rfl rfl rfl rfl (by decide) (Nat.le_of_ble_eq_true rfl) (Nat.le_of_ble_eq_true rfl) (Nat.le_of_ble_eq_true rfl) (fun r w hp => ?_) (fun _ _ _ z => z.elim)
          rcases hp with ⟨rfl, rfl, r5025⟩ | ⟨rfl, rfl, r5026, r5027⟩ | ⟨rfl, rfl, r5028, r5029⟩
          · have r4917' : gB z4914 0 47 := ⟨by omega, by omega⟩
            change G _ _ _ _ _ _ _ (.int 0 :: _) _ _ _
            refine G_ws (ws' := [(q4654, .inr (14, [.ref q4655, .int p4657, .int 0, .int o4910, .int p4660])), (q4655, .inr (15, [.ref q4656, .int p4661])), (q4656, .inl (I .byte, 8192, .inl f4662))]) (cs' := 0) (sl' := 0) rfl rfl rfl ?_
            refine G_if_ne 110 d_cX9_advance_90 (by decide +kernel) (fun hc => absurd hc (by decide)) (fun _ => ?_)
            refine G_iload_n 1 d_cX9_advance_93 rfl ?_
            refine G_bipush 45 d_cX9_advance_94 (by decide +kernel) ?_
            refine G_icmp_ne 128 d_cX9_advance_96 (by decide +kernel) (fun hc5030 => ?_) (fun hc5030 => ?_)
            · have r5031 : z4914.toInt ≠ 45 := gj_neq hc5030 (show Int32.toInt 45 = 45 by decide)
              refine G_iload_n 1 d_cX9_advance_128 rfl ?_
              refine G_bipush 118 d_cX9_advance_129 (by decide +kernel) ?_
              refine G_icmp_ne 151 d_cX9_advance_131 (by decide +kernel) (fun _ => ?_) (fun hc => absurd (show False by have := gj_eq hc (show Int32.toInt 118 = 118 by decide); omega) not_false)
              refine G_iload_n 1 d_cX9_advance_151 rfl ?_
              refine G_bipush 98 d_cX9_advance_152 (by decide +kernel) ?_
              refine G_icmp_ne 174 d_cX9_advance_154 (by decide +kernel) (fun _ => ?_) (fun hc => absurd (show False by have := gj_eq hc (show Int32.toInt 98 = 98 by decide); omega) not_false)
              refine G_iload_n 1 d_cX9_advance_174 rfl ?_
              refine G_callS (As := [.int z4914]) (wr := [(q4654, .inr (14, [.ref q4655, .int p4657, .int 0, .int o4910, .int p4660])), (q4655, .inr (15, [.ref q4656, .int p4661])), (q4656, .inl (I .byte, 8192, .inl f4662))]) (gV_ok D I) (ct_308_Signs_isLetter l hl0 D I z4914 ) d_cX9_advance_175 ⟨w_3_45, w_1_4, w_3_47, by decide, rfl, (Nat.le_of_ble_eq_true rfl), (Nat.le_of_ble_eq_true rfl)⟩ w_3_46 [] [0, 1, 2] rfl rfl rfl rfl (by decide) (Nat.le_of_ble_eq_true rfl) (Nat.le_of_ble_eq_true rfl) (Nat.le_of_ble_eq_true rfl) (fun r w hp => ?_) (fun _ _ _ z => z.elim)
              rcases hp with ⟨rfl, rfl, r5032⟩ | ⟨rfl, rfl, r5033, r5034⟩ | ⟨rfl, rfl, r5035, r5036⟩
              · change G _ _ _ _ _ _ _ (.int 0 :: _) _ _ _
                refine G_ws (ws' := [(q4654, .inr (14, [.ref q4655, .int p4657, .int 0, .int o4910, .int p4660])), (q4655, .inr (15, [.ref q4656, .int p4661])), (q4656, .inl (I .byte, 8192, .inl f4662))]) (cs' := 0) (sl' := 0) rfl rfl rfl ?_
                refine G_if_eq 188 d_cX9_advance_178 (by decide +kernel) (fun _ => ?_) (fun hc => absurd hc (by decide))
                refine G_aload_n 3 d_cX9_advance_188 rfl ?_
                refine G_iload_n 1 d_cX9_advance_189 rfl ?_
                refine G_iload_n 0 d_cX9_advance_190 rfl ?_
                refine G_callV (As := [.int z4914, .int z4938]) (wr := []) (gV_ok D I) (ct_4620_Signs_takeMark l hl0 D I q4654 q4655 q4656 z4914 z4938 p4657 0 o4910 p4660 p4661 f4662 (gB_w bp4661'' (by decide) (by decide)) bf4662 (by have qa0 : Int32.toInt 0 = 0 := (by decide); omega)) d_cX9_advance_191 ⟨w_3_109, w_1_4, w_3_112, by decide, rfl, (Nat.le_of_ble_eq_true rfl), (Nat.le_of_ble_eq_true rfl)⟩ w_3_111 w_p_6 0 rfl rfl [0, 1, 2] [] rfl rfl rfl rfl (by decide) (Nat.le_of_ble_eq_true rfl) (Nat.le_of_ble_eq_true rfl) (Nat.le_of_ble_eq_true rfl) (fun r w hp => ?_) (fun _ _ _ z => z.elim)
                obtain ⟨o5037, o5038, o5039, rfl, rfl, bo5037, bo5038, bo5039, x5040⟩ := hp
                change G _ _ _ _ _ _ _ _ _ _ _
                refine G_ws (ws' := [(q4654, .inr (14, [.ref q4655, .int o5037, .int o5038, .int o4910, .int o5039])), (q4655, .inr (15, [.ref q4656, .int p4661])), (q4656, .inl (I .byte, 8192, .inl f4662))]) (cs' := 0) (sl' := 0) rfl rfl rfl ?_
                exact G_vret d_cX9_advance_194 rfl (Nat.le_of_ble_eq_true rfl) (Nat.le_of_ble_eq_true rfl) ⟨o5037, o5038, o4910, o5039, rfl, rfl, (gB_w bo5037 (by decide) (by decide)), (gB_w bo5038 (by decide) (by decide)), (gB_w bo4910'' (by decide) (by decide)), bo5039, (by have qa0 : Int32.toInt 0 = 0 := (by decide); omega)⟩
              · exact absurd (show False by omega) not_false
              · exact absurd (show False by omega) not_false
            · have r5041 : z4914.toInt = 45 := gj_eq hc5030 (show Int32.toInt 45 = 45 by decide)
              have r4917'' : gB z4914 45 45 := ⟨by omega, by omega⟩
              refine G_iload_n 0 d_cX9_advance_99 rfl ?_
              refine G_callS (As := [.int z4938]) (wr := [(q4654, .inr (14, [.ref q4655, .int p4657, .int 0, .int o4910, .int p4660])), (q4655, .inr (15, [.ref q4656, .int p4661])), (q4656, .inl (I .byte, 8192, .inl f4662))]) (gV_ok D I) (ct_300_Signs_isDigit l hl0 D I z4938 ) d_cX9_advance_100 ⟨w_3_24, w_1_4, w_3_26, by decide, rfl, (Nat.le_of_ble_eq_true rfl), (Nat.le_of_ble_eq_true rfl)⟩ w_3_25 [] [0, 1, 2] rfl rfl rfl rfl (by decide) (Nat.le_of_ble_eq_true rfl) (Nat.le_of_ble_eq_true rfl) (Nat.le_of_ble_eq_true rfl) (fun r w hp => ?_) (fun _ _ _ z => z.elim)
              rcases hp with ⟨rfl, rfl, r5042⟩ | ⟨rfl, rfl, r5043, r5044⟩ | ⟨rfl, rfl, r5045, r5046⟩
              · have r4941' : gB z4938 0 47 := ⟨by omega, by omega⟩
                change G _ _ _ _ _ _ _ (.int 0 :: _) _ _ _
                refine G_ws (ws' := [(q4654, .inr (14, [.ref q4655, .int p4657, .int 0, .int o4910, .int p4660])), (q4655, .inr (15, [.ref q4656, .int p4661])), (q4656, .inl (I .byte, 8192, .inl f4662))]) (cs' := 0) (sl' := 0) rfl rfl rfl ?_
                refine G_if_eq 128 d_cX9_advance_103 (by decide +kernel) (fun _ => ?_) (fun hc => absurd hc (by decide))
                refine G_iload_n 1 d_cX9_advance_128 rfl ?_
                refine G_bipush 118 d_cX9_advance_129 (by decide +kernel) ?_
                refine G_icmp_ne 151 d_cX9_advance_131 (by decide +kernel) (fun _ => ?_) (fun hc => absurd (show False by have := gj_eq hc (show Int32.toInt 118 = 118 by decide); omega) not_false)
                refine G_iload_n 1 d_cX9_advance_151 rfl ?_
                refine G_bipush 98 d_cX9_advance_152 (by decide +kernel) ?_
                refine G_icmp_ne 174 d_cX9_advance_154 (by decide +kernel) (fun _ => ?_) (fun hc => absurd (show False by have := gj_eq hc (show Int32.toInt 98 = 98 by decide); omega) not_false)
                refine G_iload_n 1 d_cX9_advance_174 rfl ?_
                refine G_callS (As := [.int z4914]) (wr := [(q4654, .inr (14, [.ref q4655, .int p4657, .int 0, .int o4910, .int p4660])), (q4655, .inr (15, [.ref q4656, .int p4661])), (q4656, .inl (I .byte, 8192, .inl f4662))]) (gV_ok D I) (ct_308_Signs_isLetter l hl0 D I z4914 ) d_cX9_advance_175 ⟨w_3_45, w_1_4, w_3_47, by decide, rfl, (Nat.le_of_ble_eq_true rfl), (Nat.le_of_ble_eq_true rfl)⟩ w_3_46 [] [0, 1, 2] rfl rfl rfl rfl (by decide) (Nat.le_of_ble_eq_true rfl) (Nat.le_of_ble_eq_true rfl) (Nat.le_of_ble_eq_true rfl) (fun r w hp => ?_) (fun _ _ _ z => z.elim)
                rcases hp with ⟨rfl, rfl, r5047⟩ | ⟨rfl, rfl, r5048, r5049⟩ | ⟨rfl, rfl, r5050, r5051⟩
                · change G _ _ _ _ _ _ _ (.int 0 :: _) _ _ _
                  refine G_ws (ws' := [(q4654, .inr (14, [.ref q4655, .int p4657, .int 0, .int o4910, .int p4660])), (q4655, .inr (15, [.ref q4656, .int p4661])), (q4656, .inl (I .byte, 8192, .inl f4662))]) (cs' := 0) (sl' := 0) rfl rfl rfl ?_
                  refine G_if_eq 188 d_cX9_advance_178 (by decide +kernel) (fun _ => ?_) (fun hc => absurd hc (by decide))
                  refine G_aload_n 3 d_cX9_advance_188 rfl ?_
                  refine G_iload_n 1 d_cX9_advance_189 rfl ?_
                  refine G_iload_n 0 d_cX9_advance_190 rfl ?_
                  refine G_callV (As := [.int z4914, .int z4938]) (wr := []) (gV_ok D I) (ct_4620_Signs_takeMark l hl0 D I q4654 q4655 q4656 z4914 z4938 p4657 0 o4910 p4660 p4661 f4662 (gB_w bp4661'' (by decide) (by decide)) bf4662 (by have qa0 : Int32.toInt 0 = 0 := (by decide); omega)) d_cX9_advance_191 ⟨w_3_109, w_1_4, w_3_112, by decide, rfl, (Nat.le_of_ble_eq_true rfl), (Nat.le_of_ble_eq_true rfl)⟩ w_3_111 w_p_6 0 rfl rfl [0, 1, 2] [] rfl rfl rfl rfl (by decide) (Nat.le_of_ble_eq_true rfl) (Nat.le_of_ble_eq_true rfl) (Nat.le_of_ble_eq_true rfl) (fun r w hp => ?_) (fun _ _ _ z => z.elim)
                  obtain ⟨o5052, o5053, o5054, rfl, rfl, bo5052, bo5053, bo5054, x5055⟩ := hp
                  change G _ _ _ _ _ _ _ _ _ _ _
                  refine G_ws (ws' := [(q4654, .inr (14, [.ref q4655, .int o5052, .int o5053, .int o4910, .int o5054])), (q4655, .inr (15, [.ref q4656, .int p4661])), (q4656, .inl (I .byte, 8192, .inl f4662))]) (cs' := 0) (sl' := 0) rfl rfl rfl ?_
                  exact G_vret d_cX9_advance_194 rfl (Nat.le_of_ble_eq_true rfl) (Nat.le_of_ble_eq_true rfl) ⟨o5052, o5053, o4910, o5054, rfl, rfl, (gB_w bo5052 (by decide) (by decide)), (gB_w bo5053 (by decide) (by decide)), (gB_w bo4910'' (by decide) (by decide)), bo5054, (by have qa0 : Int32.toInt 0 = 0 := (by decide); omega)⟩
                · exact absurd (show False by omega) not_false
                · exact absurd (show False by omega) not_false
              · have r4941' : gB z4938 48 255 := ⟨by omega, by omega⟩
                have r4941'' : gB z4938 58 255 := ⟨by omega, by omega⟩
                change G _ _ _ _ _ _ _ (.int 0 :: _) _ _ _
                refine G_ws (ws' := [(q4654, .inr (14, [.ref q4655, .int p4657, .int 0, .int o4910, .int p4660])), (q4655, .inr (15, [.ref q4656, .int p4661])), (q4656, .inl (I .byte, 8192, .inl f4662))]) (cs' := 0) (sl' := 0) rfl rfl rfl ?_
                refine G_if_eq 128 d_cX9_advance_103 (by decide +kernel) (fun _ => ?_) (fun hc => absurd hc (by decide))
                refine G_iload_n 1 d_cX9_advance_128 rfl ?_
                refine G_bipush 118 d_cX9_advance_129 (by decide +kernel) ?_
                refine G_icmp_ne 151 d_cX9_advance_131 (by decide +kernel) (fun _ => ?_) (fun hc => absurd (show False by have := gj_eq hc (show Int32.toInt 118 = 118 by decide); omega) not_false)
                refine G_iload_n 1 d_cX9_advance_151 rfl ?_
                refine G_bipush 98 d_cX9_advance_152 (by decide +kernel) ?_
                refine G_icmp_ne 174 d_cX9_advance_154 (by decide +kernel) (fun _ => ?_) (fun hc => absurd (show False by have := gj_eq hc (show Int32.toInt 98 = 98 by decide); omega) not_false)
                refine G_iload_n 1 d_cX9_advance_174 rfl ?_
                refine G_callS (As := [.int z4914]) (wr := [(q4654, .inr (14, [.ref q4655, .int p4657, .int 0, .int o4910, .int p4660])), (q4655, .inr (15, [.ref q4656, .int p4661])), (q4656, .inl (I .byte, 8192, .inl f4662))]) (gV_ok D I) (ct_308_Signs_isLetter l hl0 D I z4914 ) d_cX9_advance_175 ⟨w_3_45, w_1_4, w_3_47, by decide, rfl, (Nat.le_of_ble_eq_true rfl), (Nat.le_of_ble_eq_true rfl)⟩ w_3_46 [] [0, 1, 2] rfl rfl rfl rfl (by decide) (Nat.le_of_ble_eq_true rfl) (Nat.le_of_ble_eq_true rfl) (Nat.le_of_ble_eq_true rfl) (fun r w hp => ?_) (fun _ _ _ z => z.elim)
                rcases hp with ⟨rfl, rfl, r5056⟩ | ⟨rfl, rfl, r5057, r5058⟩ | ⟨rfl, rfl, r5059, r5060⟩
                · change G _ _ _ _ _ _ _ (.int 0 :: _) _ _ _
                  refine G_ws (ws' := [(q4654, .inr (14, [.ref q4655, .int p4657, .int 0, .int o4910, .int p4660])), (q4655, .inr (15, [.ref q4656, .int p4661])), (q4656, .inl (I .byte, 8192, .inl f4662))]) (cs' := 0) (sl' := 0) rfl rfl rfl ?_
                  refine G_if_eq 188 d_cX9_advance_178 (by decide +kernel) (fun _ => ?_) (fun hc => absurd hc (by decide))
                  refine G_aload_n 3 d_cX9_advance_188 rfl ?_
                  refine G_iload_n 1 d_cX9_advance_189 rfl ?_
                  refine G_iload_n 0 d_cX9_advance_190 rfl ?_
                  refine G_callV (As := [.int z4914, .int z4938]) (wr := []) (gV_ok D I) (ct_4620_Signs_takeMark l hl0 D I q4654 q4655 q4656 z4914 z4938 p4657 0 o4910 p4660 p4661 f4662 (gB_w bp4661'' (by decide) (by decide)) bf4662 (by have qa0 : Int32.toInt 0 = 0 := (by decide); omega)) d_cX9_advance_191 ⟨w_3_109, w_1_4, w_3_112, by decide, rfl, (Nat.le_of_ble_eq_true rfl), (Nat.le_of_ble_eq_true rfl)⟩ w_3_111 w_p_6 0 rfl rfl [0, 1, 2] [] rfl rfl rfl rfl (by decide) (Nat.le_of_ble_eq_true rfl) (Nat.le_of_ble_eq_true rfl) (Nat.le_of_ble_eq_true rfl) (fun r w hp => ?_) (fun _ _ _ z => z.elim)
                  obtain ⟨o5061, o5062, o5063, rfl, rfl, bo5061, bo5062, bo5063, x5064⟩ := hp
                  change G _ _ _ _ _ _ _ _ _ _ _
                  refine G_ws (ws' := [(q4654, .inr (14, [.ref q4655, .int o5061, .int o5062, .int o4910, .int o5063])), (q4655, .inr (15, [.ref q4656, .int p4661])), (q4656, .inl (I .byte, 8192, .inl f4662))]) (cs' := 0) (sl' := 0) rfl rfl rfl ?_
                  exact G_vret d_cX9_advance_194 rfl (Nat.le_of_ble_eq_true rfl) (Nat.le_of_ble_eq_true rfl) ⟨o5061, o5062, o4910, o5063, rfl, rfl, (gB_w bo5061 (by decide) (by decide)), (gB_w bo5062 (by decide) (by decide)), (gB_w bo4910'' (by decide) (by decide)), bo5063, (by have qa0 : Int32.toInt 0 = 0 := (by decide); omega)⟩
                · exact absurd (show False by omega) not_false
                · exact absurd (show False by omega) not_false
              · have r4941' : gB z4938 48 255 := ⟨by omega, by omega⟩
                have r4941'' : gB z4938 48 57 := ⟨by omega, by omega⟩
                change G _ _ _ _ _ _ _ (.int 1 :: _) _ _ _
                refine G_ws (ws' := [(q4654, .inr (14, [.ref q4655, .int p4657, .int 0, .int o4910, .int p4660])), (q4655, .inr (15, [.ref q4656, .int p4661])), (q4656, .inl (I .byte, 8192, .inl f4662))]) (cs' := 0) (sl' := 0) rfl rfl rfl ?_
                refine G_if_eq 128 d_cX9_advance_103 (by decide +kernel) (fun hc => absurd hc (by decide)) (fun _ => ?_)
                refine G_iload_n 2 d_cX9_advance_106 rfl ?_
                refine G_if_ne 128 d_cX9_advance_107 (by decide +kernel) (fun hc => absurd hc (by decide)) (fun _ => ?_)
                refine G_aload_n 3 d_cX9_advance_110 rfl ?_
                refine G_iload_n 1 d_cX9_advance_111 rfl ?_
                refine G_bipush 45 d_cX9_advance_112 (by decide +kernel) ?_
                refine G_icmp_ne 121 d_cX9_advance_114 (by decide +kernel) (fun hc => absurd (show False by have := gj_neq hc (show Int32.toInt 45 = 45 by decide); omega) not_false) (fun _ => ?_)
                refine G_iconst 1 d_cX9_advance_117 (by decide +kernel) ?_
                refine G_goto 122 d_cX9_advance_118 (by decide +kernel) ?_
                refine G_callV (As := [.int 1]) (wr := []) (gV_ok D I) (ct_624_Signs_takeNumber l hl0 D I q4654 q4655 q4656 1 p4657 0 o4910 p4660 p4661 f4662 (gB_w (gBl (show Int32.toInt 1 = 1 by decide)) (by decide) (by decide)) (gB_w bp4661'' (by decide) (by decide)) bf4662 (by have qa0 : Int32.toInt 0 = 0 := (by decide); have qa1 : Int32.toInt 1 = 1 := (by decide); omega)) d_cX9_advance_122 ⟨w_3_27, w_1_4, w_3_30, by decide, rfl, (Nat.le_of_ble_eq_true rfl), (Nat.le_of_ble_eq_true rfl)⟩ w_3_29 w_p_1 0 rfl rfl [0, 1, 2] [] rfl rfl rfl rfl (by decide) (Nat.le_of_ble_eq_true rfl) (Nat.le_of_ble_eq_true rfl) (Nat.le_of_ble_eq_true rfl) (fun r w hp => ?_) (fun _ _ _ z => z.elim)
                obtain ⟨o5065, o5066, o5067, rfl, rfl, bo5065, bo5066, bo5067, x5068⟩ := hp
                change G _ _ _ _ _ _ _ _ _ _ _
                refine G_ws (ws' := [(q4654, .inr (14, [.ref q4655, .int o5065, .int o5066, .int o4910, .int o5067])), (q4655, .inr (15, [.ref q4656, .int p4661])), (q4656, .inl (I .byte, 8192, .inl f4662))]) (cs' := 0) (sl' := 0) rfl rfl rfl ?_
                refine G_goto 194 d_cX9_advance_125 (by decide +kernel) ?_
                exact G_vret d_cX9_advance_194 rfl (Nat.le_of_ble_eq_true rfl) (Nat.le_of_ble_eq_true rfl) ⟨o5065, o5066, o4910, o5067, rfl, rfl, (gB_w bo5065 (by decide) (by decide)), bo5066, (gB_w bo4910'' (by decide) (by decide)), bo5067, (by have qa0 : Int32.toInt 0 = 0 := (by decide); omega)⟩
          · have r4917' : gB z4914 48 255 := ⟨by omega, by omega⟩
            have r4917'' : gB z4914 58 255 := ⟨by omega, by omega⟩
            change G _ _ _ _ _ _ _ (.int 0 :: _) _ _ _
            refine G_ws (ws' := [(q4654, .inr (14, [.ref q4655, .int p4657, .int 0, .int o4910, .int p4660])), (q4655, .inr (15, [.ref q4656, .int p4661])), (q4656, .inl (I .byte, 8192, .inl f4662))]) (cs' := 0) (sl' := 0) rfl rfl rfl ?_
            refine G_if_ne 110 d_cX9_advance_90 (by decide +kernel) (fun hc => absurd hc (by decide)) (fun _ => ?_)
            refine G_iload_n 1 d_cX9_advance_93 rfl ?_
            refine G_bipush 45 d_cX9_advance_94 (by decide +kernel) ?_
            refine G_icmp_ne 128 d_cX9_advance_96 (by decide +kernel) (fun _ => ?_) (fun hc => absurd (show False by have := gj_eq hc (show Int32.toInt 45 = 45 by decide); omega) not_false)
            refine G_iload_n 1 d_cX9_advance_128 rfl ?_
            refine G_bipush 118 d_cX9_advance_129 (by decide +kernel) ?_
            refine G_icmp_ne 151 d_cX9_advance_131 (by decide +kernel) (fun hc5069 => ?_) (fun hc5069 => ?_)
            · have r5070 : z4914.toInt ≠ 118 := gj_neq hc5069 (show Int32.toInt 118 = 118 by decide)
              refine G_iload_n 1 d_cX9_advance_151 rfl ?_
              refine G_bipush 98 d_cX9_advance_152 (by decide +kernel) ?_
              refine G_icmp_ne 174 d_cX9_advance_154 (by decide +kernel) (fun hc5071 => ?_) (fun hc5071 => ?_)
              · have r5072 : z4914.toInt ≠ 98 := gj_neq hc5071 (show Int32.toInt 98 = 98 by decide)
                refine G_iload_n 1 d_cX9_advance_174 rfl ?_
                refine G_callS (As := [.int z4914]) (wr := [(q4654, .inr (14, [.ref q4655, .int p4657, .int 0, .int o4910, .int p4660])), (q4655, .inr (15, [.ref q4656, .int p4661])), (q4656, .inl (I .byte, 8192, .inl f4662))]) (gV_ok D I) (ct_308_Signs_isLetter l hl0 D I z4914 ) d_cX9_advance_175 ⟨w_3_45, w_1_4, w_3_47, by decide, rfl, (Nat.le_of_ble_eq_true rfl), (Nat.le_of_ble_eq_true rfl)⟩ w_3_46 [] [0, 1, 2] rfl rfl rfl rfl (by decide) (Nat.le_of_ble_eq_true rfl) (Nat.le_of_ble_eq_true rfl) (Nat.le_of_ble_eq_true rfl) (fun r w hp => ?_) (fun _ _ _ z => z.elim)
                rcases hp with ⟨rfl, rfl, r5073⟩ | ⟨rfl, rfl, r5074, r5075⟩ | ⟨rfl, rfl, r5076, r5077⟩
                · have r4917''' : gB z4914 58 96 := ⟨by omega, by omega⟩
                  change G _ _ _ _ _ _ _ (.int 0 :: _) _ _ _
                  refine G_ws (ws' := [(q4654, .inr (14, [.ref q4655, .int p4657, .int 0, .int o4910, .int p4660])), (q4655, .inr (15, [.ref q4656, .int p4661])), (q4656, .inl (I .byte, 8192, .inl f4662))]) (cs' := 0) (sl' := 0) rfl rfl rfl ?_
                  refine G_if_eq 188 d_cX9_advance_178 (by decide +kernel) (fun _ => ?_) (fun hc => absurd hc (by decide))
                  refine G_aload_n 3 d_cX9_advance_188 rfl ?_
                  refine G_iload_n 1 d_cX9_advance_189 rfl ?_
                  refine G_iload_n 0 d_cX9_advance_190 rfl ?_
                  refine G_callV (As := [.int z4914, .int z4938]) (wr := []) (gV_ok D I) (ct_4620_Signs_takeMark l hl0 D I q4654 q4655 q4656 z4914 z4938 p4657 0 o4910 p4660 p4661 f4662 (gB_w bp4661'' (by decide) (by decide)) bf4662 (by have qa0 : Int32.toInt 0 = 0 := (by decide); omega)) d_cX9_advance_191 ⟨w_3_109, w_1_4, w_3_112, by decide, rfl, (Nat.le_of_ble_eq_true rfl), (Nat.le_of_ble_eq_true rfl)⟩ w_3_111 w_p_6 0 rfl rfl [0, 1, 2] [] rfl rfl rfl rfl (by decide) (Nat.le_of_ble_eq_true rfl) (Nat.le_of_ble_eq_true rfl) (Nat.le_of_ble_eq_true rfl) (fun r w hp => ?_) (fun _ _ _ z => z.elim)
                  obtain ⟨o5078, o5079, o5080, rfl, rfl, bo5078, bo5079, bo5080, x5081⟩ := hp
                  change G _ _ _ _ _ _ _ _ _ _ _
                  refine G_ws (ws' := [(q4654, .inr (14, [.ref q4655, .int o5078, .int o5079, .int o4910, .int o5080])), (q4655, .inr (15, [.ref q4656, .int p4661])), (q4656, .inl (I .byte, 8192, .inl f4662))]) (cs' := 0) (sl' := 0) rfl rfl rfl ?_
                  exact G_vret d_cX9_advance_194 rfl (Nat.le_of_ble_eq_true rfl) (Nat.le_of_ble_eq_true rfl) ⟨o5078, o5079, o4910, o5080, rfl, rfl, (gB_w bo5078 (by decide) (by decide)), (gB_w bo5079 (by decide) (by decide)), (gB_w bo4910'' (by decide) (by decide)), bo5080, (by have qa0 : Int32.toInt 0 = 0 := (by decide); omega)⟩
                · have r4917''' : gB z4914 97 255 := ⟨by omega, by omega⟩
                  have r4917'''' : gB z4914 123 255 := ⟨by omega, by omega⟩
                  change G _ _ _ _ _ _ _ (.int 0 :: _) _ _ _
                  refine G_ws (ws' := [(q4654, .inr (14, [.ref q4655, .int p4657, .int 0, .int o4910, .int p4660])), (q4655, .inr (15, [.ref q4656, .int p4661])), (q4656, .inl (I .byte, 8192, .inl f4662))]) (cs' := 0) (sl' := 0) rfl rfl rfl ?_
                  refine G_if_eq 188 d_cX9_advance_178 (by decide +kernel) (fun _ => ?_) (fun hc => absurd hc (by decide))
                  refine G_aload_n 3 d_cX9_advance_188 rfl ?_
                  refine G_iload_n 1 d_cX9_advance_189 rfl ?_
                  refine G_iload_n 0 d_cX9_advance_190 rfl ?_
                  refine G_callV (As := [.int z4914, .int z4938]) (wr := []) (gV_ok D I) (ct_4620_Signs_takeMark l hl0 D I q4654 q4655 q4656 z4914 z4938 p4657 0 o4910 p4660 p4661 f4662 (gB_w bp4661'' (by decide) (by decide)) bf4662 (by have qa0 : Int32.toInt 0 = 0 := (by decide); omega)) d_cX9_advance_191 ⟨w_3_109, w_1_4, w_3_112, by decide, rfl, (Nat.le_of_ble_eq_true rfl), (Nat.le_of_ble_eq_true rfl)⟩ w_3_111 w_p_6 0 rfl rfl [0, 1, 2] [] rfl rfl rfl rfl (by decide) (Nat.le_of_ble_eq_true rfl) (Nat.le_of_ble_eq_true rfl) (Nat.le_of_ble_eq_true rfl) (fun r w hp => ?_) (fun _ _ _ z => z.elim)
                  obtain ⟨o5082, o5083, o5084, rfl, rfl, bo5082, bo5083, bo5084, x5085⟩ := hp
                  change G _ _ _ _ _ _ _ _ _ _ _
                  refine G_ws (ws' := [(q4654, .inr (14, [.ref q4655, .int o5082, .int o5083, .int o4910, .int o5084])), (q4655, .inr (15, [.ref q4656, .int p4661])), (q4656, .inl (I .byte, 8192, .inl f4662))]) (cs' := 0) (sl' := 0) rfl rfl rfl ?_
                  exact G_vret d_cX9_advance_194 rfl (Nat.le_of_ble_eq_true rfl) (Nat.le_of_ble_eq_true rfl) ⟨o5082, o5083, o4910, o5084, rfl, rfl, (gB_w bo5082 (by decide) (by decide)), (gB_w bo5083 (by decide) (by decide)), (gB_w bo4910'' (by decide) (by decide)), bo5084, (by have qa0 : Int32.toInt 0 = 0 := (by decide); omega)⟩
                · have r4917''' : gB z4914 97 255 := ⟨by omega, by omega⟩
                  have r4917'''' : gB z4914 97 122 := ⟨by omega, by omega⟩
                  change G _ _ _ _ _ _ _ (.int 1 :: _) _ _ _
                  refine G_ws (ws' := [(q4654, .inr (14, [.ref q4655, .int p4657, .int 0, .int o4910, .int p4660])), (q4655, .inr (15, [.ref q4656, .int p4661])), (q4656, .inl (I .byte, 8192, .inl f4662))]) (cs' := 0) (sl' := 0) rfl rfl rfl ?_
                  refine G_if_eq 188 d_cX9_advance_178 (by decide +kernel) (fun hc => absurd hc (by decide)) (fun _ => ?_)
                  refine G_aload_n 3 d_cX9_advance_181 rfl ?_
                  refine G_callV (As := []) (wr := []) (gV_ok D I) (ct_3801_Signs_takeWord l hl0 D I q4654 q4655 q4656 p4657 0 o4910 p4660 p4661 f4662 (gB_w bp4661'' (by decide) (by decide)) bf4662 (by have qa0 : Int32.toInt 0 = 0 := (by decide); omega)) d_cX9_advance_182 ⟨w_3_48, w_1_4, w_3_51, by decide, rfl, (Nat.le_of_ble_eq_true rfl), (Nat.le_of_ble_eq_true rfl)⟩ w_3_50 w_p_4 0 rfl rfl [0, 1, 2] [] rfl rfl rfl rfl (by decide) (Nat.le_of_ble_eq_true rfl) (Nat.le_of_ble_eq_true rfl) (Nat.le_of_ble_eq_true rfl) (fun r w hp => ?_) (fun _ _ _ z => z.elim)
                  obtain ⟨o5086, o5087, rfl, rfl, bo5086, bo5087, x5088⟩ := hp
                  rw [show Int32.toInt 0 = 0 from by decide] at x5088
                  change G _ _ _ _ _ _ _ _ _ _ _
                  refine G_ws (ws' := [(q4654, .inr (14, [.ref q4655, .int o5086, .int 0, .int o4910, .int o5087])), (q4655, .inr (15, [.ref q4656, .int p4661])), (q4656, .inl (I .byte, 8192, .inl f4662))]) (cs' := 0) (sl' := 0) rfl rfl rfl ?_
                  refine G_goto 194 d_cX9_advance_185 (by decide +kernel) ?_
                  exact G_vret d_cX9_advance_194 rfl (Nat.le_of_ble_eq_true rfl) (Nat.le_of_ble_eq_true rfl) ⟨o5086, 0, o4910, o5087, rfl, rfl, bo5086, (gB_w (gBl (show Int32.toInt 0 = 0 by decide)) (by decide) (by decide)), (gB_w bo4910'' (by decide) (by decide)), bo5087, (by have qa0 : Int32.toInt 0 = 0 := (by decide); omega)⟩
              · have r5089 : z4914.toInt = 98 := gj_eq hc5071 (show Int32.toInt 98 = 98 by decide)
                have r4917''' : gB z4914 98 98 := ⟨by omega, by omega⟩
                refine G_iload_n 0 d_cX9_advance_157 rfl ?_
                refine G_callS (As := [.int z4938]) (wr := [(q4654, .inr (14, [.ref q4655, .int p4657, .int 0, .int o4910, .int p4660])), (q4655, .inr (15, [.ref q4656, .int p4661])), (q4656, .inl (I .byte, 8192, .inl f4662))]) (gV_ok D I) (ct_300_Signs_isDigit l hl0 D I z4938 ) d_cX9_advance_158 ⟨w_3_24, w_1_4, w_3_26, by decide, rfl, (Nat.le_of_ble_eq_true rfl), (Nat.le_of_ble_eq_true rfl)⟩ w_3_25 [] [0, 1, 2] rfl rfl rfl rfl (by decide) (Nat.le_of_ble_eq_true rfl) (Nat.le_of_ble_eq_true rfl) (Nat.le_of_ble_eq_true rfl) (fun r w hp => ?_) (fun _ _ _ z => z.elim)
                rcases hp with ⟨rfl, rfl, r5090⟩ | ⟨rfl, rfl, r5091, r5092⟩ | ⟨rfl, rfl, r5093, r5094⟩
                · have r4941' : gB z4938 0 47 := ⟨by omega, by omega⟩
                  change G _ _ _ _ _ _ _ (.int 0 :: _) _ _ _
                  refine G_ws (ws' := [(q4654, .inr (14, [.ref q4655, .int p4657, .int 0, .int o4910, .int p4660])), (q4655, .inr (15, [.ref q4656, .int p4661])), (q4656, .inl (I .byte, 8192, .inl f4662))]) (cs' := 0) (sl' := 0) rfl rfl rfl ?_
                  refine G_if_eq 174 d_cX9_advance_161 (by decide +kernel) (fun _ => ?_) (fun hc => absurd hc (by decide))
                  refine G_iload_n 1 d_cX9_advance_174 rfl ?_
                  refine G_callS (As := [.int z4914]) (wr := [(q4654, .inr (14, [.ref q4655, .int p4657, .int 0, .int o4910, .int p4660])), (q4655, .inr (15, [.ref q4656, .int p4661])), (q4656, .inl (I .byte, 8192, .inl f4662))]) (gV_ok D I) (ct_308_Signs_isLetter l hl0 D I z4914 ) d_cX9_advance_175 ⟨w_3_45, w_1_4, w_3_47, by decide, rfl, (Nat.le_of_ble_eq_true rfl), (Nat.le_of_ble_eq_true rfl)⟩ w_3_46 [] [0, 1, 2] rfl rfl rfl rfl (by decide) (Nat.le_of_ble_eq_true rfl) (Nat.le_of_ble_eq_true rfl) (Nat.le_of_ble_eq_true rfl) (fun r w hp => ?_) (fun _ _ _ z => z.elim)
                  rcases hp with ⟨rfl, rfl, r5095⟩ | ⟨rfl, rfl, r5096, r5097⟩ | ⟨rfl, rfl, r5098, r5099⟩
                  · exact absurd (show False by omega) not_false
                  · exact absurd (show False by omega) not_false
                  · change G _ _ _ _ _ _ _ (.int 1 :: _) _ _ _
                    refine G_ws (ws' := [(q4654, .inr (14, [.ref q4655, .int p4657, .int 0, .int o4910, .int p4660])), (q4655, .inr (15, [.ref q4656, .int p4661])), (q4656, .inl (I .byte, 8192, .inl f4662))]) (cs' := 0) (sl' := 0) rfl rfl rfl ?_
                    refine G_if_eq 188 d_cX9_advance_178 (by decide +kernel) (fun hc => absurd hc (by decide)) (fun _ => ?_)
                    refine G_aload_n 3 d_cX9_advance_181 rfl ?_
                    refine G_callV (As := []) (wr := []) (gV_ok D I) (ct_3801_Signs_takeWord l hl0 D I q4654 q4655 q4656 p4657 0 o4910 p4660 p4661 f4662 (gB_w bp4661'' (by decide) (by decide)) bf4662 (by have qa0 : Int32.toInt 0 = 0 := (by decide); omega)) d_cX9_advance_182 ⟨w_3_48, w_1_4, w_3_51, by decide, rfl, (Nat.le_of_ble_eq_true rfl), (Nat.le_of_ble_eq_true rfl)⟩ w_3_50 w_p_4 0 rfl rfl [0, 1, 2] [] rfl rfl rfl rfl (by decide) (Nat.le_of_ble_eq_true rfl) (Nat.le_of_ble_eq_true rfl) (Nat.le_of_ble_eq_true rfl) (fun r w hp => ?_) (fun _ _ _ z => z.elim)
                    obtain ⟨o5100, o5101, rfl, rfl, bo5100, bo5101, x5102⟩ := hp
                    rw [show Int32.toInt 0 = 0 from by decide] at x5102
                    change G _ _ _ _ _ _ _ _ _ _ _
                    refine G_ws (ws' := [(q4654, .inr (14, [.ref q4655, .int o5100, .int 0, .int o4910, .int o5101])), (q4655, .inr (15, [.ref q4656, .int p4661])), (q4656, .inl (I .byte, 8192, .inl f4662))]) (cs' := 0) (sl' := 0) rfl rfl rfl ?_
                    refine G_goto 194 d_cX9_advance_185 (by decide +kernel) ?_
                    exact G_vret d_cX9_advance_194 rfl (Nat.le_of_ble_eq_true rfl) (Nat.le_of_ble_eq_true rfl) ⟨o5100, 0, o4910, o5101, rfl, rfl, bo5100, (gB_w (gBl (show Int32.toInt 0 = 0 by decide)) (by decide) (by decide)), (gB_w bo4910'' (by decide) (by decide)), bo5101, (by have qa0 : Int32.toInt 0 = 0 := (by decide); omega)⟩
                · have r4941' : gB z4938 48 255 := ⟨by omega, by omega⟩
                  have r4941'' : gB z4938 58 255 := ⟨by omega, by omega⟩
                  change G _ _ _ _ _ _ _ (.int 0 :: _) _ _ _
                  refine G_ws (ws' := [(q4654, .inr (14, [.ref q4655, .int p4657, .int 0, .int o4910, .int p4660])), (q4655, .inr (15, [.ref q4656, .int p4661])), (q4656, .inl (I .byte, 8192, .inl f4662))]) (cs' := 0) (sl' := 0) rfl rfl rfl ?_
                  refine G_if_eq 174 d_cX9_advance_161 (by decide +kernel) (fun _ => ?_) (fun hc => absurd hc (by decide))
                  refine G_iload_n 1 d_cX9_advance_174 rfl ?_
                  refine G_callS (As := [.int z4914]) (wr := [(q4654, .inr (14, [.ref q4655, .int p4657, .int 0, .int o4910, .int p4660])), (q4655, .inr (15, [.ref q4656, .int p4661])), (q4656, .inl (I .byte, 8192, .inl f4662))]) (gV_ok D I) (ct_308_Signs_isLetter l hl0 D I z4914 ) d_cX9_advance_175 ⟨w_3_45, w_1_4, w_3_47, by decide, rfl, (Nat.le_of_ble_eq_true rfl), (Nat.le_of_ble_eq_true rfl)⟩ w_3_46 [] [0, 1, 2] rfl rfl rfl rfl (by decide) (Nat.le_of_ble_eq_true rfl) (Nat.le_of_ble_eq_true rfl) (Nat.le_of_ble_eq_true rfl) (fun r w hp => ?_) (fun _ _ _ z => z.elim)
                  rcases hp with ⟨rfl, rfl, r5103⟩ | ⟨rfl, rfl, r5104, r5105⟩ | ⟨rfl, rfl, r5106, r5107⟩
                  · exact absurd (show False by omega) not_false
                  · exact absurd (show False by omega) not_false
                  · change G _ _ _ _ _ _ _ (.int 1 :: _) _ _ _
                    refine G_ws (ws' := [(q4654, .inr (14, [.ref q4655, .int p4657, .int 0, .int o4910, .int p4660])), (q4655, .inr (15, [.ref q4656, .int p4661])), (q4656, .inl (I .byte, 8192, .inl f4662))]) (cs' := 0) (sl' := 0) rfl rfl rfl ?_
                    refine G_if_eq 188 d_cX9_advance_178 (by decide +kernel) (fun hc => absurd hc (by decide)) (fun _ => ?_)
                    refine G_aload_n 3 d_cX9_advance_181 rfl ?_
                    refine G_callV (As := []) (wr := []) (gV_ok D I) (ct_3801_Signs_takeWord l hl0 D I q4654 q4655 q4656 p4657 0 o4910 p4660 p4661 f4662 (gB_w bp4661'' (by decide) (by decide)) bf4662 (by have qa0 : Int32.toInt 0 = 0 := (by decide); omega)) d_cX9_advance_182 ⟨w_3_48, w_1_4, w_3_51, by decide, rfl, (Nat.le_of_ble_eq_true rfl), (Nat.le_of_ble_eq_true rfl)⟩ w_3_50 w_p_4 0 rfl rfl [0, 1, 2] [] rfl rfl rfl rfl (by decide) (Nat.le_of_ble_eq_true rfl) (Nat.le_of_ble_eq_true rfl) (Nat.le_of_ble_eq_true rfl) (fun r w hp => ?_) (fun _ _ _ z => z.elim)
                    obtain ⟨o5108, o5109, rfl, rfl, bo5108, bo5109, x5110⟩ := hp
                    rw [show Int32.toInt 0 = 0 from by decide] at x5110
                    change G _ _ _ _ _ _ _ _ _ _ _
                    refine G_ws (ws' := [(q4654, .inr (14, [.ref q4655, .int o5108, .int 0, .int o4910, .int o5109])), (q4655, .inr (15, [.ref q4656, .int p4661])), (q4656, .inl (I .byte, 8192, .inl f4662))]) (cs' := 0) (sl' := 0) rfl rfl rfl ?_
                    refine G_goto 194 d_cX9_advance_185 (by decide +kernel) ?_
                    exact G_vret d_cX9_advance_194 rfl (Nat.le_of_ble_eq_true rfl) (Nat.le_of_ble_eq_true rfl) ⟨o5108, 0, o4910, o5109, rfl, rfl, bo5108, (gB_w (gBl (show Int32.toInt 0 = 0 by decide)) (by decide) (by decide)), (gB_w bo4910'' (by decide) (by decide)), bo5109, (by have qa0 : Int32.toInt 0 = 0 := (by decide); omega)⟩
                · have r4941' : gB z4938 48 255 := ⟨by omega, by omega⟩
                  have r4941'' : gB z4938 48 57 := ⟨by omega, by omega⟩
                  change G _ _ _ _ _ _ _ (.int 1 :: _) _ _ _
                  refine G_ws (ws' := [(q4654, .inr (14, [.ref q4655, .int p4657, .int 0, .int o4910, .int p4660])), (q4655, .inr (15, [.ref q4656, .int p4661])), (q4656, .inl (I .byte, 8192, .inl f4662))]) (cs' := 0) (sl' := 0) rfl rfl rfl ?_
                  refine G_if_eq 174 d_cX9_advance_161 (by decide +kernel) (fun hc => absurd hc (by decide)) (fun _ => ?_)
                  refine G_aload_n 3 d_cX9_advance_164 rfl ?_
                  refine G_iconst 3 d_cX9_advance_165 (by decide +kernel) ?_
                  refine G_bipush 40 d_cX9_advance_166 (by decide +kernel) ?_
                  refine G_callV (As := [.int 3, .int 40]) (wr := []) (gV_ok D I) (ct_661_Signs_takeNamed l hl0 D I q4654 q4655 q4656 3 40 p4657 0 o4910 p4660 p4661 f4662 (gB_w (gBl (show Int32.toInt 3 = 3 by decide)) (by decide) (by decide)) (gB_w bp4661'' (by decide) (by decide)) bf4662 (by have qa0 : Int32.toInt 0 = 0 := (by decide); have qa1 : Int32.toInt 3 = 3 := (by decide); have qa2 : Int32.toInt 40 = 40 := (by decide); omega)) d_cX9_advance_168 ⟨w_3_41, w_1_4, w_3_44, by decide, rfl, (Nat.le_of_ble_eq_true rfl), (Nat.le_of_ble_eq_true rfl)⟩ w_3_43 w_p_3 0 rfl rfl [0, 1, 2] [] rfl rfl rfl rfl (by decide) (Nat.le_of_ble_eq_true rfl) (Nat.le_of_ble_eq_true rfl) (Nat.le_of_ble_eq_true rfl) (fun r w hp => ?_) (fun _ _ _ z => z.elim)
                  obtain ⟨o5111, o5112, o5113, rfl, rfl, bo5111, bo5112, bo5113, x5114⟩ := hp
                  change G _ _ _ _ _ _ _ _ _ _ _
                  refine G_ws (ws' := [(q4654, .inr (14, [.ref q4655, .int o5111, .int o5112, .int o4910, .int o5113])), (q4655, .inr (15, [.ref q4656, .int p4661])), (q4656, .inl (I .byte, 8192, .inl f4662))]) (cs' := 0) (sl' := 0) rfl rfl rfl ?_
                  refine G_goto 194 d_cX9_advance_171 (by decide +kernel) ?_
                  exact G_vret d_cX9_advance_194 rfl (Nat.le_of_ble_eq_true rfl) (Nat.le_of_ble_eq_true rfl) ⟨o5111, o5112, o4910, o5113, rfl, rfl, (gB_w bo5111 (by decide) (by decide)), bo5112, (gB_w bo4910'' (by decide) (by decide)), bo5113, (by have qa0 : Int32.toInt 0 = 0 := (by decide); omega)⟩
            · have r5115 : z4914.toInt = 118 := gj_eq hc5069 (show Int32.toInt 118 = 118 by decide)
              have r4917''' : gB z4914 118 118 := ⟨by omega, by omega⟩
              refine G_iload_n 0 d_cX9_advance_134 rfl ?_
              refine G_callS (As := [.int z4938]) (wr := [(q4654, .inr (14, [.ref q4655, .int p4657, .int 0, .int o4910, .int p4660])), (q4655, .inr (15, [.ref q4656, .int p4661])), (q4656, .inl (I .byte, 8192, .inl f4662))]) (gV_ok D I) (ct_300_Signs_isDigit l hl0 D I z4938 ) d_cX9_advance_135 ⟨w_3_24, w_1_4, w_3_26, by decide, rfl, (Nat.le_of_ble_eq_true rfl), (Nat.le_of_ble_eq_true rfl)⟩ w_3_25 [] [0, 1, 2] rfl rfl rfl rfl (by decide) (Nat.le_of_ble_eq_true rfl) (Nat.le_of_ble_eq_true rfl) (Nat.le_of_ble_eq_true rfl) (fun r w hp => ?_) (fun _ _ _ z => z.elim)
              rcases hp with ⟨rfl, rfl, r5116⟩ | ⟨rfl, rfl, r5117, r5118⟩ | ⟨rfl, rfl, r5119, r5120⟩
              · have r4941' : gB z4938 0 47 := ⟨by omega, by omega⟩
                change G _ _ _ _ _ _ _ (.int 0 :: _) _ _ _
                refine G_ws (ws' := [(q4654, .inr (14, [.ref q4655, .int p4657, .int 0, .int o4910, .int p4660])), (q4655, .inr (15, [.ref q4656, .int p4661])), (q4656, .inl (I .byte, 8192, .inl f4662))]) (cs' := 0) (sl' := 0) rfl rfl rfl ?_
                refine G_if_eq 151 d_cX9_advance_138 (by decide +kernel) (fun _ => ?_) (fun hc => absurd hc (by decide))
                refine G_iload_n 1 d_cX9_advance_151 rfl ?_
                refine G_bipush 98 d_cX9_advance_152 (by decide +kernel) ?_
                refine G_icmp_ne 174 d_cX9_advance_154 (by decide +kernel) (fun _ => ?_) (fun hc => absurd (show False by have := gj_eq hc (show Int32.toInt 98 = 98 by decide); omega) not_false)
                refine G_iload_n 1 d_cX9_advance_174 rfl ?_
                refine G_callS (As := [.int z4914]) (wr := [(q4654, .inr (14, [.ref q4655, .int p4657, .int 0, .int o4910, .int p4660])), (q4655, .inr (15, [.ref q4656, .int p4661])), (q4656, .inl (I .byte, 8192, .inl f4662))]) (gV_ok D I) (ct_308_Signs_isLetter l hl0 D I z4914 ) d_cX9_advance_175 ⟨w_3_45, w_1_4, w_3_47, by decide, rfl, (Nat.le_of_ble_eq_true rfl), (Nat.le_of_ble_eq_true rfl)⟩ w_3_46 [] [0, 1, 2] rfl rfl rfl rfl (by decide) (Nat.le_of_ble_eq_true rfl) (Nat.le_of_ble_eq_true rfl) (Nat.le_of_ble_eq_true rfl) (fun r w hp => ?_) (fun _ _ _ z => z.elim)
                rcases hp with ⟨rfl, rfl, r5121⟩ | ⟨rfl, rfl, r5122, r5123⟩ | ⟨rfl, rfl, r5124, r5125⟩
                · exact absurd (show False by omega) not_false
                · exact absurd (show False by omega) not_false
                · change G _ _ _ _ _ _ _ (.int 1 :: _) _ _ _
                  refine G_ws (ws' := [(q4654, .inr (14, [.ref q4655, .int p4657, .int 0, .int o4910, .int p4660])), (q4655, .inr (15, [.ref q4656, .int p4661])), (q4656, .inl (I .byte, 8192, .inl f4662))]) (cs' := 0) (sl' := 0) rfl rfl rfl ?_
                  refine G_if_eq 188 d_cX9_advance_178 (by decide +kernel) (fun hc => absurd hc (by decide)) (fun _ => ?_)
                  refine G_aload_n 3 d_cX9_advance_181 rfl ?_
                  refine G_callV (As := []) (wr := []) (gV_ok D I) (ct_3801_Signs_takeWord l hl0 D I q4654 q4655 q4656 p4657 0 o4910 p4660 p4661 f4662 (gB_w bp4661'' (by decide) (by decide)) bf4662 (by have qa0 : Int32.toInt 0 = 0 := (by decide); omega)) d_cX9_advance_182 ⟨w_3_48, w_1_4, w_3_51, by decide, rfl, (Nat.le_of_ble_eq_true rfl), (Nat.le_of_ble_eq_true rfl)⟩ w_3_50 w_p_4 0 rfl rfl [0, 1, 2] [] rfl rfl rfl rfl (by decide) (Nat.le_of_ble_eq_true rfl) (Nat.le_of_ble_eq_true rfl) (Nat.le_of_ble_eq_true rfl) (fun r w hp => ?_) (fun _ _ _ z => z.elim)
                  obtain ⟨o5126, o5127, rfl, rfl, bo5126, bo5127, x5128⟩ := hp
                  rw [show Int32.toInt 0 = 0 from by decide] at x5128
                  change G _ _ _ _ _ _ _ _ _ _ _
                  refine G_ws (ws' := [(q4654, .inr (14, [.ref q4655, .int o5126, .int 0, .int o4910, .int o5127])), (q4655, .inr (15, [.ref q4656, .int p4661])), (q4656, .inl (I .byte, 8192, .inl f4662))]) (cs' := 0) (sl' := 0) rfl rfl rfl ?_
                  refine G_goto 194 d_cX9_advance_185 (by decide +kernel) ?_
                  exact G_vret d_cX9_advance_194 rfl (Nat.le_of_ble_eq_true rfl) (Nat.le_of_ble_eq_true rfl) ⟨o5126, 0, o4910, o5127, rfl, rfl, bo5126, (gB_w (gBl (show Int32.toInt 0 = 0 by decide)) (by decide) (by decide)), (gB_w bo4910'' (by decide) (by decide)), bo5127, (by have qa0 : Int32.toInt 0 = 0 := (by decide); omega)⟩
              · have r4941' : gB z4938 48 255 := ⟨by omega, by omega⟩
                have r4941'' : gB z4938 58 255 := ⟨by omega, by omega⟩
                change G _ _ _ _ _ _ _ (.int 0 :: _) _ _ _
                refine G_ws (ws' := [(q4654, .inr (14, [.ref q4655, .int p4657, .int 0, .int o4910, .int p4660])), (q4655, .inr (15, [.ref q4656, .int p4661])), (q4656, .inl (I .byte, 8192, .inl f4662))]) (cs' := 0) (sl' := 0) rfl rfl rfl ?_
                refine G_if_eq 151 d_cX9_advance_138 (by decide +kernel) (fun _ => ?_) (fun hc => absurd hc (by decide))
                refine G_iload_n 1 d_cX9_advance_151 rfl ?_
                refine G_bipush 98 d_cX9_advance_152 (by decide +kernel) ?_
                refine G_icmp_ne 174 d_cX9_advance_154 (by decide +kernel) (fun _ => ?_) (fun hc => absurd (show False by have := gj_eq hc (show Int32.toInt 98 = 98 by decide); omega) not_false)
                refine G_iload_n 1 d_cX9_advance_174 rfl ?_
                refine G_callS (As := [.int z4914]) (wr := [(q4654, .inr (14, [.ref q4655, .int p4657, .int 0, .int o4910, .int p4660])), (q4655, .inr (15, [.ref q4656, .int p4661])), (q4656, .inl (I .byte, 8192, .inl f4662))]) (gV_ok D I) (ct_308_Signs_isLetter l hl0 D I z4914 ) d_cX9_advance_175 ⟨w_3_45, w_1_4, w_3_47, by decide, rfl, (Nat.le_of_ble_eq_true rfl), (Nat.le_of_ble_eq_true rfl)⟩ w_3_46 [] [0, 1, 2] rfl rfl rfl rfl (by decide) (Nat.le_of_ble_eq_true rfl) (Nat.le_of_ble_eq_true rfl) (Nat.le_of_ble_eq_true rfl) (fun r w hp => ?_) (fun _ _ _ z => z.elim)
                rcases hp with ⟨rfl, rfl, r5129⟩ | ⟨rfl, rfl, r5130, r5131⟩ | ⟨rfl, rfl, r5132, r5133⟩
                · exact absurd (show False by omega) not_false
                · exact absurd (show False by omega) not_false
                · change G _ _ _ _ _ _ _ (.int 1 :: _) _ _ _
                  refine G_ws (ws' := [(q4654, .inr (14, [.ref q4655, .int p4657, .int 0, .int o4910, .int p4660])), (q4655, .inr (15, [.ref q4656, .int p4661])), (q4656, .inl (I .byte, 8192, .inl f4662))]) (cs' := 0) (sl' := 0) rfl rfl rfl ?_
                  refine G_if_eq 188 d_cX9_advance_178 (by decide +kernel) (fun hc => absurd hc (by decide)) (fun _ => ?_)
                  refine G_aload_n 3 d_cX9_advance_181 rfl ?_
                  refine G_callV (As := []) (wr := []) (gV_ok D I) (ct_3801_Signs_takeWord l hl0 D I q4654 q4655 q4656 p4657 0 o4910 p4660 p4661 f4662 (gB_w bp4661'' (by decide) (by decide)) bf4662 (by have qa0 : Int32.toInt 0 = 0 := (by decide); omega)) d_cX9_advance_182 ⟨w_3_48, w_1_4, w_3_51, by decide, rfl, (Nat.le_of_ble_eq_true rfl), (Nat.le_of_ble_eq_true rfl)⟩ w_3_50 w_p_4 0 rfl rfl [0, 1, 2] [] rfl rfl rfl rfl (by decide) (Nat.le_of_ble_eq_true rfl) (Nat.le_of_ble_eq_true rfl) (Nat.le_of_ble_eq_true rfl) (fun r w hp => ?_) (fun _ _ _ z => z.elim)
                  obtain ⟨o5134, o5135, rfl, rfl, bo5134, bo5135, x5136⟩ := hp
                  rw [show Int32.toInt 0 = 0 from by decide] at x5136
                  change G _ _ _ _ _ _ _ _ _ _ _
                  refine G_ws (ws' := [(q4654, .inr (14, [.ref q4655, .int o5134, .int 0, .int o4910, .int o5135])), (q4655, .inr (15, [.ref q4656, .int p4661])), (q4656, .inl (I .byte, 8192, .inl f4662))]) (cs' := 0) (sl' := 0) rfl rfl rfl ?_
                  refine G_goto 194 d_cX9_advance_185 (by decide +kernel) ?_
                  exact G_vret d_cX9_advance_194 rfl (Nat.le_of_ble_eq_true rfl) (Nat.le_of_ble_eq_true rfl) ⟨o5134, 0, o4910, o5135, rfl, rfl, bo5134, (gB_w (gBl (show Int32.toInt 0 = 0 by decide)) (by decide) (by decide)), (gB_w bo4910'' (by decide) (by decide)), bo5135, (by have qa0 : Int32.toInt 0 = 0 := (by decide); omega)⟩
              · have r4941' : gB z4938 48 255 := ⟨by omega, by omega⟩
                have r4941'' : gB z4938 48 57 := ⟨by omega, by omega⟩
                change G _ _ _ _ _ _ _ (.int 1 :: _) _ _ _
                refine G_ws (ws' := [(q4654, .inr (14, [.ref q4655, .int p4657, .int 0, .int o4910, .int p4660])), (q4655, .inr (15, [.ref q4656, .int p4661])), (q4656, .inl (I .byte, 8192, .inl f4662))]) (cs' := 0) (sl' := 0) rfl rfl rfl ?_
                refine G_if_eq 151 d_cX9_advance_138 (by decide +kernel) (fun hc => absurd hc (by decide)) (fun _ => ?_)
                refine G_aload_n 3 d_cX9_advance_141 rfl ?_
                refine G_iconst 2 d_cX9_advance_142 (by decide +kernel) ?_
                refine G_bipush 100 d_cX9_advance_143 (by decide +kernel) ?_
                refine G_callV (As := [.int 2, .int 100]) (wr := []) (gV_ok D I) (ct_661_Signs_takeNamed l hl0 D I q4654 q4655 q4656 2 100 p4657 0 o4910 p4660 p4661 f4662 (gB_w (gBl (show Int32.toInt 2 = 2 by decide)) (by decide) (by decide)) (gB_w bp4661'' (by decide) (by decide)) bf4662 (by have qa0 : Int32.toInt 0 = 0 := (by decide); have qa1 : Int32.toInt 2 = 2 := (by decide); have qa2 : Int32.toInt 100 = 100 := (by decide); omega)) d_cX9_advance_145 ⟨w_3_41, w_1_4, w_3_44, by decide, rfl, (Nat.le_of_ble_eq_true rfl), (Nat.le_of_ble_eq_true rfl)⟩ w_3_43 w_p_3 0 rfl rfl [0, 1, 2] [] rfl rfl rfl rfl (by decide) (Nat.le_of_ble_eq_true rfl) (Nat.le_of_ble_eq_true rfl) (Nat.le_of_ble_eq_true rfl) (fun r w hp => ?_) (fun _ _ _ z => z.elim)
                obtain ⟨o5137, o5138, o5139, rfl, rfl, bo5137, bo5138, bo5139, x5140⟩ := hp
                change G _ _ _ _ _ _ _ _ _ _ _
                refine G_ws (ws' := [(q4654, .inr (14, [.ref q4655, .int o5137, .int o5138, .int o4910, .int o5139])), (q4655, .inr (15, [.ref q4656, .int p4661])), (q4656, .inl (I .byte, 8192, .inl f4662))]) (cs' := 0) (sl' := 0) rfl rfl rfl ?_
                refine G_goto 194 d_cX9_advance_148 (by decide +kernel) ?_
                exact G_vret d_cX9_advance_194 rfl (Nat.le_of_ble_eq_true rfl) (Nat.le_of_ble_eq_true rfl) ⟨o5137, o5138, o4910, o5139, rfl, rfl, (gB_w bo5137 (by decide) (by decide)), bo5138, (gB_w bo4910'' (by decide) (by decide)), bo5139, (by have qa0 : Int32.toInt 0 = 0 := (by decide); omega)⟩
          · have r4917' : gB z4914 48 255 := ⟨by omega, by omega⟩
            have r4917'' : gB z4914 48 57 := ⟨by omega, by omega⟩
            change G _ _ _ _ _ _ _ (.int 1 :: _) _ _ _
            refine G_ws (ws' := [(q4654, .inr (14, [.ref q4655, .int p4657, .int 0, .int o4910, .int p4660])), (q4655, .inr (15, [.ref q4656, .int p4661])), (q4656, .inl (I .byte, 8192, .inl f4662))]) (cs' := 0) (sl' := 0) rfl rfl rfl ?_
            refine G_if_ne 110 d_cX9_advance_90 (by decide +kernel) (fun _ => ?_) (fun hc => absurd hc (by decide))
            refine G_aload_n 3 d_cX9_advance_110 rfl ?_
            refine G_iload_n 1 d_cX9_advance_111 rfl ?_
            refine G_bipush 45 d_cX9_advance_112 (by decide +kernel) ?_
            refine G_icmp_ne 121 d_cX9_advance_114 (by decide +kernel) (fun _ => ?_) (fun hc => absurd (show False by have := gj_eq hc (show Int32.toInt 45 = 45 by decide); omega) not_false)
            refine G_iconst 0 d_cX9_advance_121 (by decide +kernel) ?_
            refine G_callV (As := [.int 0]) (wr := []) (gV_ok D I) (ct_624_Signs_takeNumber l hl0 D I q4654 q4655 q4656 0 p4657 0 o4910 p4660 p4661 f4662 (gB_w (gBl (show Int32.toInt 0 = 0 by decide)) (by decide) (by decide)) (gB_w bp4661'' (by decide) (by decide)) bf4662 (by have qa0 : Int32.toInt 0 = 0 := (by decide); omega)) d_cX9_advance_122 ⟨w_3_27, w_1_4, w_3_30, by decide, rfl, (Nat.le_of_ble_eq_true rfl), (Nat.le_of_ble_eq_true rfl)⟩ w_3_29 w_p_1 0 rfl rfl [0, 1, 2] [] rfl rfl rfl rfl (by decide) (Nat.le_of_ble_eq_true rfl) (Nat.le_of_ble_eq_true rfl) (Nat.le_of_ble_eq_true rfl) (fun r w hp => ?_) (fun _ _ _ z => z.elim)
            obtain ⟨o5141, o5142, o5143, rfl, rfl, bo5141, bo5142, bo5143, x5144⟩ := hp
            change G _ _ _ _ _ _ _ _ _ _ _
            refine G_ws (ws' := [(q4654, .inr (14, [.ref q4655, .int o5141, .int o5142, .int o4910, .int o5143])), (q4655, .inr (15, [.ref q4656, .int p4661])), (q4656, .inl (I .byte, 8192, .inl f4662))]) (cs' := 0) (sl' := 0) rfl rfl rfl ?_
            refine G_goto 194 d_cX9_advance_125 (by decide +kernel) ?_
            exact G_vret d_cX9_advance_194 rfl (Nat.le_of_ble_eq_true rfl) (Nat.le_of_ble_eq_true rfl) ⟨o5141, o5142, o4910, o5143, rfl, rfl, (gB_w bo5141 (by decide) (by decide)), bo5142, (gB_w bo4910'' (by decide) (by decide)), bo5143, (by have qa0 : Int32.toInt 0 = 0 := (by decide); omega)⟩
    · have r5145 : p4657.toInt = 4 := gj_eq hc4908 (show Int32.toInt 4 = 4 by decide)
      have bp4657' : gB p4657 4 4 := ⟨by omega, by omega⟩
      refine G_iconst 1 d_cX9_advance_16 (by decide +kernel) ?_
      refine G_goto 21 d_cX9_advance_17 (by decide +kernel) ?_
      refine G_istore_n (L' := [(1, .int 1), (0, .ref q4654)]) d_cX9_advance_21 (Nat.le_of_ble_eq_true rfl) rfl ?_
      refine G_aload_n 1 d_cX9_advance_22 rfl ?_
      refine G_aload_n 1 d_cX9_advance_23 rfl ?_
      refine G_aload_n 1 d_cX9_advance_24 rfl ?_
      refine G_getf 0 4 d_cX9_advance_25 rfl (gk_X9 D I) (Nat.le_of_ble_eq_true rfl) w_1_83 rfl ?_
      refine G_callV (As := [.int p4660]) (wr := []) (gV_ok D I) (ct_326_Signs_skipBlanks l hl0 D I q4654 q4655 q4656 p4660 p4657 p4658 p4659 p4660 p4661 f4662 bp4661 bf4662 (by have qa0 : Int32.toInt 1 = 1 := (by decide); omega)) d_cX9_advance_28 ⟨w_3_12, w_1_4, w_3_15, by decide, rfl, (Nat.le_of_ble_eq_true rfl), (Nat.le_of_ble_eq_true rfl)⟩ w_3_14 w_p_0 0 rfl rfl [0, 1, 2] [] rfl rfl rfl rfl (by decide) (Nat.le_of_ble_eq_true rfl) (Nat.le_of_ble_eq_true rfl) (Nat.le_of_ble_eq_true rfl) (fun r w hp => ?_) (fun _ _ _ z => z.elim)
      obtain ⟨o5146, rfl, rfl, bo5146⟩ := hp
      change G _ _ _ _ _ _ _ (.int o5146 :: _) _ _ _
      refine G_ws (ws' := [(q4654, .inr (14, [.ref q4655, .int p4657, .int p4658, .int p4659, .int p4660])), (q4655, .inr (15, [.ref q4656, .int p4661])), (q4656, .inl (I .byte, 8192, .inl f4662))]) (cs' := 0) (sl' := 0) rfl rfl rfl ?_
      refine G_putf (ws' := [(q4654, .inr (14, [.ref q4655, .int p4657, .int p4658, .int o5146, .int p4660])), (q4655, .inr (15, [.ref q4656, .int p4661])), (q4656, .inl (I .byte, 8192, .inl f4662))]) 0 3 d_cX9_advance_31 rfl (gk_X9 D I) (Nat.le_of_ble_eq_true rfl) w_1_82 rfl rfl rfl (Nat.le_of_ble_eq_true rfl) rfl ?_
      refine G_aload_n 1 d_cX9_advance_34 rfl ?_
      refine G_getf 0 0 d_cX9_advance_35 rfl (gk_X9 D I) (Nat.le_of_ble_eq_true rfl) w_1_79 rfl ?_
      refine G_aload_n 1 d_cX9_advance_38 rfl ?_
      refine G_getf 0 3 d_cX9_advance_39 rfl (gk_X9 D I) (Nat.le_of_ble_eq_true rfl) w_1_82 rfl ?_
      refine G_callV (As := [.int o5146]) (wr := [(q4654, .inr (14, [.ref q4655, .int p4657, .int p4658, .int o5146, .int p4660]))]) (gV_ok D I) (ct_30_Tape_byteAt l hl0 D I q4655 q4656 o5146 p4661 f4662 bp4661 bf4662) d_cX9_advance_42 ⟨w_3_20, w_1_2, w_3_23, by decide, rfl, (Nat.le_of_ble_eq_true rfl), (Nat.le_of_ble_eq_true rfl)⟩ w_3_21 w_3_22 1 rfl rfl [1, 2] [0] rfl rfl rfl rfl (by decide) (Nat.le_of_ble_eq_true rfl) (Nat.le_of_ble_eq_true rfl) (Nat.le_of_ble_eq_true rfl) (fun r w hp => ?_) (fun _ _ _ z => z.elim)
      rcases hp with ⟨rfl, rfl, r5147⟩ | ⟨rfl, rfl, r5148, r5149⟩ | ⟨z5150, rfl, rfl, r5151, r5152, r5153⟩
      · have bo5146' : gB o5146 (-2147483648) (-1) := ⟨by omega, by omega⟩
        change G _ _ _ _ _ _ _ (.int (-1) :: _) _ _ _
        refine G_ws (ws' := [(q4654, .inr (14, [.ref q4655, .int p4657, .int p4658, .int o5146, .int p4660])), (q4655, .inr (15, [.ref q4656, .int p4661])), (q4656, .inl (I .byte, 8192, .inl f4662))]) (cs' := 0) (sl' := 0) rfl rfl rfl ?_
        refine G_istore_n (L' := [(2, .int (-1)), (1, .int 1), (0, .ref q4654)]) d_cX9_advance_45 (Nat.le_of_ble_eq_true rfl) rfl ?_
        refine G_aload_n 2 d_cX9_advance_46 rfl ?_
        refine G_getf 0 0 d_cX9_advance_47 rfl (gk_X9 D I) (Nat.le_of_ble_eq_true rfl) w_1_79 rfl ?_
        refine G_aload_n 2 d_cX9_advance_50 rfl ?_
        refine G_getf 0 3 d_cX9_advance_51 rfl (gk_X9 D I) (Nat.le_of_ble_eq_true rfl) w_1_82 rfl ?_
        refine G_iconst 1 d_cX9_advance_54 (by decide +kernel) ?_
        refine G_iadd d_cX9_advance_55 (G_nam fun z5154 hz5154 => ?_)
        have ez5154 : z5154.toInt = o5146.toInt + 1 := by rw [gI_add hz5154 bo5146' (gBl (show Int32.toInt 1 = 1 by decide)) (by decide) (by decide), show Int32.toInt 1 = 1 from by decide]
        have bz5154 : gB z5154 (-2147483647) 0 := gB_add (gI_add hz5154 bo5146' (gBl (show Int32.toInt 1 = 1 by decide)) (by decide) (by decide)) bo5146' (gBl (show Int32.toInt 1 = 1 by decide)) (by decide) (by decide)
        refine G_callV (As := [.int z5154]) (wr := [(q4654, .inr (14, [.ref q4655, .int p4657, .int p4658, .int o5146, .int p4660]))]) (gV_ok D I) (ct_30_Tape_byteAt l hl0 D I q4655 q4656 z5154 p4661 f4662 bp4661 bf4662) d_cX9_advance_56 ⟨w_3_20, w_1_2, w_3_23, by decide, rfl, (Nat.le_of_ble_eq_true rfl), (Nat.le_of_ble_eq_true rfl)⟩ w_3_21 w_3_22 1 rfl rfl [1, 2] [0] rfl rfl rfl rfl (by decide) (Nat.le_of_ble_eq_true rfl) (Nat.le_of_ble_eq_true rfl) (Nat.le_of_ble_eq_true rfl) (fun r w hp => ?_) (fun _ _ _ z => z.elim)
        rcases hp with ⟨rfl, rfl, r5155⟩ | ⟨rfl, rfl, r5156, r5157⟩ | ⟨z5158, rfl, rfl, r5159, r5160, r5161⟩
        · have bz5154' : gB z5154 (-2147483647) (-1) := ⟨by omega, by omega⟩
          change G _ _ _ _ _ _ _ (.int (-1) :: _) _ _ _
          refine G_ws (ws' := [(q4654, .inr (14, [.ref q4655, .int p4657, .int p4658, .int o5146, .int p4660])), (q4655, .inr (15, [.ref q4656, .int p4661])), (q4656, .inl (I .byte, 8192, .inl f4662))]) (cs' := 0) (sl' := 0) rfl rfl rfl ?_
          refine G_istore_n (L' := [(3, .int (-1)), (2, .int (-1)), (1, .int 1), (0, .ref q4654)]) d_cX9_advance_59 (Nat.le_of_ble_eq_true rfl) rfl ?_
          refine G_aload_n 3 d_cX9_advance_60 rfl ?_
          refine G_iconst 0 d_cX9_advance_61 (by decide +kernel) ?_
          refine G_putf (ws' := [(q4654, .inr (14, [.ref q4655, .int p4657, .int 0, .int o5146, .int p4660])), (q4655, .inr (15, [.ref q4656, .int p4661])), (q4656, .inl (I .byte, 8192, .inl f4662))]) 0 2 d_cX9_advance_62 rfl (gk_X9 D I) (Nat.le_of_ble_eq_true rfl) w_1_81 rfl rfl rfl (Nat.le_of_ble_eq_true rfl) rfl ?_
          refine G_iload_n 1 d_cX9_advance_65 rfl ?_
          refine G_iconst (-1) d_cX9_advance_66 (by decide +kernel) ?_
          refine G_icmp_ne 86 d_cX9_advance_67 (by decide +kernel) (fun hc => absurd hc (by decide)) (fun _ => ?_)
          refine G_aload_n 3 d_cX9_advance_70 rfl ?_
          refine G_iconst 1 d_cX9_advance_71 (by decide +kernel) ?_
          refine G_putf (ws' := [(q4654, .inr (14, [.ref q4655, .int 1, .int 0, .int o5146, .int p4660])), (q4655, .inr (15, [.ref q4656, .int p4661])), (q4656, .inl (I .byte, 8192, .inl f4662))]) 0 1 d_cX9_advance_72 rfl (gk_X9 D I) (Nat.le_of_ble_eq_true rfl) w_1_80 rfl rfl rfl (Nat.le_of_ble_eq_true rfl) rfl ?_
          refine G_aload_n 3 d_cX9_advance_75 rfl ?_
          refine G_aload_n 3 d_cX9_advance_76 rfl ?_
          refine G_getf 0 3 d_cX9_advance_77 rfl (gk_X9 D I) (Nat.le_of_ble_eq_true rfl) w_1_82 rfl ?_
          refine G_putf (ws' := [(q4654, .inr (14, [.ref q4655, .int 1, .int 0, .int o5146, .int o5146])), (q4655, .inr (15, [.ref q4656, .int p4661])), (q4656, .inl (I .byte, 8192, .inl f4662))]) 0 4 d_cX9_advance_80 rfl (gk_X9 D I) (Nat.le_of_ble_eq_true rfl) w_1_83 rfl rfl rfl (Nat.le_of_ble_eq_true rfl) rfl ?_
          refine G_goto 194 d_cX9_advance_83 (by decide +kernel) ?_
          exact G_vret d_cX9_advance_194 rfl (Nat.le_of_ble_eq_true rfl) (Nat.le_of_ble_eq_true rfl) ⟨1, 0, o5146, o5146, rfl, rfl, (gB_w (gBl (show Int32.toInt 1 = 1 by decide)) (by decide) (by decide)), (gB_w (gBl (show Int32.toInt 0 = 0 by decide)) (by decide) (by decide)), (gB_w bo5146' (by decide) (by decide)), (gB_w bo5146' (by decide) (by decide)), (by have qa0 : Int32.toInt (-1) = (-1) := (by decide); have qa1 : Int32.toInt 0 = 0 := (by decide); have qa2 : Int32.toInt 1 = 1 := (by decide); omega)⟩
        · have bz5154' : gB z5154 0 0 := ⟨by omega, by omega⟩
          have bp4661' : gB p4661 0 0 := ⟨by omega, by omega⟩
          change G _ _ _ _ _ _ _ (.int (-1) :: _) _ _ _
          refine G_ws (ws' := [(q4654, .inr (14, [.ref q4655, .int p4657, .int p4658, .int o5146, .int p4660])), (q4655, .inr (15, [.ref q4656, .int p4661])), (q4656, .inl (I .byte, 8192, .inl f4662))]) (cs' := 0) (sl' := 0) rfl rfl rfl ?_
          refine G_istore_n (L' := [(3, .int (-1)), (2, .int (-1)), (1, .int 1), (0, .ref q4654)]) d_cX9_advance_59 (Nat.le_of_ble_eq_true rfl) rfl ?_
          refine G_aload_n 3 d_cX9_advance_60 rfl ?_
          refine G_iconst 0 d_cX9_advance_61 (by decide +kernel) ?_
          refine G_putf (ws' := [(q4654, .inr (14, [.ref q4655, .int p4657, .int 0, .int o5146, .int p4660])), (q4655, .inr (15, [.ref q4656, .int p4661])), (q4656, .inl (I .byte, 8192, .inl f4662))]) 0 2 d_cX9_advance_62 rfl (gk_X9 D I) (Nat.le_of_ble_eq_true rfl) w_1_81 rfl rfl rfl (Nat.le_of_ble_eq_true rfl) rfl ?_
          refine G_iload_n 1 d_cX9_advance_65 rfl ?_
          refine G_iconst (-1) d_cX9_advance_66 (by decide +kernel) ?_
          refine G_icmp_ne 86 d_cX9_advance_67 (by decide +kernel) (fun hc => absurd hc (by decide)) (fun _ => ?_)
          refine G_aload_n 3 d_cX9_advance_70 rfl ?_
          refine G_iconst 1 d_cX9_advance_71 (by decide +kernel) ?_
          refine G_putf (ws' := [(q4654, .inr (14, [.ref q4655, .int 1, .int 0, .int o5146, .int p4660])), (q4655, .inr (15, [.ref q4656, .int p4661])), (q4656, .inl (I .byte, 8192, .inl f4662))]) 0 1 d_cX9_advance_72 rfl (gk_X9 D I) (Nat.le_of_ble_eq_true rfl) w_1_80 rfl rfl rfl (Nat.le_of_ble_eq_true rfl) rfl ?_
          refine G_aload_n 3 d_cX9_advance_75 rfl ?_
          refine G_aload_n 3 d_cX9_advance_76 rfl ?_
          refine G_getf 0 3 d_cX9_advance_77 rfl (gk_X9 D I) (Nat.le_of_ble_eq_true rfl) w_1_82 rfl ?_
          refine G_putf (ws' := [(q4654, .inr (14, [.ref q4655, .int 1, .int 0, .int o5146, .int o5146])), (q4655, .inr (15, [.ref q4656, .int p4661])), (q4656, .inl (I .byte, 8192, .inl f4662))]) 0 4 d_cX9_advance_80 rfl (gk_X9 D I) (Nat.le_of_ble_eq_true rfl) w_1_83 rfl rfl rfl (Nat.le_of_ble_eq_true rfl) rfl ?_
          refine G_goto 194 d_cX9_advance_83 (by decide +kernel) ?_
          exact G_vret d_cX9_advance_194 rfl (Nat.le_of_ble_eq_true rfl) (Nat.le_of_ble_eq_true rfl) ⟨1, 0, o5146, o5146, rfl, rfl, (gB_w (gBl (show Int32.toInt 1 = 1 by decide)) (by decide) (by decide)), (gB_w (gBl (show Int32.toInt 0 = 0 by decide)) (by decide) (by decide)), (gB_w bo5146' (by decide) (by decide)), (gB_w bo5146' (by decide) (by decide)), (by have qa0 : Int32.toInt (-1) = (-1) := (by decide); have qa1 : Int32.toInt 0 = 0 := (by decide); have qa2 : Int32.toInt 1 = 1 := (by decide); omega)⟩
        · have bz5154' : gB z5154 0 0 := ⟨by omega, by omega⟩
          have bp4661' : gB p4661 1 8192 := ⟨by omega, by omega⟩
          change G _ _ _ _ _ _ _ (.int z5158 :: _) _ _ _
          refine G_ws (ws' := [(q4654, .inr (14, [.ref q4655, .int p4657, .int p4658, .int o5146, .int p4660])), (q4655, .inr (15, [.ref q4656, .int p4661])), (q4656, .inl (I .byte, 8192, .inl f4662))]) (cs' := 0) (sl' := 0) rfl rfl rfl ?_
          refine G_istore_n (L' := [(3, .int z5158), (2, .int (-1)), (1, .int 1), (0, .ref q4654)]) d_cX9_advance_59 (Nat.le_of_ble_eq_true rfl) rfl ?_
          refine G_aload_n 3 d_cX9_advance_60 rfl ?_
          refine G_iconst 0 d_cX9_advance_61 (by decide +kernel) ?_
          refine G_putf (ws' := [(q4654, .inr (14, [.ref q4655, .int p4657, .int 0, .int o5146, .int p4660])), (q4655, .inr (15, [.ref q4656, .int p4661])), (q4656, .inl (I .byte, 8192, .inl f4662))]) 0 2 d_cX9_advance_62 rfl (gk_X9 D I) (Nat.le_of_ble_eq_true rfl) w_1_81 rfl rfl rfl (Nat.le_of_ble_eq_true rfl) rfl ?_
          refine G_iload_n 1 d_cX9_advance_65 rfl ?_
          refine G_iconst (-1) d_cX9_advance_66 (by decide +kernel) ?_
          refine G_icmp_ne 86 d_cX9_advance_67 (by decide +kernel) (fun hc => absurd hc (by decide)) (fun _ => ?_)
          refine G_aload_n 3 d_cX9_advance_70 rfl ?_
          refine G_iconst 1 d_cX9_advance_71 (by decide +kernel) ?_
          refine G_putf (ws' := [(q4654, .inr (14, [.ref q4655, .int 1, .int 0, .int o5146, .int p4660])), (q4655, .inr (15, [.ref q4656, .int p4661])), (q4656, .inl (I .byte, 8192, .inl f4662))]) 0 1 d_cX9_advance_72 rfl (gk_X9 D I) (Nat.le_of_ble_eq_true rfl) w_1_80 rfl rfl rfl (Nat.le_of_ble_eq_true rfl) rfl ?_
          refine G_aload_n 3 d_cX9_advance_75 rfl ?_
          refine G_aload_n 3 d_cX9_advance_76 rfl ?_
          refine G_getf 0 3 d_cX9_advance_77 rfl (gk_X9 D I) (Nat.le_of_ble_eq_true rfl) w_1_82 rfl ?_
          refine G_putf (ws' := [(q4654, .inr (14, [.ref q4655, .int 1, .int 0, .int o5146, .int o5146])), (q4655, .inr (15, [.ref q4656, .int p4661])), (q4656, .inl (I .byte, 8192, .inl f4662))]) 0 4 d_cX9_advance_80 rfl (gk_X9 D I) (Nat.le_of_ble_eq_true rfl) w_1_83 rfl rfl rfl (Nat.le_of_ble_eq_true rfl) rfl ?_
          refine G_goto 194 d_cX9_advance_83 (by decide +kernel) ?_
          exact G_vret d_cX9_advance_194 rfl (Nat.le_of_ble_eq_true rfl) (Nat.le_of_ble_eq_true rfl) ⟨1, 0, o5146, o5146, rfl, rfl, (gB_w (gBl (show Int32.toInt 1 = 1 by decide)) (by decide) (by decide)), (gB_w (gBl (show Int32.toInt 0 = 0 by decide)) (by decide) (by decide)), (gB_w bo5146' (by decide) (by decide)), (gB_w bo5146' (by decide) (by decide)), (by have qa0 : Int32.toInt (-1) = (-1) := (by decide); have qa1 : Int32.toInt 0 = 0 := (by decide); have qa2 : Int32.toInt 1 = 1 := (by decide); omega)⟩
      · have bo5146' : gB o5146 0 8192 := ⟨by omega, by omega⟩
        change G _ _ _ _ _ _ _ (.int (-1) :: _) _ _ _
        refine G_ws (ws' := [(q4654, .inr (14, [.ref q4655, .int p4657, .int p4658, .int o5146, .int p4660])), (q4655, .inr (15, [.ref q4656, .int p4661])), (q4656, .inl (I .byte, 8192, .inl f4662))]) (cs' := 0) (sl' := 0) rfl rfl rfl ?_
        refine G_istore_n (L' := [(2, .int (-1)), (1, .int 1), (0, .ref q4654)]) d_cX9_advance_45 (Nat.le_of_ble_eq_true rfl) rfl ?_
        refine G_aload_n 2 d_cX9_advance_46 rfl ?_
        refine G_getf 0 0 d_cX9_advance_47 rfl (gk_X9 D I) (Nat.le_of_ble_eq_true rfl) w_1_79 rfl ?_
        refine G_aload_n 2 d_cX9_advance_50 rfl ?_
        refine G_getf 0 3 d_cX9_advance_51 rfl (gk_X9 D I) (Nat.le_of_ble_eq_true rfl) w_1_82 rfl ?_
        refine G_iconst 1 d_cX9_advance_54 (by decide +kernel) ?_
        refine G_iadd d_cX9_advance_55 (G_nam fun z5162 hz5162 => ?_)
        have ez5162 : z5162.toInt = o5146.toInt + 1 := by rw [gI_add hz5162 bo5146' (gBl (show Int32.toInt 1 = 1 by decide)) (by decide) (by decide), show Int32.toInt 1 = 1 from by decide]
        have bz5162 : gB z5162 1 8193 := gB_add (gI_add hz5162 bo5146' (gBl (show Int32.toInt 1 = 1 by decide)) (by decide) (by decide)) bo5146' (gBl (show Int32.toInt 1 = 1 by decide)) (by decide) (by decide)
        refine G_callV (As := [.int z5162]) (wr := [(q4654, .inr (14, [.ref q4655, .int p4657, .int p4658, .int o5146, .int p4660]))]) (gV_ok D I) (ct_30_Tape_byteAt l hl0 D I q4655 q4656 z5162 p4661 f4662 bp4661 bf4662) d_cX9_advance_56 ⟨w_3_20, w_1_2, w_3_23, by decide, rfl, (Nat.le_of_ble_eq_true rfl), (Nat.le_of_ble_eq_true rfl)⟩ w_3_21 w_3_22 1 rfl rfl [1, 2] [0] rfl rfl rfl rfl (by decide) (Nat.le_of_ble_eq_true rfl) (Nat.le_of_ble_eq_true rfl) (Nat.le_of_ble_eq_true rfl) (fun r w hp => ?_) (fun _ _ _ z => z.elim)
        rcases hp with ⟨rfl, rfl, r5163⟩ | ⟨rfl, rfl, r5164, r5165⟩ | ⟨z5166, rfl, rfl, r5167, r5168, r5169⟩
        · exact absurd (show False by omega) not_false
        · change G _ _ _ _ _ _ _ (.int (-1) :: _) _ _ _
          refine G_ws (ws' := [(q4654, .inr (14, [.ref q4655, .int p4657, .int p4658, .int o5146, .int p4660])), (q4655, .inr (15, [.ref q4656, .int p4661])), (q4656, .inl (I .byte, 8192, .inl f4662))]) (cs' := 0) (sl' := 0) rfl rfl rfl ?_
          refine G_istore_n (L' := [(3, .int (-1)), (2, .int (-1)), (1, .int 1), (0, .ref q4654)]) d_cX9_advance_59 (Nat.le_of_ble_eq_true rfl) rfl ?_
          refine G_aload_n 3 d_cX9_advance_60 rfl ?_
          refine G_iconst 0 d_cX9_advance_61 (by decide +kernel) ?_
          refine G_putf (ws' := [(q4654, .inr (14, [.ref q4655, .int p4657, .int 0, .int o5146, .int p4660])), (q4655, .inr (15, [.ref q4656, .int p4661])), (q4656, .inl (I .byte, 8192, .inl f4662))]) 0 2 d_cX9_advance_62 rfl (gk_X9 D I) (Nat.le_of_ble_eq_true rfl) w_1_81 rfl rfl rfl (Nat.le_of_ble_eq_true rfl) rfl ?_
          refine G_iload_n 1 d_cX9_advance_65 rfl ?_
          refine G_iconst (-1) d_cX9_advance_66 (by decide +kernel) ?_
          refine G_icmp_ne 86 d_cX9_advance_67 (by decide +kernel) (fun hc => absurd hc (by decide)) (fun _ => ?_)
          refine G_aload_n 3 d_cX9_advance_70 rfl ?_
          refine G_iconst 1 d_cX9_advance_71 (by decide +kernel) ?_
          refine G_putf (ws' := [(q4654, .inr (14, [.ref q4655, .int 1, .int 0, .int o5146, .int p4660])), (q4655, .inr (15, [.ref q4656, .int p4661])), (q4656, .inl (I .byte, 8192, .inl f4662))]) 0 1 d_cX9_advance_72 rfl (gk_X9 D I) (Nat.le_of_ble_eq_true rfl) w_1_80 rfl rfl rfl (Nat.le_of_ble_eq_true rfl) rfl ?_
          refine G_aload_n 3 d_cX9_advance_75 rfl ?_
          refine G_aload_n 3 d_cX9_advance_76 rfl ?_
          refine G_getf 0 3 d_cX9_advance_77 rfl (gk_X9 D I) (Nat.le_of_ble_eq_true rfl) w_1_82 rfl ?_
          refine G_putf (ws' := [(q4654, .inr (14, [.ref q4655, .int 1, .int 0, .int o5146, .int o5146])), (q4655, .inr (15, [.ref q4656, .int p4661])), (q4656, .inl (I .byte, 8192, .inl f4662))]) 0 4 d_cX9_advance_80 rfl (gk_X9 D I) (Nat.le_of_ble_eq_true rfl) w_1_83 rfl rfl rfl (Nat.le_of_ble_eq_true rfl) rfl ?_
          refine G_goto 194 d_cX9_advance_83 (by decide +kernel) ?_
          exact G_vret d_cX9_advance_194 rfl (Nat.le_of_ble_eq_true rfl) (Nat.le_of_ble_eq_true rfl) ⟨1, 0, o5146, o5146, rfl, rfl, (gB_w (gBl (show Int32.toInt 1 = 1 by decide)) (by decide) (by decide)), (gB_w (gBl (show Int32.toInt 0 = 0 by decide)) (by decide) (by decide)), (gB_w bo5146' (by decide) (by decide)), (gB_w bo5146' (by decide) (by decide)), (by have qa0 : Int32.toInt (-1) = (-1) := (by decide); have qa1 : Int32.toInt 0 = 0 := (by decide); have qa2 : Int32.toInt 1 = 1 := (by decide); omega)⟩
        · have bz5162' : gB z5162 1 8191 := ⟨by omega, by omega⟩
          have bp4661' : gB p4661 2 8192 := ⟨by omega, by omega⟩
          change G _ _ _ _ _ _ _ (.int z5166 :: _) _ _ _
          refine G_ws (ws' := [(q4654, .inr (14, [.ref q4655, .int p4657, .int p4658, .int o5146, .int p4660])), (q4655, .inr (15, [.ref q4656, .int p4661])), (q4656, .inl (I .byte, 8192, .inl f4662))]) (cs' := 0) (sl' := 0) rfl rfl rfl ?_
          refine G_istore_n (L' := [(3, .int z5166), (2, .int (-1)), (1, .int 1), (0, .ref q4654)]) d_cX9_advance_59 (Nat.le_of_ble_eq_true rfl) rfl ?_
          refine G_aload_n 3 d_cX9_advance_60 rfl ?_
          refine G_iconst 0 d_cX9_advance_61 (by decide +kernel) ?_
          refine G_putf (ws' := [(q4654, .inr (14, [.ref q4655, .int p4657, .int 0, .int o5146, .int p4660])), (q4655, .inr (15, [.ref q4656, .int p4661])), (q4656, .inl (I .byte, 8192, .inl f4662))]) 0 2 d_cX9_advance_62 rfl (gk_X9 D I) (Nat.le_of_ble_eq_true rfl) w_1_81 rfl rfl rfl (Nat.le_of_ble_eq_true rfl) rfl ?_
          refine G_iload_n 1 d_cX9_advance_65 rfl ?_
          refine G_iconst (-1) d_cX9_advance_66 (by decide +kernel) ?_
          refine G_icmp_ne 86 d_cX9_advance_67 (by decide +kernel) (fun hc => absurd hc (by decide)) (fun _ => ?_)
          refine G_aload_n 3 d_cX9_advance_70 rfl ?_
          refine G_iconst 1 d_cX9_advance_71 (by decide +kernel) ?_
          refine G_putf (ws' := [(q4654, .inr (14, [.ref q4655, .int 1, .int 0, .int o5146, .int p4660])), (q4655, .inr (15, [.ref q4656, .int p4661])), (q4656, .inl (I .byte, 8192, .inl f4662))]) 0 1 d_cX9_advance_72 rfl (gk_X9 D I) (Nat.le_of_ble_eq_true rfl) w_1_80 rfl rfl rfl (Nat.le_of_ble_eq_true rfl) rfl ?_
          refine G_aload_n 3 d_cX9_advance_75 rfl ?_
          refine G_aload_n 3 d_cX9_advance_76 rfl ?_
          refine G_getf 0 3 d_cX9_advance_77 rfl (gk_X9 D I) (Nat.le_of_ble_eq_true rfl) w_1_82 rfl ?_
          refine G_putf (ws' := [(q4654, .inr (14, [.ref q4655, .int 1, .int 0, .int o5146, .int o5146])), (q4655, .inr (15, [.ref q4656, .int p4661])), (q4656, .inl (I .byte, 8192, .inl f4662))]) 0 4 d_cX9_advance_80 rfl (gk_X9 D I) (Nat.le_of_ble_eq_true rfl) w_1_83 rfl rfl rfl (Nat.le_of_ble_eq_true rfl) rfl ?_
          refine G_goto 194 d_cX9_advance_83 (by decide +kernel) ?_
          exact G_vret d_cX9_advance_194 rfl (Nat.le_of_ble_eq_true rfl) (Nat.le_of_ble_eq_true rfl) ⟨1, 0, o5146, o5146, rfl, rfl, (gB_w (gBl (show Int32.toInt 1 = 1 by decide)) (by decide) (by decide)), (gB_w (gBl (show Int32.toInt 0 = 0 by decide)) (by decide) (by decide)), (gB_w bo5146' (by decide) (by decide)), (gB_w bo5146' (by decide) (by decide)), (by have qa0 : Int32.toInt (-1) = (-1) := (by decide); have qa1 : Int32.toInt 0 = 0 := (by decide); have qa2 : Int32.toInt 1 = 1 := (by decide); omega)⟩
      · have bo5146' : gB o5146 0 8192 := ⟨by omega, by omega⟩
        have bo5146'' : gB o5146 0 8191 := ⟨by omega, by omega⟩
        have bp4661' : gB p4661 1 8192 := ⟨by omega, by omega⟩
        change G _ _ _ _ _ _ _ (.int z5150 :: _) _ _ _
        refine G_ws (ws' := [(q4654, .inr (14, [.ref q4655, .int p4657, .int p4658, .int o5146, .int p4660])), (q4655, .inr (15, [.ref q4656, .int p4661])), (q4656, .inl (I .byte, 8192, .inl f4662))]) (cs' := 0) (sl' := 0) rfl rfl rfl ?_
        refine G_istore_n (L' := [(2, .int z5150), (1, .int 1), (0, .ref q4654)]) d_cX9_advance_45 (Nat.le_of_ble_eq_true rfl) rfl ?_
        refine G_aload_n 2 d_cX9_advance_46 rfl ?_
        refine G_getf 0 0 d_cX9_advance_47 rfl (gk_X9 D I) (Nat.le_of_ble_eq_true rfl) w_1_79 rfl ?_
        refine G_aload_n 2 d_cX9_advance_50 rfl ?_
        refine G_getf 0 3 d_cX9_advance_51 rfl (gk_X9 D I) (Nat.le_of_ble_eq_true rfl) w_1_82 rfl ?_
        refine G_iconst 1 d_cX9_advance_54 (by decide +kernel) ?_
        refine G_iadd d_cX9_advance_55 (G_nam fun z5170 hz5170 => ?_)
        have ez5170 : z5170.toInt = o5146.toInt + 1 := by rw [gI_add hz5170 bo5146'' (gBl (show Int32.toInt 1 = 1 by decide)) (by decide) (by decide), show Int32.toInt 1 = 1 from by decide]
        have bz5170 : gB z5170 1 8192 := gB_add (gI_add hz5170 bo5146'' (gBl (show Int32.toInt 1 = 1 by decide)) (by decide) (by decide)) bo5146'' (gBl (show Int32.toInt 1 = 1 by decide)) (by decide) (by decide)
        refine G_callV (As := [.int z5170]) (wr := [(q4654, .inr (14, [.ref q4655, .int p4657, .int p4658, .int o5146, .int p4660]))]) (gV_ok D I) (ct_30_Tape_byteAt l hl0 D I q4655 q4656 z5170 p4661 f4662 (gB_w bp4661' (by decide) (by decide)) bf4662) d_cX9_advance_56 ⟨w_3_20, w_1_2, w_3_23, by decide, rfl, (Nat.le_of_ble_eq_true rfl), (Nat.le_of_ble_eq_true rfl)⟩ w_3_21 w_3_22 1 rfl rfl [1, 2] [0] rfl rfl rfl rfl (by decide) (Nat.le_of_ble_eq_true rfl) (Nat.le_of_ble_eq_true rfl) (Nat.le_of_ble_eq_true rfl) (fun r w hp => ?_) (fun _ _ _ z => z.elim)
        rcases hp with ⟨rfl, rfl, r5171⟩ | ⟨rfl, rfl, r5172, r5173⟩ | ⟨z5174, rfl, rfl, r5175, r5176, r5177⟩
        · exact absurd (show False by omega) not_false
        · change G _ _ _ _ _ _ _ (.int (-1) :: _) _ _ _
          refine G_ws (ws' := [(q4654, .inr (14, [.ref q4655, .int p4657, .int p4658, .int o5146, .int p4660])), (q4655, .inr (15, [.ref q4656, .int p4661])), (q4656, .inl (I .byte, 8192, .inl f4662))]) (cs' := 0) (sl' := 0) rfl rfl rfl ?_
          refine G_istore_n (L' := [(3, .int (-1)), (2, .int z5150), (1, .int 1), (0, .ref q4654)]) d_cX9_advance_59 (Nat.le_of_ble_eq_true rfl) rfl ?_
          refine G_aload_n 3 d_cX9_advance_60 rfl ?_
          refine G_iconst 0 d_cX9_advance_61 (by decide +kernel) ?_
          refine G_putf (ws' := [(q4654, .inr (14, [.ref q4655, .int p4657, .int 0, .int o5146, .int p4660])), (q4655, .inr (15, [.ref q4656, .int p4661])), (q4656, .inl (I .byte, 8192, .inl f4662))]) 0 2 d_cX9_advance_62 rfl (gk_X9 D I) (Nat.le_of_ble_eq_true rfl) w_1_81 rfl rfl rfl (Nat.le_of_ble_eq_true rfl) rfl ?_
          refine G_iload_n 1 d_cX9_advance_65 rfl ?_
          refine G_iconst (-1) d_cX9_advance_66 (by decide +kernel) ?_
          refine G_icmp_ne 86 d_cX9_advance_67 (by decide +kernel) (fun _ => ?_) (fun hc => absurd (show False by have := gj_eq hc (show Int32.toInt (-1) = (-1) by decide); omega) not_false)
          refine G_iload_n 1 d_cX9_advance_86 rfl ?_
          refine G_callS (As := [.int z5150]) (wr := [(q4654, .inr (14, [.ref q4655, .int p4657, .int 0, .int o5146, .int p4660])), (q4655, .inr (15, [.ref q4656, .int p4661])), (q4656, .inl (I .byte, 8192, .inl f4662))]) (gV_ok D I) (ct_300_Signs_isDigit l hl0 D I z5150 ) d_cX9_advance_87 ⟨w_3_24, w_1_4, w_3_26, by decide, rfl, (Nat.le_of_ble_eq_true rfl), (Nat.le_of_ble_eq_true rfl)⟩ w_3_25 [] [0, 1, 2] rfl rfl rfl rfl (by decide) (Nat.le_of_ble_eq_true rfl) (Nat.le_of_ble_eq_true rfl) (Nat.le_of_ble_eq_true rfl) (fun r w hp => ?_) (fun _ _ _ z => z.elim)
          rcases hp with ⟨rfl, rfl, r5178⟩ | ⟨rfl, rfl, r5179, r5180⟩ | ⟨rfl, rfl, r5181, r5182⟩
          · have r5153' : gB z5150 0 47 := ⟨by omega, by omega⟩
            change G _ _ _ _ _ _ _ (.int 0 :: _) _ _ _
            refine G_ws (ws' := [(q4654, .inr (14, [.ref q4655, .int p4657, .int 0, .int o5146, .int p4660])), (q4655, .inr (15, [.ref q4656, .int p4661])), (q4656, .inl (I .byte, 8192, .inl f4662))]) (cs' := 0) (sl' := 0) rfl rfl rfl ?_
            refine G_if_ne 110 d_cX9_advance_90 (by decide +kernel) (fun hc => absurd hc (by decide)) (fun _ => ?_)
            refine G_iload_n 1 d_cX9_advance_93 rfl ?_
            refine G_bipush 45 d_cX9_advance_94 (by decide +kernel) ?_
            refine G_icmp_ne 128 d_cX9_advance_96 (by decide +kernel) (fun hc5183 => ?_) (fun hc5183 => ?_)
            · have r5184 : z5150.toInt ≠ 45 := gj_neq hc5183 (show Int32.toInt 45 = 45 by decide)
              refine G_iload_n 1 d_cX9_advance_128 rfl ?_
              refine G_bipush 118 d_cX9_advance_129 (by decide +kernel) ?_
              refine G_icmp_ne 151 d_cX9_advance_131 (by decide +kernel) (fun _ => ?_) (fun hc => absurd (show False by have := gj_eq hc (show Int32.toInt 118 = 118 by decide); omega) not_false)
              refine G_iload_n 1 d_cX9_advance_151 rfl ?_
              refine G_bipush 98 d_cX9_advance_152 (by decide +kernel) ?_
              refine G_icmp_ne 174 d_cX9_advance_154 (by decide +kernel) (fun _ => ?_) (fun hc => absurd (show False by have := gj_eq hc (show Int32.toInt 98 = 98 by decide); omega) not_false)
              refine G_iload_n 1 d_cX9_advance_174 rfl ?_
              refine G_callS (As := [.int z5150]) (wr := [(q4654, .inr (14, [.ref q4655, .int p4657, .int 0, .int o5146, .int p4660])), (q4655, .inr (15, [.ref q4656, .int p4661])), (q4656, .inl (I .byte, 8192, .inl f4662))]) (gV_ok D I) (ct_308_Signs_isLetter l hl0 D I z5150 ) d_cX9_advance_175 ⟨w_3_45, w_1_4, w_3_47, by decide, rfl, (Nat.le_of_ble_eq_true rfl), (Nat.le_of_ble_eq_true rfl)⟩ w_3_46 [] [0, 1, 2] rfl rfl rfl rfl (by decide) (Nat.le_of_ble_eq_true rfl) (Nat.le_of_ble_eq_true rfl) (Nat.le_of_ble_eq_true rfl) (fun r w hp => ?_) (fun _ _ _ z => z.elim)
              rcases hp with ⟨rfl, rfl, r5185⟩ | ⟨rfl, rfl, r5186, r5187⟩ | ⟨rfl, rfl, r5188, r5189⟩
              · change G _ _ _ _ _ _ _ (.int 0 :: _) _ _ _
                refine G_ws (ws' := [(q4654, .inr (14, [.ref q4655, .int p4657, .int 0, .int o5146, .int p4660])), (q4655, .inr (15, [.ref q4656, .int p4661])), (q4656, .inl (I .byte, 8192, .inl f4662))]) (cs' := 0) (sl' := 0) rfl rfl rfl ?_
                refine G_if_eq 188 d_cX9_advance_178 (by decide +kernel) (fun _ => ?_) (fun hc => absurd hc (by decide))
                refine G_aload_n 3 d_cX9_advance_188 rfl ?_
                refine G_iload_n 1 d_cX9_advance_189 rfl ?_
                refine G_iload_n 0 d_cX9_advance_190 rfl ?_
                refine G_callV (As := [.int z5150, .int (-1)]) (wr := []) (gV_ok D I) (ct_4620_Signs_takeMark l hl0 D I q4654 q4655 q4656 z5150 (-1) p4657 0 o5146 p4660 p4661 f4662 (gB_w bp4661' (by decide) (by decide)) bf4662 (by have qa0 : Int32.toInt (-1) = (-1) := (by decide); have qa1 : Int32.toInt 0 = 0 := (by decide); have qa2 : Int32.toInt 1 = 1 := (by decide); omega)) d_cX9_advance_191 ⟨w_3_109, w_1_4, w_3_112, by decide, rfl, (Nat.le_of_ble_eq_true rfl), (Nat.le_of_ble_eq_true rfl)⟩ w_3_111 w_p_6 0 rfl rfl [0, 1, 2] [] rfl rfl rfl rfl (by decide) (Nat.le_of_ble_eq_true rfl) (Nat.le_of_ble_eq_true rfl) (Nat.le_of_ble_eq_true rfl) (fun r w hp => ?_) (fun _ _ _ z => z.elim)
                obtain ⟨o5190, o5191, o5192, rfl, rfl, bo5190, bo5191, bo5192, x5193⟩ := hp
                change G _ _ _ _ _ _ _ _ _ _ _
                refine G_ws (ws' := [(q4654, .inr (14, [.ref q4655, .int o5190, .int o5191, .int o5146, .int o5192])), (q4655, .inr (15, [.ref q4656, .int p4661])), (q4656, .inl (I .byte, 8192, .inl f4662))]) (cs' := 0) (sl' := 0) rfl rfl rfl ?_
                exact G_vret d_cX9_advance_194 rfl (Nat.le_of_ble_eq_true rfl) (Nat.le_of_ble_eq_true rfl) ⟨o5190, o5191, o5146, o5192, rfl, rfl, (gB_w bo5190 (by decide) (by decide)), (gB_w bo5191 (by decide) (by decide)), (gB_w bo5146'' (by decide) (by decide)), bo5192, (by have qa0 : Int32.toInt (-1) = (-1) := (by decide); have qa1 : Int32.toInt 1 = 1 := (by decide); omega)⟩
              · exact absurd (show False by omega) not_false
              · exact absurd (show False by omega) not_false
            · have r5194 : z5150.toInt = 45 := gj_eq hc5183 (show Int32.toInt 45 = 45 by decide)
              have r5153'' : gB z5150 45 45 := ⟨by omega, by omega⟩
              refine G_iload_n 0 d_cX9_advance_99 rfl ?_
              refine G_callS (As := [.int (-1)]) (wr := [(q4654, .inr (14, [.ref q4655, .int p4657, .int 0, .int o5146, .int p4660])), (q4655, .inr (15, [.ref q4656, .int p4661])), (q4656, .inl (I .byte, 8192, .inl f4662))]) (gV_ok D I) (ct_300_Signs_isDigit l hl0 D I (-1) ) d_cX9_advance_100 ⟨w_3_24, w_1_4, w_3_26, by decide, rfl, (Nat.le_of_ble_eq_true rfl), (Nat.le_of_ble_eq_true rfl)⟩ w_3_25 [] [0, 1, 2] rfl rfl rfl rfl (by decide) (Nat.le_of_ble_eq_true rfl) (Nat.le_of_ble_eq_true rfl) (Nat.le_of_ble_eq_true rfl) (fun r w hp => ?_) (fun _ _ _ z => z.elim)
              rcases hp with ⟨rfl, rfl, r5195⟩ | ⟨rfl, rfl, r5196, r5197⟩ | ⟨rfl, rfl, r5198, r5199⟩
              · rw [show Int32.toInt (-1) = (-1) from by decide] at r5195
                change G _ _ _ _ _ _ _ (.int 0 :: _) _ _ _
                refine G_ws (ws' := [(q4654, .inr (14, [.ref q4655, .int p4657, .int 0, .int o5146, .int p4660])), (q4655, .inr (15, [.ref q4656, .int p4661])), (q4656, .inl (I .byte, 8192, .inl f4662))]) (cs' := 0) (sl' := 0) rfl rfl rfl ?_
                refine G_if_eq 128 d_cX9_advance_103 (by decide +kernel) (fun _ => ?_) (fun hc => absurd hc (by decide))
                refine G_iload_n 1 d_cX9_advance_128 rfl ?_
                refine G_bipush 118 d_cX9_advance_129 (by decide +kernel) ?_
                refine G_icmp_ne 151 d_cX9_advance_131 (by decide +kernel) (fun _ => ?_) (fun hc => absurd (show False by have := gj_eq hc (show Int32.toInt 118 = 118 by decide); omega) not_false)
                refine G_iload_n 1 d_cX9_advance_151 rfl ?_
                refine G_bipush 98 d_cX9_advance_152 (by decide +kernel) ?_
                refine G_icmp_ne 174 d_cX9_advance_154 (by decide +kernel) (fun _ => ?_) (fun hc => absurd (show False by have := gj_eq hc (show Int32.toInt 98 = 98 by decide); omega) not_false)
                refine G_iload_n 1 d_cX9_advance_174 rfl ?_
                refine G_callS (As := [.int z5150]) (wr := [(q4654, .inr (14, [.ref q4655, .int p4657, .int 0, .int o5146, .int p4660])), (q4655, .inr (15, [.ref q4656, .int p4661])), (q4656, .inl (I .byte, 8192, .inl f4662))]) (gV_ok D I) (ct_308_Signs_isLetter l hl0 D I z5150 ) d_cX9_advance_175 ⟨w_3_45, w_1_4, w_3_47, by decide, rfl, (Nat.le_of_ble_eq_true rfl), (Nat.le_of_ble_eq_true rfl)⟩ w_3_46 [] [0, 1, 2] rfl rfl rfl rfl (by decide) (Nat.le_of_ble_eq_true rfl) (Nat.le_of_ble_eq_true rfl) (Nat.le_of_ble_eq_true rfl) (fun r w hp => ?_) (fun _ _ _ z => z.elim)
                rcases hp with ⟨rfl, rfl, r5200⟩ | ⟨rfl, rfl, r5201, r5202⟩ | ⟨rfl, rfl, r5203, r5204⟩
                · change G _ _ _ _ _ _ _ (.int 0 :: _) _ _ _
                  refine G_ws (ws' := [(q4654, .inr (14, [.ref q4655, .int p4657, .int 0, .int o5146, .int p4660])), (q4655, .inr (15, [.ref q4656, .int p4661])), (q4656, .inl (I .byte, 8192, .inl f4662))]) (cs' := 0) (sl' := 0) rfl rfl rfl ?_
                  refine G_if_eq 188 d_cX9_advance_178 (by decide +kernel) (fun _ => ?_) (fun hc => absurd hc (by decide))
                  refine G_aload_n 3 d_cX9_advance_188 rfl ?_
                  refine G_iload_n 1 d_cX9_advance_189 rfl ?_
                  refine G_iload_n 0 d_cX9_advance_190 rfl ?_
                  refine G_callV (As := [.int z5150, .int (-1)]) (wr := []) (gV_ok D I) (ct_4620_Signs_takeMark l hl0 D I q4654 q4655 q4656 z5150 (-1) p4657 0 o5146 p4660 p4661 f4662 (gB_w bp4661' (by decide) (by decide)) bf4662 (by have qa0 : Int32.toInt (-1) = (-1) := (by decide); have qa1 : Int32.toInt 0 = 0 := (by decide); have qa2 : Int32.toInt 1 = 1 := (by decide); omega)) d_cX9_advance_191 ⟨w_3_109, w_1_4, w_3_112, by decide, rfl, (Nat.le_of_ble_eq_true rfl), (Nat.le_of_ble_eq_true rfl)⟩ w_3_111 w_p_6 0 rfl rfl [0, 1, 2] [] rfl rfl rfl rfl (by decide) (Nat.le_of_ble_eq_true rfl) (Nat.le_of_ble_eq_true rfl) (Nat.le_of_ble_eq_true rfl) (fun r w hp => ?_) (fun _ _ _ z => z.elim)
                  obtain ⟨o5205, o5206, o5207, rfl, rfl, bo5205, bo5206, bo5207, x5208⟩ := hp
                  change G _ _ _ _ _ _ _ _ _ _ _
                  refine G_ws (ws' := [(q4654, .inr (14, [.ref q4655, .int o5205, .int o5206, .int o5146, .int o5207])), (q4655, .inr (15, [.ref q4656, .int p4661])), (q4656, .inl (I .byte, 8192, .inl f4662))]) (cs' := 0) (sl' := 0) rfl rfl rfl ?_
                  exact G_vret d_cX9_advance_194 rfl (Nat.le_of_ble_eq_true rfl) (Nat.le_of_ble_eq_true rfl) ⟨o5205, o5206, o5146, o5207, rfl, rfl, (gB_w bo5205 (by decide) (by decide)), (gB_w bo5206 (by decide) (by decide)), (gB_w bo5146'' (by decide) (by decide)), bo5207, (by have qa0 : Int32.toInt (-1) = (-1) := (by decide); have qa1 : Int32.toInt 1 = 1 := (by decide); omega)⟩
                · exact absurd (show False by omega) not_false
                · exact absurd (show False by omega) not_false
              · rw [show Int32.toInt (-1) = (-1) from by decide] at r5196
                exact absurd (show False by omega) not_false
              · rw [show Int32.toInt (-1) = (-1) from by decide] at r5198
                exact absurd (show False by omega) not_false
          · have r5153' : gB z5150 48 255 := ⟨by omega, by omega⟩
            have r5153'' : gB z5150 58 255 := ⟨by omega, by omega⟩
            change G _ _ _ _ _ _ _ (.int 0 :: _) _ _ _
            refine G_ws (ws' := [(q4654, .inr (14, [.ref q4655, .int p4657, .int 0, .int o5146, .int p4660])), (q4655, .inr (15, [.ref q4656, .int p4661])), (q4656, .inl (I .byte, 8192, .inl f4662))]) (cs' := 0) (sl' := 0) rfl rfl rfl ?_
            refine G_if_ne 110 d_cX9_advance_90 (by decide +kernel) (fun hc => absurd hc (by decide)) (fun _ => ?_)
            refine G_iload_n 1 d_cX9_advance_93 rfl ?_
            refine G_bipush 45 d_cX9_advance_94 (by decide +kernel) ?_
            refine G_icmp_ne 128 d_cX9_advance_96 (by decide +kernel) (fun _ => ?_) (fun hc => absurd (show False by have := gj_eq hc (show Int32.toInt 45 = 45 by decide); omega) not_false)
            refine G_iload_n 1 d_cX9_advance_128 rfl ?_
            refine G_bipush 118 d_cX9_advance_129 (by decide +kernel) ?_
            refine G_icmp_ne 151 d_cX9_advance_131 (by decide +kernel) (fun hc5209 => ?_) (fun hc5209 => ?_)
            · have r5210 : z5150.toInt ≠ 118 := gj_neq hc5209 (show Int32.toInt 118 = 118 by decide)
              refine G_iload_n 1 d_cX9_advance_151 rfl ?_
              refine G_bipush 98 d_cX9_advance_152 (by decide +kernel) ?_
              refine G_icmp_ne 174 d_cX9_advance_154 (by decide +kernel) (fun hc5211 => ?_) (fun hc5211 => ?_)
              · have r5212 : z5150.toInt ≠ 98 := gj_neq hc5211 (show Int32.toInt 98 = 98 by decide)
                refine G_iload_n 1 d_cX9_advance_174 rfl ?_
                refine G_callS (As := [.int z5150]) (wr := [(q4654, .inr (14, [.ref q4655, .int p4657, .int 0, .int o5146, .int p4660])), (q4655, .inr (15, [.ref q4656, .int p4661])), (q4656, .inl (I .byte, 8192, .inl f4662))]) (gV_ok D I) (ct_308_Signs_isLetter l hl0 D I z5150 ) d_cX9_advance_175 ⟨w_3_45, w_1_4, w_3_47, by decide, rfl, (Nat.le_of_ble_eq_true rfl), (Nat.le_of_ble_eq_true rfl)⟩ w_3_46 [] [0, 1, 2] rfl rfl rfl rfl (by decide) (Nat.le_of_ble_eq_true rfl) (Nat.le_of_ble_eq_true rfl) (Nat.le_of_ble_eq_true rfl) (fun r w hp => ?_) (fun _ _ _ z => z.elim)
                rcases hp with ⟨rfl, rfl, r5213⟩ | ⟨rfl, rfl, r5214, r5215⟩ | ⟨rfl, rfl, r5216, r5217⟩
                · have r5153''' : gB z5150 58 96 := ⟨by omega, by omega⟩
                  change G _ _ _ _ _ _ _ (.int 0 :: _) _ _ _
                  refine G_ws (ws' := [(q4654, .inr (14, [.ref q4655, .int p4657, .int 0, .int o5146, .int p4660])), (q4655, .inr (15, [.ref q4656, .int p4661])), (q4656, .inl (I .byte, 8192, .inl f4662))]) (cs' := 0) (sl' := 0) rfl rfl rfl ?_
                  refine G_if_eq 188 d_cX9_advance_178 (by decide +kernel) (fun _ => ?_) (fun hc => absurd hc (by decide))
                  refine G_aload_n 3 d_cX9_advance_188 rfl ?_
                  refine G_iload_n 1 d_cX9_advance_189 rfl ?_
                  refine G_iload_n 0 d_cX9_advance_190 rfl ?_
                  refine G_callV (As := [.int z5150, .int (-1)]) (wr := []) (gV_ok D I) (ct_4620_Signs_takeMark l hl0 D I q4654 q4655 q4656 z5150 (-1) p4657 0 o5146 p4660 p4661 f4662 (gB_w bp4661' (by decide) (by decide)) bf4662 (by have qa0 : Int32.toInt (-1) = (-1) := (by decide); have qa1 : Int32.toInt 0 = 0 := (by decide); have qa2 : Int32.toInt 1 = 1 := (by decide); omega)) d_cX9_advance_191 ⟨w_3_109, w_1_4, w_3_112, by decide, rfl, (Nat.le_of_ble_eq_true rfl), (Nat.le_of_ble_eq_true rfl)⟩ w_3_111 w_p_6 0 rfl rfl [0, 1, 2] [] rfl rfl rfl rfl (by decide) (Nat.le_of_ble_eq_true rfl) (Nat.le_of_ble_eq_true rfl) (Nat.le_of_ble_eq_true rfl) (fun r w hp => ?_) (fun _ _ _ z => z.elim)
                  obtain ⟨o5218, o5219, o5220, rfl, rfl, bo5218, bo5219, bo5220, x5221⟩ := hp
                  change G _ _ _ _ _ _ _ _ _ _ _
                  refine G_ws (ws' := [(q4654, .inr (14, [.ref q4655, .int o5218, .int o5219, .int o5146, .int o5220])), (q4655, .inr (15, [.ref q4656, .int p4661])), (q4656, .inl (I .byte, 8192, .inl f4662))]) (cs' := 0) (sl' := 0) rfl rfl rfl ?_
                  exact G_vret d_cX9_advance_194 rfl (Nat.le_of_ble_eq_true rfl) (Nat.le_of_ble_eq_true rfl) ⟨o5218, o5219, o5146, o5220, rfl, rfl, (gB_w bo5218 (by decide) (by decide)), (gB_w bo5219 (by decide) (by decide)), (gB_w bo5146'' (by decide) (by decide)), bo5220, (by have qa0 : Int32.toInt (-1) = (-1) := (by decide); have qa1 : Int32.toInt 1 = 1 := (by decide); omega)⟩
                · have r5153''' : gB z5150 97 255 := ⟨by omega, by omega⟩
                  have r5153'''' : gB z5150 123 255 := ⟨by omega, by omega⟩
                  change G _ _ _ _ _ _ _ (.int 0 :: _) _ _ _
                  refine G_ws (ws' := [(q4654, .inr (14, [.ref q4655, .int p4657, .int 0, .int o5146, .int p4660])), (q4655, .inr (15, [.ref q4656, .int p4661])), (q4656, .inl (I .byte, 8192, .inl f4662))]) (cs' := 0) (sl' := 0) rfl rfl rfl ?_
                  refine G_if_eq 188 d_cX9_advance_178 (by decide +kernel) (fun _ => ?_) (fun hc => absurd hc (by decide))
                  refine G_aload_n 3 d_cX9_advance_188 rfl ?_
                  refine G_iload_n 1 d_cX9_advance_189 rfl ?_
                  refine G_iload_n 0 d_cX9_advance_190 rfl ?_
                  refine G_callV (As := [.int z5150, .int (-1)]) (wr := []) (gV_ok D I) (ct_4620_Signs_takeMark l hl0 D I q4654 q4655 q4656 z5150 (-1) p4657 0 o5146 p4660 p4661 f4662 (gB_w bp4661' (by decide) (by decide)) bf4662 (by have qa0 : Int32.toInt (-1) = (-1) := (by decide); have qa1 : Int32.toInt 0 = 0 := (by decide); have qa2 : Int32.toInt 1 = 1 := (by decide); omega)) d_cX9_advance_191 ⟨w_3_109, w_1_4, w_3_112, by decide, rfl, (Nat.le_of_ble_eq_true rfl), (Nat.le_of_ble_eq_true rfl)⟩ w_3_111 w_p_6 0 rfl rfl [0, 1, 2] [] rfl rfl rfl rfl (by decide) (Nat.le_of_ble_eq_true rfl) (Nat.le_of_ble_eq_true rfl) (Nat.le_of_ble_eq_true rfl) (fun r w hp => ?_) (fun _ _ _ z => z.elim)
                  obtain ⟨o5222, o5223, o5224, rfl, rfl, bo5222, bo5223, bo5224, x5225⟩ := hp
                  change G _ _ _ _ _ _ _ _ _ _ _
                  refine G_ws (ws' := [(q4654, .inr (14, [.ref q4655, .int o5222, .int o5223, .int o5146, .int o5224])), (q4655, .inr (15, [.ref q4656, .int p4661])), (q4656, .inl (I .byte, 8192, .inl f4662))]) (cs' := 0) (sl' := 0) rfl rfl rfl ?_
                  exact G_vret d_cX9_advance_194 rfl (Nat.le_of_ble_eq_true rfl) (Nat.le_of_ble_eq_true rfl) ⟨o5222, o5223, o5146, o5224, rfl, rfl, (gB_w bo5222 (by decide) (by decide)), (gB_w bo5223 (by decide) (by decide)), (gB_w bo5146'' (by decide) (by decide)), bo5224, (by have qa0 : Int32.toInt (-1) = (-1) := (by decide); have qa1 : Int32.toInt 1 = 1 := (by decide); omega)⟩
                · have r5153''' : gB z5150 97 255 := ⟨by omega, by omega⟩
                  have r5153'''' : gB z5150 97 122 := ⟨by omega, by omega⟩
                  change G _ _ _ _ _ _ _ (.int 1 :: _) _ _ _
                  refine G_ws (ws' := [(q4654, .inr (14, [.ref q4655, .int p4657, .int 0, .int o5146, .int p4660])), (q4655, .inr (15, [.ref q4656, .int p4661])), (q4656, .inl (I .byte, 8192, .inl f4662))]) (cs' := 0) (sl' := 0) rfl rfl rfl ?_
                  refine G_if_eq 188 d_cX9_advance_178 (by decide +kernel) (fun hc => absurd hc (by decide)) (fun _ => ?_)
                  refine G_aload_n 3 d_cX9_advance_181 rfl ?_
                  refine G_callV (As := []) (wr := []) (gV_ok D I) (ct_3801_Signs_takeWord l hl0 D I q4654 q4655 q4656 p4657 0 o5146 p4660 p4661 f4662 (gB_w bp4661' (by decide) (by decide)) bf4662 (by have qa0 : Int32.toInt (-1) = (-1) := (by decide); have qa1 : Int32.toInt 0 = 0 := (by decide); have qa2 : Int32.toInt 1 = 1 := (by decide); omega)) d_cX9_advance_182 ⟨w_3_48, w_1_4, w_3_51, by decide, rfl, (Nat.le_of_ble_eq_true rfl), (Nat.le_of_ble_eq_true rfl)⟩ w_3_50 w_p_4 0 rfl rfl [0, 1, 2] [] rfl rfl rfl rfl (by decide) (Nat.le_of_ble_eq_true rfl) (Nat.le_of_ble_eq_true rfl) (Nat.le_of_ble_eq_true rfl) (fun r w hp => ?_) (fun _ _ _ z => z.elim)
                  obtain ⟨o5226, o5227, rfl, rfl, bo5226, bo5227, x5228⟩ := hp
                  rw [show Int32.toInt 0 = 0 from by decide] at x5228
                  change G _ _ _ _ _ _ _ _ _ _ _
                  refine G_ws (ws' := [(q4654, .inr (14, [.ref q4655, .int o5226, .int 0, .int o5146, .int o5227])), (q4655, .inr (15, [.ref q4656, .int p4661])), (q4656, .inl (I .byte, 8192, .inl f4662))]) (cs' := 0) (sl' := 0) rfl rfl rfl ?_
                  refine G_goto 194 d_cX9_advance_185 (by decide +kernel) ?_
                  exact G_vret d_cX9_advance_194 rfl (Nat.le_of_ble_eq_true rfl) (Nat.le_of_ble_eq_true rfl) ⟨o5226, 0, o5146, o5227, rfl, rfl, bo5226, (gB_w (gBl (show Int32.toInt 0 = 0 by decide)) (by decide) (by decide)), (gB_w bo5146'' (by decide) (by decide)), bo5227, (by have qa0 : Int32.toInt (-1) = (-1) := (by decide); have qa1 : Int32.toInt 0 = 0 := (by decide); have qa2 : Int32.toInt 1 = 1 := (by decide); omega)⟩
              · have r5229 : z5150.toInt = 98 := gj_eq hc5211 (show Int32.toInt 98 = 98 by decide)
                have r5153''' : gB z5150 98 98 := ⟨by omega, by omega⟩
                refine G_iload_n 0 d_cX9_advance_157 rfl ?_
                refine G_callS (As := [.int (-1)]) (wr := [(q4654, .inr (14, [.ref q4655, .int p4657, .int 0, .int o5146, .int p4660])), (q4655, .inr (15, [.ref q4656, .int p4661])), (q4656, .inl (I .byte, 8192, .inl f4662))]) (gV_ok D I) (ct_300_Signs_isDigit l hl0 D I (-1) ) d_cX9_advance_158 ⟨w_3_24, w_1_4, w_3_26, by decide, rfl, (Nat.le_of_ble_eq_true rfl), (Nat.le_of_ble_eq_true rfl)⟩ w_3_25 [] [0, 1, 2] rfl rfl rfl rfl (by decide) (Nat.le_of_ble_eq_true rfl) (Nat.le_of_ble_eq_true rfl) (Nat.le_of_ble_eq_true rfl) (fun r w hp => ?_) (fun _ _ _ z => z.elim)
                rcases hp with ⟨rfl, rfl, r5230⟩ | ⟨rfl, rfl, r5231, r5232⟩ | ⟨rfl, rfl, r5233, r5234⟩
                · rw [show Int32.toInt (-1) = (-1) from by decide] at r5230
                  change G _ _ _ _ _ _ _ (.int 0 :: _) _ _ _
                  refine G_ws (ws' := [(q4654, .inr (14, [.ref q4655, .int p4657, .int 0, .int o5146, .int p4660])), (q4655, .inr (15, [.ref q4656, .int p4661])), (q4656, .inl (I .byte, 8192, .inl f4662))]) (cs' := 0) (sl' := 0) rfl rfl rfl ?_
                  refine G_if_eq 174 d_cX9_advance_161 (by decide +kernel) (fun _ => ?_) (fun hc => absurd hc (by decide))
                  refine G_iload_n 1 d_cX9_advance_174 rfl ?_
                  refine G_callS (As := [.int z5150]) (wr := [(q4654, .inr (14, [.ref q4655, .int p4657, .int 0, .int o5146, .int p4660])), (q4655, .inr (15, [.ref q4656, .int p4661])), (q4656, .inl (I .byte, 8192, .inl f4662))]) (gV_ok D I) (ct_308_Signs_isLetter l hl0 D I z5150 ) d_cX9_advance_175 ⟨w_3_45, w_1_4, w_3_47, by decide, rfl, (Nat.le_of_ble_eq_true rfl), (Nat.le_of_ble_eq_true rfl)⟩ w_3_46 [] [0, 1, 2] rfl rfl rfl rfl (by decide) (Nat.le_of_ble_eq_true rfl) (Nat.le_of_ble_eq_true rfl) (Nat.le_of_ble_eq_true rfl) (fun r w hp => ?_) (fun _ _ _ z => z.elim)
                  rcases hp with ⟨rfl, rfl, r5235⟩ | ⟨rfl, rfl, r5236, r5237⟩ | ⟨rfl, rfl, r5238, r5239⟩
                  · exact absurd (show False by omega) not_false
                  · exact absurd (show False by omega) not_false
                  · change G _ _ _ _ _ _ _ (.int 1 :: _) _ _ _
                    refine G_ws (ws' := [(q4654, .inr (14, [.ref q4655, .int p4657, .int 0, .int o5146, .int p4660])), (q4655, .inr (15, [.ref q4656, .int p4661])), (q4656, .inl (I .byte, 8192, .inl f4662))]) (cs' := 0) (sl' := 0) rfl rfl rfl ?_
                    refine G_if_eq 188 d_cX9_advance_178 (by decide +kernel) (fun hc => absurd hc (by decide)) (fun _ => ?_)
                    refine G_aload_n 3 d_cX9_advance_181 rfl ?_
                    refine G_callV (As := []) (wr := []) (gV_ok D I) (ct_3801_Signs_takeWord l hl0 D I q4654 q4655 q4656 p4657 0 o5146 p4660 p4661 f4662 (gB_w bp4661' (by decide) (by decide)) bf4662 (by have qa0 : Int32.toInt (-1) = (-1) := (by decide); have qa1 : Int32.toInt 0 = 0 := (by decide); have qa2 : Int32.toInt 1 = 1 := (by decide); omega)) d_cX9_advance_182 ⟨w_3_48, w_1_4, w_3_51, by decide, rfl, (Nat.le_of_ble_eq_true rfl), (Nat.le_of_ble_eq_true rfl)⟩ w_3_50 w_p_4 0 rfl rfl [0, 1, 2] [] rfl rfl rfl rfl (by decide) (Nat.le_of_ble_eq_true rfl) (Nat.le_of_ble_eq_true rfl) (Nat.le_of_ble_eq_true rfl) (fun r w hp => ?_) (fun _ _ _ z => z.elim)
                    obtain ⟨o5240, o5241, rfl, rfl, bo5240, bo5241, x5242⟩ := hp
                    rw [show Int32.toInt 0 = 0 from by decide] at x5242
                    change G _ _ _ _ _ _ _ _ _ _ _
                    refine G_ws (ws' := [(q4654, .inr (14, [.ref q4655, .int o5240, .int 0, .int o5146, .int o5241])), (q4655, .inr (15, [.ref q4656, .int p4661])), (q4656, .inl (I .byte, 8192, .inl f4662))]) (cs' := 0) (sl' := 0) rfl rfl rfl ?_
                    refine G_goto 194 d_cX9_advance_185 (by decide +kernel) ?_
                    exact G_vret d_cX9_advance_194 rfl (Nat.le_of_ble_eq_true rfl) (Nat.le_of_ble_eq_true rfl) ⟨o5240, 0, o5146, o5241, rfl, rfl, bo5240, (gB_w (gBl (show Int32.toInt 0 = 0 by decide)) (by decide) (by decide)), (gB_w bo5146'' (by decide) (by decide)), bo5241, (by have qa0 : Int32.toInt (-1) = (-1) := (by decide); have qa1 : Int32.toInt 0 = 0 := (by decide); have qa2 : Int32.toInt 1 = 1 := (by decide); omega)⟩
                · rw [show Int32.toInt (-1) = (-1) from by decide] at r5231
                  exact absurd (show False by omega) not_false
                · rw [show Int32.toInt (-1) = (-1) from by decide] at r5233
                  exact absurd (show False by omega) not_false
            · have r5243 : z5150.toInt = 118 := gj_eq hc5209 (show Int32.toInt 118 = 118 by decide)
              have r5153''' : gB z5150 118 118 := ⟨by omega, by omega⟩
              refine G_iload_n 0 d_cX9_advance_134 rfl ?_
              refine G_callS (As := [.int (-1)]) (wr := [(q4654, .inr (14, [.ref q4655, .int p4657, .int 0, .int o5146, .int p4660])), (q4655, .inr (15, [.ref q4656, .int p4661])), (q4656, .inl (I .byte, 8192, .inl f4662))]) (gV_ok D I) (ct_300_Signs_isDigit l hl0 D I (-1) ) d_cX9_advance_135 ⟨w_3_24, w_1_4, w_3_26, by decide, rfl, (Nat.le_of_ble_eq_true rfl), (Nat.le_of_ble_eq_true rfl)⟩ w_3_25 [] [0, 1, 2] rfl rfl rfl rfl (by decide) (Nat.le_of_ble_eq_true rfl) (Nat.le_of_ble_eq_true rfl) (Nat.le_of_ble_eq_true rfl) (fun r w hp => ?_) (fun _ _ _ z => z.elim)
              rcases hp with ⟨rfl, rfl, r5244⟩ | ⟨rfl, rfl, r5245, r5246⟩ | ⟨rfl, rfl, r5247, r5248⟩
              · rw [show Int32.toInt (-1) = (-1) from by decide] at r5244
                change G _ _ _ _ _ _ _ (.int 0 :: _) _ _ _
                refine G_ws (ws' := [(q4654, .inr (14, [.ref q4655, .int p4657, .int 0, .int o5146, .int p4660])), (q4655, .inr (15, [.ref q4656, .int p4661])), (q4656, .inl (I .byte, 8192, .inl f4662))]) (cs' := 0) (sl' := 0) rfl rfl rfl ?_
                refine G_if_eq 151 d_cX9_advance_138 (by decide +kernel) (fun _ => ?_) (fun hc => absurd hc (by decide))
                refine G_iload_n 1 d_cX9_advance_151 rfl ?_
                refine G_bipush 98 d_cX9_advance_152 (by decide +kernel) ?_
                refine G_icmp_ne 174 d_cX9_advance_154 (by decide +kernel) (fun _ => ?_) (fun hc => absurd (show False by have := gj_eq hc (show Int32.toInt 98 = 98 by decide); omega) not_false)
                refine G_iload_n 1 d_cX9_advance_174 rfl ?_
                refine G_callS (As := [.int z5150]) (wr := [(q4654, .inr (14, [.ref q4655, .int p4657, .int 0, .int o5146, .int p4660])), (q4655, .inr (15, [.ref q4656, .int p4661])), (q4656, .inl (I .byte, 8192, .inl f4662))]) (gV_ok D I) (ct_308_Signs_isLetter l hl0 D I z5150 ) d_cX9_advance_175 ⟨w_3_45, w_1_4, w_3_47, by decide, rfl, (Nat.le_of_ble_eq_true rfl), (Nat.le_of_ble_eq_true rfl)⟩ w_3_46 [] [0, 1, 2] rfl rfl rfl rfl (by decide) (Nat.le_of_ble_eq_true rfl) (Nat.le_of_ble_eq_true rfl) (Nat.le_of_ble_eq_true rfl) (fun r w hp => ?_) (fun _ _ _ z => z.elim)
                rcases hp with ⟨rfl, rfl, r5249⟩ | ⟨rfl, rfl, r5250, r5251⟩ | ⟨rfl, rfl, r5252, r5253⟩
                · exact absurd (show False by omega) not_false
                · exact absurd (show False by omega) not_false
                · change G _ _ _ _ _ _ _ (.int 1 :: _) _ _ _
                  refine G_ws (ws' := [(q4654, .inr (14, [.ref q4655, .int p4657, .int 0, .int o5146, .int p4660])), (q4655, .inr (15, [.ref q4656, .int p4661])), (q4656, .inl (I .byte, 8192, .inl f4662))]) (cs' := 0) (sl' := 0) rfl rfl rfl ?_
                  refine G_if_eq 188 d_cX9_advance_178 (by decide +kernel) (fun hc => absurd hc (by decide)) (fun _ => ?_)
                  refine G_aload_n 3 d_cX9_advance_181 rfl ?_
                  refine G_callV (As := []) (wr := []) (gV_ok D I) (ct_3801_Signs_takeWord l hl0 D I q4654 q4655 q4656 p4657 0 o5146 p4660 p4661 f4662 (gB_w bp4661' (by decide) (by decide)) bf4662 (by have qa0 : Int32.toInt (-1) = (-1) := (by decide); have qa1 : Int32.toInt 0 = 0 := (by decide); have qa2 : Int32.toInt 1 = 1 := (by decide); omega)) d_cX9_advance_182 ⟨w_3_48, w_1_4, w_3_51, by decide, rfl, (Nat.le_of_ble_eq_true rfl), (Nat.le_of_ble_eq_true rfl)⟩ w_3_50 w_p_4 0 rfl rfl [0, 1, 2] [] rfl rfl rfl rfl (by decide) (Nat.le_of_ble_eq_true rfl) (Nat.le_of_ble_eq_true rfl) (Nat.le_of_ble_eq_true rfl) (fun r w hp => ?_) (fun _ _ _ z => z.elim)
                  obtain ⟨o5254, o5255, rfl, rfl, bo5254, bo5255, x5256⟩ := hp
                  rw [show Int32.toInt 0 = 0 from by decide] at x5256
                  change G _ _ _ _ _ _ _ _ _ _ _
                  refine G_ws (ws' := [(q4654, .inr (14, [.ref q4655, .int o5254, .int 0, .int o5146, .int o5255])), (q4655, .inr (15, [.ref q4656, .int p4661])), (q4656, .inl (I .byte, 8192, .inl f4662))]) (cs' := 0) (sl' := 0) rfl rfl rfl ?_
                  refine G_goto 194 d_cX9_advance_185 (by decide +kernel) ?_
                  exact G_vret d_cX9_advance_194 rfl (Nat.le_of_ble_eq_true rfl) (Nat.le_of_ble_eq_true rfl) ⟨o5254, 0, o5146, o5255, rfl, rfl, bo5254, (gB_w (gBl (show Int32.toInt 0 = 0 by decide)) (by decide) (by decide)), (gB_w bo5146'' (by decide) (by decide)), bo5255, (by have qa0 : Int32.toInt (-1) = (-1) := (by decide); have qa1 : Int32.toInt 0 = 0 := (by decide); have qa2 : Int32.toInt 1 = 1 := (by decide); omega)⟩
              · rw [show Int32.toInt (-1) = (-1) from by decide] at r5245
                exact absurd (show False by omega) not_false
              · rw [show Int32.toInt (-1) = (-1) from by decide] at r5247
                exact absurd (show False by omega) not_false
          · have r5153' : gB z5150 48 255 := ⟨by omega, by omega⟩
            have r5153'' : gB z5150 48 57 := ⟨by omega, by omega⟩
            change G _ _ _ _ _ _ _ (.int 1 :: _) _ _ _
            refine G_ws (ws' := [(q4654, .inr (14, [.ref q4655, .int p4657, .int 0, .int o5146, .int p4660])), (q4655, .inr (15, [.ref q4656, .int p4661])), (q4656, .inl (I .byte, 8192, .inl f4662))]) (cs' := 0) (sl' := 0) rfl rfl rfl ?_
            refine G_if_ne 110 d_cX9_advance_90 (by decide +kernel) (fun _ => ?_) (fun hc => absurd hc (by decide))
            refine G_aload_n 3 d_cX9_advance_110 rfl ?_
            refine G_iload_n 1 d_cX9_advance_111 rfl ?_
            refine G_bipush 45 d_cX9_advance_112 (by decide +kernel) ?_
            refine G_icmp_ne 121 d_cX9_advance_114 (by decide +kernel) (fun _ => ?_) (fun hc => absurd (show False by have := gj_eq hc (show Int32.toInt 45 = 45 by decide); omega) not_false)
            refine G_iconst 0 d_cX9_advance_121 (by decide +kernel) ?_
            refine G_callV (As := [.int 0]) (wr := []) (gV_ok D I) (ct_624_Signs_takeNumber l hl0 D I q4654 q4655 q4656 0 p4657 0 o5146 p4660 p4661 f4662 (gB_w (gBl (show Int32.toInt 0 = 0 by decide)) (by decide) (by decide)) (gB_w bp4661' (by decide) (by decide)) bf4662 (by have qa0 : Int32.toInt (-1) = (-1) := (by decide); have qa1 : Int32.toInt 0 = 0 := (by decide); have qa2 : Int32.toInt 1 = 1 := (by decide); omega)) d_cX9_advance_122 ⟨w_3_27, w_1_4, w_3_30, by decide, rfl, (Nat.le_of_ble_eq_true rfl), (Nat.le_of_ble_eq_true rfl)⟩ w_3_29 w_p_1 0 rfl rfl [0, 1, 2] [] rfl rfl rfl rfl (by decide) (Nat.le_of_ble_eq_true rfl) (Nat.le_of_ble_eq_true rfl) (Nat.le_of_ble_eq_true rfl) (fun r w hp => ?_) (fun _ _ _ z => z.elim)
            obtain ⟨o5257, o5258, o5259, rfl, rfl, bo5257, bo5258, bo5259, x5260⟩ := hp
            change G _ _ _ _ _ _ _ _ _ _ _
            refine G_ws (ws' := [(q4654, .inr (14, [.ref q4655, .int o5257, .int o5258, .int o5146, .int o5259])), (q4655, .inr (15, [.ref q4656, .int p4661])), (q4656, .inl (I .byte, 8192, .inl f4662))]) (cs' := 0) (sl' := 0) rfl rfl rfl ?_
            refine G_goto 194 d_cX9_advance_125 (by decide +kernel) ?_
            exact G_vret d_cX9_advance_194 rfl (Nat.le_of_ble_eq_true rfl) (Nat.le_of_ble_eq_true rfl) ⟨o5257, o5258, o5146, o5259, rfl, rfl, (gB_w bo5257 (by decide) (by decide)), bo5258, (gB_w bo5146'' (by decide) (by decide)), bo5259, (by have qa0 : Int32.toInt (-1) = (-1) := (by decide); have qa1 : Int32.toInt 1 = 1 := (by decide); omega)⟩
        · have bz5170' : gB z5170 1 8191 := ⟨by omega, by omega⟩
          have bp4661'' : gB p4661 2 8192 := ⟨by omega, by omega⟩
          change G _ _ _ _ _ _ _ (.int z5174 :: _) _ _ _
          refine G_ws (ws' := [(q4654, .inr (14, [.ref q4655, .int p4657, .int p4658, .int o5146, .int p4660])), (q4655, .inr (15, [.ref q4656, .int p4661])), (q4656, .inl (I .byte, 8192, .inl f4662))]) (cs' := 0) (sl' := 0) rfl rfl rfl ?_
          refine G_istore_n (L' := [(3, .int z5174), (2, .int z5150), (1, .int 1), (0, .ref q4654)]) d_cX9_advance_59 (Nat.le_of_ble_eq_true rfl) rfl ?_
          refine G_aload_n 3 d_cX9_advance_60 rfl ?_
          refine G_iconst 0 d_cX9_advance_61 (by decide +kernel) ?_
          refine G_putf (ws' := [(q4654, .inr (14, [.ref q4655, .int p4657, .int 0, .int o5146, .int p4660])), (q4655, .inr (15, [.ref q4656, .int p4661])), (q4656, .inl (I .byte, 8192, .inl f4662))]) 0 2 d_cX9_advance_62 rfl (gk_X9 D I) (Nat.le_of_ble_eq_true rfl) w_1_81 rfl rfl rfl (Nat.le_of_ble_eq_true rfl) rfl ?_
          refine G_iload_n 1 d_cX9_advance_65 rfl ?_
          refine G_iconst (-1) d_cX9_advance_66 (by decide +kernel) ?_
          refine G_icmp_ne 86 d_cX9_advance_67 (by decide +kernel) (fun _ => ?_) (fun hc => absurd (show False by have := gj_eq hc (show Int32.toInt (-1) = (-1) by decide); omega) not_false)
          refine G_iload_n 1 d_cX9_advance_86 rfl ?_
          refine G_callS (As := [.int z5150]) (wr := [(q4654, .inr (14, [.ref q4655, .int p4657, .int 0, .int o5146, .int p4660])), (q4655, .inr (15, [.ref q4656, .int p4661])), (q4656, .inl (I .byte, 8192, .inl f4662))]) (gV_ok D I) (ct_300_Signs_isDigit l hl0 D I z5150 ) d_cX9_advance_87 ⟨w_3_24, w_1_4, w_3_26, by decide, rfl, (Nat.le_of_ble_eq_true rfl), (Nat.le_of_ble_eq_true rfl)⟩ w_3_25 [] [0, 1, 2] rfl rfl rfl rfl (by decide) (Nat.le_of_ble_eq_true rfl) (Nat.le_of_ble_eq_true rfl) (Nat.le_of_ble_eq_true rfl) (fun r w hp => ?_) (fun _ _ _ z => z.elim)
          rcases hp with ⟨rfl, rfl, r5261⟩ | ⟨rfl, rfl, r5262, r5263⟩ | ⟨rfl, rfl, r5264, r5265⟩
          · have r5153' : gB z5150 0 47 := ⟨by omega, by omega⟩
            change G _ _ _ _ _ _ _ (.int 0 :: _) _ _ _
            refine G_ws (ws' := [(q4654, .inr (14, [.ref q4655, .int p4657, .int 0, .int o5146, .int p4660])), (q4655, .inr (15, [.ref q4656, .int p4661])), (q4656, .inl (I .byte, 8192, .inl f4662))]) (cs' := 0) (sl' := 0) rfl rfl rfl ?_
            refine G_if_ne 110 d_cX9_advance_90 (by decide +kernel) (fun hc => absurd hc (by decide)) (fun _ => ?_)
            refine G_iload_n 1 d_cX9_advance_93 rfl ?_
            refine G_bipush 45 d_cX9_advance_94 (by decide +kernel) ?_
            refine G_icmp_ne 128 d_cX9_advance_96 (by decide +kernel) (fun hc5266 => ?_) (fun hc5266 => ?_)
            · have r5267 : z5150.toInt ≠ 45 := gj_neq hc5266 (show Int32.toInt 45 = 45 by decide)
              refine G_iload_n 1 d_cX9_advance_128 rfl ?_
              refine G_bipush 118 d_cX9_advance_129 (by decide +kernel) ?_
              refine G_icmp_ne 151 d_cX9_advance_131 (by decide +kernel) (fun _ => ?_) (fun hc => absurd (show False by have := gj_eq hc (show Int32.toInt 118 = 118 by decide); omega) not_false)
              refine G_iload_n 1 d_cX9_advance_151 rfl ?_
              refine G_bipush 98 d_cX9_advance_152 (by decide +kernel) ?_
              refine G_icmp_ne 174 d_cX9_advance_154 (by decide +kernel) (fun _ => ?_) (fun hc => absurd (show False by have := gj_eq hc (show Int32.toInt 98 = 98 by decide); omega) not_false)
              refine G_iload_n 1 d_cX9_advance_174 rfl ?_
              refine G_callS (As := [.int z5150]) (wr := [(q4654, .inr (14, [.ref q4655, .int p4657, .int 0, .int o5146, .int p4660])), (q4655, .inr (15, [.ref q4656, .int p4661])), (q4656, .inl (I .byte, 8192, .inl f4662))]) (gV_ok D I) (ct_308_Signs_isLetter l hl0 D I z5150 ) d_cX9_advance_175 ⟨w_3_45, w_1_4, w_3_47, by decide, rfl, (Nat.le_of_ble_eq_true rfl), (Nat.le_of_ble_eq_true rfl)⟩ w_3_46 [] [0, 1, 2] rfl rfl rfl rfl (by decide) (Nat.le_of_ble_eq_true rfl) (Nat.le_of_ble_eq_true rfl) (Nat.le_of_ble_eq_true rfl) (fun r w hp => ?_) (fun _ _ _ z => z.elim)
              rcases hp with ⟨rfl, rfl, r5268⟩ | ⟨rfl, rfl, r5269, r5270⟩ | ⟨rfl, rfl, r5271, r5272⟩
              · change G _ _ _ _ _ _ _ (.int 0 :: _) _ _ _
                refine G_ws (ws' := [(q4654, .inr (14, [.ref q4655, .int p4657, .int 0, .int o5146, .int p4660])), (q4655, .inr (15, [.ref q4656, .int p4661])), (q4656, .inl (I .byte, 8192, .inl f4662))]) (cs' := 0) (sl' := 0) rfl rfl rfl ?_
                refine G_if_eq 188 d_cX9_advance_178 (by decide +kernel) (fun _ => ?_) (fun hc => absurd hc (by decide))
                refine G_aload_n 3 d_cX9_advance_188 rfl ?_
                refine G_iload_n 1 d_cX9_advance_189 rfl ?_
                refine G_iload_n 0 d_cX9_advance_190 rfl ?_
                refine G_callV (As := [.int z5150, .int z5174]) (wr := []) (gV_ok D I) (ct_4620_Signs_takeMark l hl0 D I q4654 q4655 q4656 z5150 z5174 p4657 0 o5146 p4660 p4661 f4662 (gB_w bp4661'' (by decide) (by decide)) bf4662 (by have qa0 : Int32.toInt 0 = 0 := (by decide); have qa1 : Int32.toInt 1 = 1 := (by decide); omega)) d_cX9_advance_191 ⟨w_3_109, w_1_4, w_3_112, by decide, rfl, (Nat.le_of_ble_eq_true rfl), (Nat.le_of_ble_eq_true rfl)⟩ w_3_111 w_p_6 0 rfl rfl [0, 1, 2] [] rfl rfl rfl rfl (by decide) (Nat.le_of_ble_eq_true rfl) (Nat.le_of_ble_eq_true rfl) (Nat.le_of_ble_eq_true rfl) (fun r w hp => ?_) (fun _ _ _ z => z.elim)
                obtain ⟨o5273, o5274, o5275, rfl, rfl, bo5273, bo5274, bo5275, x5276⟩ := hp
                change G _ _ _ _ _ _ _ _ _ _ _
                refine G_ws (ws' := [(q4654, .inr (14, [.ref q4655, .int o5273, .int o5274, .int o5146, .int o5275])), (q4655, .inr (15, [.ref q4656, .int p4661])), (q4656, .inl (I .byte, 8192, .inl f4662))]) (cs' := 0) (sl' := 0) rfl rfl rfl ?_
                exact G_vret d_cX9_advance_194 rfl (Nat.le_of_ble_eq_true rfl) (Nat.le_of_ble_eq_true rfl) ⟨o5273, o5274, o5146, o5275, rfl, rfl, (gB_w bo5273 (by decide) (by decide)), (gB_w bo5274 (by decide) (by decide)), (gB_w bo5146'' (by decide) (by decide)), bo5275, (by have qa0 : Int32.toInt 1 = 1 := (by decide); omega)⟩
              · exact absurd (show False by omega) not_false
              · exact absurd (show False by omega) not_false
            · have r5277 : z5150.toInt = 45 := gj_eq hc5266 (show Int32.toInt 45 = 45 by decide)
              have r5153'' : gB z5150 45 45 := ⟨by omega, by omega⟩
              refine G_iload_n 0 d_cX9_advance_99 rfl ?_
              refine G_callS (As := [.int z5174]) (wr := [(q4654, .inr (14, [.ref q4655, .int p4657, .int 0, .int o5146, .int p4660])), (q4655, .inr (15, [.ref q4656, .int p4661])), (q4656, .inl (I .byte, 8192, .inl f4662))]) (gV_ok D I) (ct_300_Signs_isDigit l hl0 D I z5174 ) d_cX9_advance_100 ⟨w_3_24, w_1_4, w_3_26, by decide, rfl, (Nat.le_of_ble_eq_true rfl), (Nat.le_of_ble_eq_true rfl)⟩ w_3_25 [] [0, 1, 2] rfl rfl rfl rfl (by decide) (Nat.le_of_ble_eq_true rfl) (Nat.le_of_ble_eq_true rfl) (Nat.le_of_ble_eq_true rfl) (fun r w hp => ?_) (fun _ _ _ z => z.elim)
              rcases hp with ⟨rfl, rfl, r5278⟩ | ⟨rfl, rfl, r5279, r5280⟩ | ⟨rfl, rfl, r5281, r5282⟩
              · have r5177' : gB z5174 0 47 := ⟨by omega, by omega⟩
                change G _ _ _ _ _ _ _ (.int 0 :: _) _ _ _
                refine G_ws (ws' := [(q4654, .inr (14, [.ref q4655, .int p4657, .int 0, .int o5146, .int p4660])), (q4655, .inr (15, [.ref q4656, .int p4661])), (q4656, .inl (I .byte, 8192, .inl f4662))]) (cs' := 0) (sl' := 0) rfl rfl rfl ?_
                refine G_if_eq 128 d_cX9_advance_103 (by decide +kernel) (fun _ => ?_) (fun hc => absurd hc (by decide))
                refine G_iload_n 1 d_cX9_advance_128 rfl ?_
                refine G_bipush 118 d_cX9_advance_129 (by decide +kernel) ?_
                refine G_icmp_ne 151 d_cX9_advance_131 (by decide +kernel) (fun _ => ?_) (fun hc => absurd (show False by have := gj_eq hc (show Int32.toInt 118 = 118 by decide); omega) not_false)
                refine G_iload_n 1 d_cX9_advance_151 rfl ?_
                refine G_bipush 98 d_cX9_advance_152 (by decide +kernel) ?_
                refine G_icmp_ne 174 d_cX9_advance_154 (by decide +kernel) (fun _ => ?_) (fun hc => absurd (show False by have := gj_eq hc (show Int32.toInt 98 = 98 by decide); omega) not_false)
                refine G_iload_n 1 d_cX9_advance_174 rfl ?_
                refine G_callS (As := [.int z5150]) (wr := [(q4654, .inr (14, [.ref q4655, .int p4657, .int 0, .int o5146, .int p4660])), (q4655, .inr (15, [.ref q4656, .int p4661])), (q4656, .inl (I .byte, 8192, .inl f4662))]) (gV_ok D I) (ct_308_Signs_isLetter l hl0 D I z5150 ) d_cX9_advance_175 ⟨w_3_45, w_1_4, w_3_47, by decide, rfl, (Nat.le_of_ble_eq_true rfl), (Nat.le_of_ble_eq_true rfl)⟩ w_3_46 [] [0, 1, 2] rfl rfl rfl rfl (by decide) (Nat.le_of_ble_eq_true rfl) (Nat.le_of_ble_eq_true rfl) (Nat.le_of_ble_eq_true rfl) (fun r w hp => ?_) (fun _ _ _ z => z.elim)
                rcases hp with ⟨rfl, rfl, r5283⟩ | ⟨rfl, rfl, r5284, r5285⟩ | ⟨rfl, rfl, r5286, r5287⟩
                · change G _ _ _ _ _ _ _ (.int 0 :: _) _ _ _
                  refine G_ws (ws' := [(q4654, .inr (14, [.ref q4655, .int p4657, .int 0, .int o5146, .int p4660])), (q4655, .inr (15, [.ref q4656, .int p4661])), (q4656, .inl (I .byte, 8192, .inl f4662))]) (cs' := 0) (sl' := 0) rfl rfl rfl ?_
                  refine G_if_eq 188 d_cX9_advance_178 (by decide +kernel) (fun _ => ?_) (fun hc => absurd hc (by decide))
                  refine G_aload_n 3 d_cX9_advance_188 rfl ?_
                  refine G_iload_n 1 d_cX9_advance_189 rfl ?_
                  refine G_iload_n 0 d_cX9_advance_190 rfl ?_
                  refine G_callV (As := [.int z5150, .int z5174]) (wr := []) (gV_ok D I) (ct_4620_Signs_takeMark l hl0 D I q4654 q4655 q4656 z5150 z5174 p4657 0 o5146 p4660 p4661 f4662 (gB_w bp4661'' (by decide) (by decide)) bf4662 (by have qa0 : Int32.toInt 0 = 0 := (by decide); have qa1 : Int32.toInt 1 = 1 := (by decide); omega)) d_cX9_advance_191 ⟨w_3_109, w_1_4, w_3_112, by decide, rfl, (Nat.le_of_ble_eq_true rfl), (Nat.le_of_ble_eq_true rfl)⟩ w_3_111 w_p_6 0 rfl rfl [0, 1, 2] [] rfl rfl rfl rfl (by decide) (Nat.le_of_ble_eq_true rfl) (Nat.le_of_ble_eq_true rfl) (Nat.le_of_ble_eq_true rfl) (fun r w hp => ?_) (fun _ _ _ z => z.elim)
                  obtain ⟨o5288, o5289, o5290, rfl, rfl, bo5288, bo5289, bo5290, x5291⟩ := hp
                  change G _ _ _ _ _ _ _ _ _ _ _
                  refine G_ws (ws' := [(q4654, .inr (14, [.ref q4655, .int o5288, .int o5289, .int o5146, .int o5290])), (q4655, .inr (15, [.ref q4656, .int p4661])), (q4656, .inl (I .byte, 8192, .inl f4662))]) (cs' := 0) (sl' := 0) rfl rfl rfl ?_
                  exact G_vret d_cX9_advance_194 rfl (Nat.le_of_ble_eq_true rfl) (Nat.le_of_ble_eq_true rfl) ⟨o5288, o5289, o5146, o5290, rfl, rfl, (gB_w bo5288 (by decide) (by decide)), (gB_w bo5289 (by decide) (by decide)), (gB_w bo5146'' (by decide) (by decide)), bo5290, (by have qa0 : Int32.toInt 1 = 1 := (by decide); omega)⟩
                · exact absurd (show False by omega) not_false
                · exact absurd (show False by omega) not_false
              · have r5177' : gB z5174 48 255 := ⟨by omega, by omega⟩
                have r5177'' : gB z5174 58 255 := ⟨by omega, by omega⟩
                change G _ _ _ _ _ _ _ (.int 0 :: _) _ _ _
                refine G_ws (ws' := [(q4654, .inr (14, [.ref q4655, .int p4657, .int 0, .int o5146, .int p4660])), (q4655, .inr (15, [.ref q4656, .int p4661])), (q4656, .inl (I .byte, 8192, .inl f4662))]) (cs' := 0) (sl' := 0) rfl rfl rfl ?_
                refine G_if_eq 128 d_cX9_advance_103 (by decide +kernel) (fun _ => ?_) (fun hc => absurd hc (by decide))
                refine G_iload_n 1 d_cX9_advance_128 rfl ?_
                refine G_bipush 118 d_cX9_advance_129 (by decide +kernel) ?_
                refine G_icmp_ne 151 d_cX9_advance_131 (by decide +kernel) (fun _ => ?_) (fun hc => absurd (show False by have := gj_eq hc (show Int32.toInt 118 = 118 by decide); omega) not_false)
                refine G_iload_n 1 d_cX9_advance_151 rfl ?_
                refine G_bipush 98 d_cX9_advance_152 (by decide +kernel) ?_
                refine G_icmp_ne 174 d_cX9_advance_154 (by decide +kernel) (fun _ => ?_) (fun hc => absurd (show False by have := gj_eq hc (show Int32.toInt 98 = 98 by decide); omega) not_false)
                refine G_iload_n 1 d_cX9_advance_174 rfl ?_
                refine G_callS (As := [.int z5150]) (wr := [(q4654, .inr (14, [.ref q4655, .int p4657, .int 0, .int o5146, .int p4660])), (q4655, .inr (15, [.ref q4656, .int p4661])), (q4656, .inl (I .byte, 8192, .inl f4662))]) (gV_ok D I) (ct_308_Signs_isLetter l hl0 D I z5150 ) d_cX9_advance_175 ⟨w_3_45, w_1_4, w_3_47, by decide, rfl, (Nat.le_of_ble_eq_true rfl), (Nat.le_of_ble_eq_true rfl)⟩ w_3_46 [] [0, 1, 2] rfl rfl rfl rfl (by decide) (Nat.le_of_ble_eq_true rfl) (Nat.le_of_ble_eq_true rfl) (Nat.le_of_ble_eq_true rfl) (fun r w hp => ?_) (fun _ _ _ z => z.elim)
                rcases hp with ⟨rfl, rfl, r5292⟩ | ⟨rfl, rfl, r5293, r5294⟩ | ⟨rfl, rfl, r5295, r5296⟩
                · change G _ _ _ _ _ _ _ (.int 0 :: _) _ _ _
                  refine G_ws (ws' := [(q4654, .inr (14, [.ref q4655, .int p4657, .int 0, .int o5146, .int p4660])), (q4655, .inr (15, [.ref q4656, .int p4661])), (q4656, .inl (I .byte, 8192, .inl f4662))]) (cs' := 0) (sl' := 0) rfl rfl rfl ?_
                  refine G_if_eq 188 d_cX9_advance_178 (by decide +kernel) (fun _ => ?_) (fun hc => absurd hc (by decide))
                  refine G_aload_n 3 d_cX9_advance_188 rfl ?_
                  refine G_iload_n 1 d_cX9_advance_189 rfl ?_
                  refine G_iload_n 0 d_cX9_advance_190 rfl ?_
                  refine G_callV (As := [.int z5150, .int z5174]) (wr := []) (gV_ok D I) (ct_4620_Signs_takeMark l hl0 D I q4654 q4655 q4656 z5150 z5174 p4657 0 o5146 p4660 p4661 f4662 (gB_w bp4661'' (by decide) (by decide)) bf4662 (by have qa0 : Int32.toInt 0 = 0 := (by decide); have qa1 : Int32.toInt 1 = 1 := (by decide); omega)) d_cX9_advance_191 ⟨w_3_109, w_1_4, w_3_112, by decide, rfl, (Nat.le_of_ble_eq_true rfl), (Nat.le_of_ble_eq_true rfl)⟩ w_3_111 w_p_6 0 rfl rfl [0, 1, 2] [] rfl rfl rfl rfl (by decide) (Nat.le_of_ble_eq_true rfl) (Nat.le_of_ble_eq_true rfl) (Nat.le_of_ble_eq_true rfl) (fun r w hp => ?_) (fun _ _ _ z => z.elim)
                  obtain ⟨o5297, o5298, o5299, rfl, rfl, bo5297, bo5298, bo5299, x5300⟩ := hp
                  change G _ _ _ _ _ _ _ _ _ _ _
                  refine G_ws (ws' := [(q4654, .inr (14, [.ref q4655, .int o5297, .int o5298, .int o5146, .int o5299])), (q4655, .inr (15, [.ref q4656, .int p4661])), (q4656, .inl (I .byte, 8192, .inl f4662))]) (cs' := 0) (sl' := 0) rfl rfl rfl ?_
                  exact G_vret d_cX9_advance_194 rfl (Nat.le_of_ble_eq_true rfl) (Nat.le_of_ble_eq_true rfl) ⟨o5297, o5298, o5146, o5299, rfl, rfl, (gB_w bo5297 (by decide) (by decide)), (gB_w bo5298 (by decide) (by decide)), (gB_w bo5146'' (by decide) (by decide)), bo5299, (by have qa0 : Int32.toInt 1 = 1 := (by decide); omega)⟩
                · exact absurd (show False by omega) not_false
                · exact absurd (show False by omega) not_false
              · have r5177' : gB z5174 48 255 := ⟨by omega, by omega⟩
                have r5177'' : gB z5174 48 57 := ⟨by omega, by omega⟩
                change G _ _ _ _ _ _ _ (.int 1 :: _) _ _ _
                refine G_ws (ws' := [(q4654, .inr (14, [.ref q4655, .int p4657, .int 0, .int o5146, .int p4660])), (q4655, .inr (15, [.ref q4656, .int p4661])), (q4656, .inl (I .byte, 8192, .inl f4662))]) (cs' := 0) (sl' := 0) rfl rfl rfl ?_
                refine G_if_eq 128 d_cX9_advance_103 (by decide +kernel) (fun hc => absurd hc (by decide)) (fun _ => ?_)
                refine G_iload_n 2 d_cX9_advance_106 rfl ?_
                refine G_if_ne 128 d_cX9_advance_107 (by decide +kernel) (fun _ => ?_) (fun hc => absurd hc (by decide))
                refine G_iload_n 1 d_cX9_advance_128 rfl ?_
                refine G_bipush 118 d_cX9_advance_129 (by decide +kernel) ?_
                refine G_icmp_ne 151 d_cX9_advance_131 (by decide +kernel) (fun _ => ?_) (fun hc => absurd (show False by have := gj_eq hc (show Int32.toInt 118 = 118 by decide); omega) not_false)
                refine G_iload_n 1 d_cX9_advance_151 rfl ?_
                refine G_bipush 98 d_cX9_advance_152 (by decide +kernel) ?_
                refine G_icmp_ne 174 d_cX9_advance_154 (by decide +kernel) (fun _ => ?_) (fun hc => absurd (show False by have := gj_eq hc (show Int32.toInt 98 = 98 by decide); omega) not_false)
                refine G_iload_n 1 d_cX9_advance_174 rfl ?_
                refine G_callS (As := [.int z5150]) (wr := [(q4654, .inr (14, [.ref q4655, .int p4657, .int 0, .int o5146, .int p4660])), (q4655, .inr (15, [.ref q4656, .int p4661])), (q4656, .inl (I .byte, 8192, .inl f4662))]) (gV_ok D I) (ct_308_Signs_isLetter l hl0 D I z5150 ) d_cX9_advance_175 ⟨w_3_45, w_1_4, w_3_47, by decide, rfl, (Nat.le_of_ble_eq_true rfl), (Nat.le_of_ble_eq_true rfl)⟩ w_3_46 [] [0, 1, 2] rfl rfl rfl rfl (by decide) (Nat.le_of_ble_eq_true rfl) (Nat.le_of_ble_eq_true rfl) (Nat.le_of_ble_eq_true rfl) (fun r w hp => ?_) (fun _ _ _ z => z.elim)
                rcases hp with ⟨rfl, rfl, r5301⟩ | ⟨rfl, rfl, r5302, r5303⟩ | ⟨rfl, rfl, r5304, r5305⟩
                · change G _ _ _ _ _ _ _ (.int 0 :: _) _ _ _
                  refine G_ws (ws' := [(q4654, .inr (14, [.ref q4655, .int p4657, .int 0, .int o5146, .int p4660])), (q4655, .inr (15, [.ref q4656, .int p4661])), (q4656, .inl (I .byte, 8192, .inl f4662))]) (cs' := 0) (sl' := 0) rfl rfl rfl ?_
                  refine G_if_eq 188 d_cX9_advance_178 (by decide +kernel) (fun _ => ?_) (fun hc => absurd hc (by decide))
                  refine G_aload_n 3 d_cX9_advance_188 rfl ?_
                  refine G_iload_n 1 d_cX9_advance_189 rfl ?_
                  refine G_iload_n 0 d_cX9_advance_190 rfl ?_
                  refine G_callV (As := [.int z5150, .int z5174]) (wr := []) (gV_ok D I) (ct_4620_Signs_takeMark l hl0 D I q4654 q4655 q4656 z5150 z5174 p4657 0 o5146 p4660 p4661 f4662 (gB_w bp4661'' (by decide) (by decide)) bf4662 (by have qa0 : Int32.toInt 0 = 0 := (by decide); have qa1 : Int32.toInt 1 = 1 := (by decide); omega)) d_cX9_advance_191 ⟨w_3_109, w_1_4, w_3_112, by decide, rfl, (Nat.le_of_ble_eq_true rfl), (Nat.le_of_ble_eq_true rfl)⟩ w_3_111 w_p_6 0 rfl rfl [0, 1, 2] [] rfl rfl rfl rfl (by decide) (Nat.le_of_ble_eq_true rfl) (Nat.le_of_ble_eq_true rfl) (Nat.le_of_ble_eq_true rfl) (fun r w hp => ?_) (fun _ _ _ z => z.elim)
                  obtain ⟨o5306, o5307, o5308, rfl, rfl, bo5306, bo5307, bo5308, x5309⟩ := hp
                  change G _ _ _ _ _ _ _ _ _ _ _
                  refine G_ws (ws' := [(q4654, .inr (14, [.ref q4655, .int o5306, .int o5307, .int o5146, .int o5308])), (q4655, .inr (15, [.ref q4656, .int p4661])), (q4656, .inl (I .byte, 8192, .inl f4662))]) (cs' := 0) (sl' := 0) rfl rfl rfl ?_
                  exact G_vret d_cX9_advance_194 rfl (Nat.le_of_ble_eq_true rfl) (Nat.le_of_ble_eq_true rfl) ⟨o5306, o5307, o5146, o5308, rfl, rfl, (gB_w bo5306 (by decide) (by decide)), (gB_w bo5307 (by decide) (by decide)), (gB_w bo5146'' (by decide) (by decide)), bo5308, (by have qa0 : Int32.toInt 1 = 1 := (by decide); omega)⟩
                · exact absurd (show False by omega) not_false
                · exact absurd (show False by omega) not_false
          · have r5153' : gB z5150 48 255 := ⟨by omega, by omega⟩
            have r5153'' : gB z5150 58 255 := ⟨by omega, by omega⟩
            change G _ _ _ _ _ _ _ (.int 0 :: _) _ _ _
            refine G_ws (ws' := [(q4654, .inr (14, [.ref q4655, .int p4657, .int 0, .int o5146, .int p4660])), (q4655, .inr (15, [.ref q4656, .int p4661])), (q4656, .inl (I .byte, 8192, .inl f4662))]) (cs' := 0) (sl' := 0) rfl rfl rfl ?_
            refine G_if_ne 110 d_cX9_advance_90 (by decide +kernel) (fun hc => absurd hc (by decide)) (fun _ => ?_)
            refine G_iload_n 1 d_cX9_advance_93 rfl ?_
            refine G_bipush 45 d_cX9_advance_94 (by decide +kernel) ?_
            refine G_icmp_ne 128 d_cX9_advance_96 (by decide +kernel) (fun _ => ?_) (fun hc => absurd (show False by have := gj_eq hc (show Int32.toInt 45 = 45 by decide); omega) not_false)
            refine G_iload_n 1 d_cX9_advance_128 rfl ?_
            refine G_bipush 118 d_cX9_advance_129 (by decide +kernel) ?_
            refine G_icmp_ne 151 d_cX9_advance_131 (by decide +kernel) (fun hc5310 => ?_) (fun hc5310 => ?_)
            · have r5311 : z5150.toInt ≠ 118 := gj_neq hc5310 (show Int32.toInt 118 = 118 by decide)
              refine G_iload_n 1 d_cX9_advance_151 rfl ?_
              refine G_bipush 98 d_cX9_advance_152 (by decide +kernel) ?_
              refine G_icmp_ne 174 d_cX9_advance_154 (by decide +kernel) (fun hc5312 => ?_) (fun hc5312 => ?_)
              · have r5313 : z5150.toInt ≠ 98 := gj_neq hc5312 (show Int32.toInt 98 = 98 by decide)
                refine G_iload_n 1 d_cX9_advance_174 rfl ?_
                refine G_callS (As := [.int z5150]) (wr := [(q4654, .inr (14, [.ref q4655, .int p4657, .int 0, .int o5146, .int p4660])), (q4655, .inr (15, [.ref q4656, .int p4661])), (q4656, .inl (I .byte, 8192, .inl f4662))]) (gV_ok D I) (ct_308_Signs_isLetter l hl0 D I z5150 ) d_cX9_advance_175 ⟨w_3_45, w_1_4, w_3_47, by decide, rfl, (Nat.le_of_ble_eq_true rfl), (Nat.le_of_ble_eq_true rfl)⟩ w_3_46 [] [0, 1, 2] rfl rfl rfl rfl (by decide) (Nat.le_of_ble_eq_true rfl) (Nat.le_of_ble_eq_true rfl) (Nat.le_of_ble_eq_true rfl) (fun r w hp => ?_) (fun _ _ _ z => z.elim)
                rcases hp with ⟨rfl, rfl, r5314⟩ | ⟨rfl, rfl, r5315, r5316⟩ | ⟨rfl, rfl, r5317, r5318⟩
                · have r5153''' : gB z5150 58 96 := ⟨by omega, by omega⟩
                  change G _ _ _ _ _ _ _ (.int 0 :: _) _ _ _
                  refine G_ws (ws' := [(q4654, .inr (14, [.ref q4655, .int p4657, .int 0, .int o5146, .int p4660])), (q4655, .inr (15, [.ref q4656, .int p4661])), (q4656, .inl (I .byte, 8192, .inl f4662))]) (cs' := 0) (sl' := 0) rfl rfl rfl ?_
                  refine G_if_eq 188 d_cX9_advance_178 (by decide +kernel) (fun _ => ?_) (fun hc => absurd hc (by decide))
                  refine G_aload_n 3 d_cX9_advance_188 rfl ?_
                  refine G_iload_n 1 d_cX9_advance_189 rfl ?_
                  refine G_iload_n 0 d_cX9_advance_190 rfl ?_
                  refine G_callV (As := [.int z5150, .int z5174]) (wr := []) (gV_ok D I) (ct_4620_Signs_takeMark l hl0 D I q4654 q4655 q4656 z5150 z5174 p4657 0 o5146 p4660 p4661 f4662 (gB_w bp4661'' (by decide) (by decide)) bf4662 (by have qa0 : Int32.toInt 0 = 0 := (by decide); have qa1 : Int32.toInt 1 = 1 := (by decide); omega)) d_cX9_advance_191 ⟨w_3_109, w_1_4, w_3_112, by decide, rfl, (Nat.le_of_ble_eq_true rfl), (Nat.le_of_ble_eq_true rfl)⟩ w_3_111 w_p_6 0 rfl rfl [0, 1, 2] [] rfl rfl rfl rfl (by decide) (Nat.le_of_ble_eq_true rfl) (Nat.le_of_ble_eq_true rfl) (Nat.le_of_ble_eq_true rfl) (fun r w hp => ?_) (fun _ _ _ z => z.elim)
                  obtain ⟨o5319, o5320, o5321, rfl, rfl, bo5319, bo5320, bo5321, x5322⟩ := hp
                  change G _ _ _ _ _ _ _ _ _ _ _
                  refine G_ws (ws' := [(q4654, .inr (14, [.ref q4655, .int o5319, .int o5320, .int o5146, .int o5321])), (q4655, .inr (15, [.ref q4656, .int p4661])), (q4656, .inl (I .byte, 8192, .inl f4662))]) (cs' := 0) (sl' := 0) rfl rfl rfl ?_
                  exact G_vret d_cX9_advance_194 rfl (Nat.le_of_ble_eq_true rfl) (Nat.le_of_ble_eq_true rfl) ⟨o5319, o5320, o5146, o5321, rfl, rfl, (gB_w bo5319 (by decide) (by decide)), (gB_w bo5320 (by decide) (by decide)), (gB_w bo5146'' (by decide) (by decide)), bo5321, (by have qa0 : Int32.toInt 1 = 1 := (by decide); omega)⟩
                · have r5153''' : gB z5150 97 255 := ⟨by omega, by omega⟩
                  have r5153'''' : gB z5150 123 255 := ⟨by omega, by omega⟩
                  change G _ _ _ _ _ _ _ (.int 0 :: _) _ _ _
                  refine G_ws (ws' := [(q4654, .inr (14, [.ref q4655, .int p4657, .int 0, .int o5146, .int p4660])), (q4655, .inr (15, [.ref q4656, .int p4661])), (q4656, .inl (I .byte, 8192, .inl f4662))]) (cs' := 0) (sl' := 0) rfl rfl rfl ?_
                  refine G_if_eq 188 d_cX9_advance_178 (by decide +kernel) (fun _ => ?_) (fun hc => absurd hc (by decide))
                  refine G_aload_n 3 d_cX9_advance_188 rfl ?_
                  refine G_iload_n 1 d_cX9_advance_189 rfl ?_
                  refine G_iload_n 0 d_cX9_advance_190 rfl ?_
                  refine G_callV (As := [.int z5150, .int z5174]) (wr := []) (gV_ok D I) (ct_4620_Signs_takeMark l hl0 D I q4654 q4655 q4656 z5150 z5174 p4657 0 o5146 p4660 p4661 f4662 (gB_w bp4661'' (by decide) (by decide)) bf4662 (by have qa0 : Int32.toInt 0 = 0 := (by decide); have qa1 : Int32.toInt 1 = 1 := (by decide); omega)) d_cX9_advance_191 ⟨w_3_109, w_1_4, w_3_112, by decide, rfl, (Nat.le_of_ble_eq_true rfl), (Nat.le_of_ble_eq_true rfl)⟩ w_3_111 w_p_6 0 rfl rfl [0, 1, 2] [] rfl rfl rfl rfl (by decide) (Nat.le_of_ble_eq_true rfl) (Nat.le_of_ble_eq_true rfl) (Nat.le_of_ble_eq_true rfl) (fun r w hp => ?_) (fun _ _ _ z => z.elim)
                  obtain ⟨o5323, o5324, o5325, rfl, rfl, bo5323, bo5324, bo5325, x5326⟩ := hp
                  change G _ _ _ _ _ _ _ _ _ _ _
                  refine G_ws (ws' := [(q4654, .inr (14, [.ref q4655, .int o5323, .int o5324, .int o5146, .int o5325])), (q4655, .inr (15, [.ref q4656, .int p4661])), (q4656, .inl (I .byte, 8192, .inl f4662))]) (cs' := 0) (sl' := 0) rfl rfl rfl ?_
                  exact G_vret d_cX9_advance_194 rfl (Nat.le_of_ble_eq_true rfl) (Nat.le_of_ble_eq_true rfl) ⟨o5323, o5324, o5146, o5325, rfl, rfl, (gB_w bo5323 (by decide) (by decide)), (gB_w bo5324 (by decide) (by decide)), (gB_w bo5146'' (by decide) (by decide)), bo5325, (by have qa0 : Int32.toInt 1 = 1 := (by decide); omega)⟩
                · have r5153''' : gB z5150 97 255 := ⟨by omega, by omega⟩
                  have r5153'''' : gB z5150 97 122 := ⟨by omega, by omega⟩
                  change G _ _ _ _ _ _ _ (.int 1 :: _) _ _ _
                  refine G_ws (ws' := [(q4654, .inr (14, [.ref q4655, .int p4657, .int 0, .int o5146, .int p4660])), (q4655, .inr (15, [.ref q4656, .int p4661])), (q4656, .inl (I .byte, 8192, .inl f4662))]) (cs' := 0) (sl' := 0) rfl rfl rfl ?_
                  refine G_if_eq 188 d_cX9_advance_178 (by decide +kernel) (fun hc => absurd hc (by decide)) (fun _ => ?_)
                  refine G_aload_n 3 d_cX9_advance_181 rfl ?_
                  refine G_callV (As := []) (wr := []) (gV_ok D I) (ct_3801_Signs_takeWord l hl0 D I q4654 q4655 q4656 p4657 0 o5146 p4660 p4661 f4662 (gB_w bp4661'' (by decide) (by decide)) bf4662 (by have qa0 : Int32.toInt 0 = 0 := (by decide); have qa1 : Int32.toInt 1 = 1 := (by decide); omega)) d_cX9_advance_182 ⟨w_3_48, w_1_4, w_3_51, by decide, rfl, (Nat.le_of_ble_eq_true rfl), (Nat.le_of_ble_eq_true rfl)⟩ w_3_50 w_p_4 0 rfl rfl [0, 1, 2] [] rfl rfl rfl rfl (by decide) (Nat.le_of_ble_eq_true rfl) (Nat.le_of_ble_eq_true rfl) (Nat.le_of_ble_eq_true rfl) (fun r w hp => ?_) (fun _ _ _ z => z.elim)
                  obtain ⟨o5327, o5328, rfl, rfl, bo5327, bo5328, x5329⟩ := hp
                  rw [show Int32.toInt 0 = 0 from by decide] at x5329
                  change G _ _ _ _ _ _ _ _ _ _ _
                  refine G_ws (ws' := [(q4654, .inr (14, [.ref q4655, .int o5327, .int 0, .int o5146, .int o5328])), (q4655, .inr (15, [.ref q4656, .int p4661])), (q4656, .inl (I .byte, 8192, .inl f4662))]) (cs' := 0) (sl' := 0) rfl rfl rfl ?_
                  refine G_goto 194 d_cX9_advance_185 (by decide +kernel) ?_
                  exact G_vret d_cX9_advance_194 rfl (Nat.le_of_ble_eq_true rfl) (Nat.le_of_ble_eq_true rfl) ⟨o5327, 0, o5146, o5328, rfl, rfl, bo5327, (gB_w (gBl (show Int32.toInt 0 = 0 by decide)) (by decide) (by decide)), (gB_w bo5146'' (by decide) (by decide)), bo5328, (by have qa0 : Int32.toInt 0 = 0 := (by decide); have qa1 : Int32.toInt 1 = 1 := (by decide); omega)⟩
              · have r5330 : z5150.toInt = 98 := gj_eq hc5312 (show Int32.toInt 98 = 98 by decide)
                have r5153''' : gB z5150 98 98 := ⟨by omega, by omega⟩
                refine G_iload_n 0 d_cX9_advance_157 rfl ?_
                refine G_callS (As := [.int z5174]) (wr := [(q4654, .inr (14, [.ref q4655, .int p4657, .int 0, .int o5146, .int p4660])), (q4655, .inr (15, [.ref q4656, .int p4661])), (q4656, .inl (I .byte, 8192, .inl f4662))]) (gV_ok D I) (ct_300_Signs_isDigit l hl0 D I z5174 ) d_cX9_advance_158 ⟨w_3_24, w_1_4, w_3_26, by decide, rfl, (Nat.le_of_ble_eq_true rfl), (Nat.le_of_ble_eq_true rfl)⟩ w_3_25 [] [0, 1, 2] rfl rfl rfl rfl (by decide) (Nat.le_of_ble_eq_true rfl) (Nat.le_of_ble_eq_true rfl) (Nat.le_of_ble_eq_true rfl) (fun r w hp => ?_) (fun _ _ _ z => z.elim)
                rcases hp with ⟨rfl, rfl, r5331⟩ | ⟨rfl, rfl, r5332, r5333⟩ | ⟨rfl, rfl, r5334, r5335⟩
                · have r5177' : gB z5174 0 47 := ⟨by omega, by omega⟩
                  change G _ _ _ _ _ _ _ (.int 0 :: _) _ _ _
                  refine G_ws (ws' := [(q4654, .inr (14, [.ref q4655, .int p4657, .int 0, .int o5146, .int p4660])), (q4655, .inr (15, [.ref q4656, .int p4661])), (q4656, .inl (I .byte, 8192, .inl f4662))]) (cs' := 0) (sl' := 0) rfl rfl rfl ?_
                  refine G_if_eq 174 d_cX9_advance_161 (by decide +kernel) (fun _ => ?_) (fun hc => absurd hc (by decide))
                  refine G_iload_n 1 d_cX9_advance_174 rfl ?_
                  refine G_callS (As := [.int z5150]) (wr := [(q4654, .inr (14, [.ref q4655, .int p4657, .int 0, .int o5146, .int p4660])), (q4655, .inr (15, [.ref q4656, .int p4661])), (q4656, .inl (I .byte, 8192, .inl f4662))]) (gV_ok D I) (ct_308_Signs_isLetter l hl0 D I z5150 ) d_cX9_advance_175 ⟨w_3_45, w_1_4, w_3_47, by decide, rfl, (Nat.le_of_ble_eq_true rfl), (Nat.le_of_ble_eq_true rfl)⟩ w_3_46 [] [0, 1, 2] rfl rfl rfl rfl (by decide) (Nat.le_of_ble_eq_true rfl) (Nat.le_of_ble_eq_true rfl) (Nat.le_of_ble_eq_true rfl) (fun r w hp => ?_) (fun _ _ _ z => z.elim)
                  rcases hp with ⟨rfl, rfl, r5336⟩ | ⟨rfl, rfl, r5337, r5338⟩ | ⟨rfl, rfl, r5339, r5340⟩
                  · exact absurd (show False by omega) not_false
                  · exact absurd (show False by omega) not_false
                  · change G _ _ _ _ _ _ _ (.int 1 :: _) _ _ _
                    refine G_ws (ws' := [(q4654, .inr (14, [.ref q4655, .int p4657, .int 0, .int o5146, .int p4660])), (q4655, .inr (15, [.ref q4656, .int p4661])), (q4656, .inl (I .byte, 8192, .inl f4662))]) (cs' := 0) (sl' := 0) rfl rfl rfl ?_
                    refine G_if_eq 188 d_cX9_advance_178 (by decide +kernel) (fun hc => absurd hc (by decide)) (fun _ => ?_)
                    refine G_aload_n 3 d_cX9_advance_181 rfl ?_
                    refine G_callV (As := []) (wr := []) (gV_ok D I) (ct_3801_Signs_takeWord l hl0 D I q4654 q4655 q4656 p4657 0 o5146 p4660 p4661 f4662 (gB_w bp4661'' (by decide) (by decide)) bf4662 (by have qa0 : Int32.toInt 0 = 0 := (by decide); have qa1 : Int32.toInt 1 = 1 := (by decide); omega)) d_cX9_advance_182 ⟨w_3_48, w_1_4, w_3_51, by decide, rfl, (Nat.le_of_ble_eq_true rfl), (Nat.le_of_ble_eq_true rfl)⟩ w_3_50 w_p_4 0 rfl rfl [0, 1, 2] [] rfl rfl rfl rfl (by decide) (Nat.le_of_ble_eq_true rfl) (Nat.le_of_ble_eq_true rfl) (Nat.le_of_ble_eq_true rfl) (fun r w hp => ?_) (fun _ _ _ z => z.elim)
                    obtain ⟨o5341, o5342, rfl, rfl, bo5341, bo5342, x5343⟩ := hp
                    rw [show Int32.toInt 0 = 0 from by decide] at x5343
                    change G _ _ _ _ _ _ _ _ _ _ _
                    refine G_ws (ws' := [(q4654, .inr (14, [.ref q4655, .int o5341, .int 0, .int o5146, .int o5342])), (q4655, .inr (15, [.ref q4656, .int p4661])), (q4656, .inl (I .byte, 8192, .inl f4662))]) (cs' := 0) (sl' := 0) rfl rfl rfl ?_
                    refine G_goto 194 d_cX9_advance_185 (by decide +kernel) ?_
                    exact G_vret d_cX9_advance_194 rfl (Nat.le_of_ble_eq_true rfl) (Nat.le_of_ble_eq_true rfl) ⟨o5341, 0, o5146, o5342, rfl, rfl, bo5341, (gB_w (gBl (show Int32.toInt 0 = 0 by decide)) (by decide) (by decide)), (gB_w bo5146'' (by decide) (by decide)), bo5342, (by have qa0 : Int32.toInt 0 = 0 := (by decide); have qa1 : Int32.toInt 1 = 1 := (by decide); omega)⟩
                · have r5177' : gB z5174 48 255 := ⟨by omega, by omega⟩
                  have r5177'' : gB z5174 58 255 := ⟨by omega, by omega⟩
                  change G _ _ _ _ _ _ _ (.int 0 :: _) _ _ _
                  refine G_ws (ws' := [(q4654, .inr (14, [.ref q4655, .int p4657, .int 0, .int o5146, .int p4660])), (q4655, .inr (15, [.ref q4656, .int p4661])), (q4656, .inl (I .byte, 8192, .inl f4662))]) (cs' := 0) (sl' := 0) rfl rfl rfl ?_
                  refine G_if_eq 174 d_cX9_advance_161 (by decide +kernel) (fun _ => ?_) (fun hc => absurd hc (by decide))
                  refine G_iload_n 1 d_cX9_advance_174 rfl ?_
                  refine G_callS (As := [.int z5150]) (wr := [(q4654, .inr (14, [.ref q4655, .int p4657, .int 0, .int o5146, .int p4660])), (q4655, .inr (15, [.ref q4656, .int p4661])), (q4656, .inl (I .byte, 8192, .inl f4662))]) (gV_ok D I) (ct_308_Signs_isLetter l hl0 D I z5150 ) d_cX9_advance_175 ⟨w_3_45, w_1_4, w_3_47, by decide, rfl, (Nat.le_of_ble_eq_true rfl), (Nat.le_of_ble_eq_true rfl)⟩ w_3_46 [] [0, 1, 2] rfl rfl rfl rfl (by decide) (Nat.le_of_ble_eq_true rfl) (Nat.le_of_ble_eq_true rfl) (Nat.le_of_ble_eq_true rfl) (fun r w hp => ?_) (fun _ _ _ z => z.elim)
                  rcases hp with ⟨rfl, rfl, r5344⟩ | ⟨rfl, rfl, r5345, r5346⟩ | ⟨rfl, rfl, r5347, r5348⟩
                  · exact absurd (show False by omega) not_false
                  · exact absurd (show False by omega) not_false
                  · change G _ _ _ _ _ _ _ (.int 1 :: _) _ _ _
                    refine G_ws (ws' := [(q4654, .inr (14, [.ref q4655, .int p4657, .int 0, .int o5146, .int p4660])), (q4655, .inr (15, [.ref q4656, .int p4661])), (q4656, .inl (I .byte, 8192, .inl f4662))]) (cs' := 0) (sl' := 0) rfl rfl rfl ?_
                    refine G_if_eq 188 d_cX9_advance_178 (by decide +kernel) (fun hc => absurd hc (by decide)) (fun _ => ?_)
                    refine G_aload_n 3 d_cX9_advance_181 rfl ?_
                    refine G_callV (As := []) (wr := []) (gV_ok D I) (ct_3801_Signs_takeWord l hl0 D I q4654 q4655 q4656 p4657 0 o5146 p4660 p4661 f4662 (gB_w bp4661'' (by decide) (by decide)) bf4662 (by have qa0 : Int32.toInt 0 = 0 := (by decide); have qa1 : Int32.toInt 1 = 1 := (by decide); omega)) d_cX9_advance_182 ⟨w_3_48, w_1_4, w_3_51, by decide, rfl, (Nat.le_of_ble_eq_true rfl), (Nat.le_of_ble_eq_true rfl)⟩ w_3_50 w_p_4 0 rfl rfl [0, 1, 2] [] rfl rfl rfl rfl (by decide) (Nat.le_of_ble_eq_true rfl) (Nat.le_of_ble_eq_true rfl) (Nat.le_of_ble_eq_true rfl) (fun r w hp => ?_) (fun _ _ _ z => z.elim)
                    obtain ⟨o5349, o5350, rfl, rfl, bo5349, bo5350, x5351⟩ := hp
                    rw [show Int32.toInt 0 = 0 from by decide] at x5351
                    change G _ _ _ _ _ _ _ _ _ _ _
                    refine G_ws (ws' := [(q4654, .inr (14, [.ref q4655, .int o5349, .int 0, .int o5146, .int o5350])), (q4655, .inr (15, [.ref q4656, .int p4661])), (q4656, .inl (I .byte, 8192, .inl f4662))]) (cs' := 0) (sl' := 0) rfl rfl rfl ?_
                    refine G_goto 194 d_cX9_advance_185 (by decide +kernel) ?_
                    exact G_vret d_cX9_advance_194 rfl (Nat.le_of_ble_eq_true rfl) (Nat.le_of_ble_eq_true rfl) ⟨o5349, 0, o5146, o5350, rfl, rfl, bo5349, (gB_w (gBl (show Int32.toInt 0 = 0 by decide)) (by decide) (by decide)), (gB_w bo5146'' (by decide) (by decide)), bo5350, (by have qa0 : Int32.toInt 0 = 0 := (by decide); have qa1 : Int32.toInt 1 = 1 := (by decide); omega)⟩
                · have r5177' : gB z5174 48 255 := ⟨by omega, by omega⟩
                  have r5177'' : gB z5174 48 57 := ⟨by omega, by omega⟩
                  change G _ _ _ _ _ _ _ (.int 1 :: _) _ _ _
                  refine G_ws (ws' := [(q4654, .inr (14, [.ref q4655, .int p4657, .int 0, .int o5146, .int p4660])), (q4655, .inr (15, [.ref q4656, .int p4661])), (q4656, .inl (I .byte, 8192, .inl f4662))]) (cs' := 0) (sl' := 0) rfl rfl rfl ?_
                  refine G_if_eq 174 d_cX9_advance_161 (by decide +kernel) (fun hc => absurd hc (by decide)) (fun _ => ?_)
                  refine G_aload_n 3 d_cX9_advance_164 rfl ?_
                  refine G_iconst 3 d_cX9_advance_165 (by decide +kernel) ?_
                  refine G_bipush 40 d_cX9_advance_166 (by decide +kernel) ?_
                  refine G_callV (As := [.int 3, .int 40]) (wr := []) (gV_ok D I) (ct_661_Signs_takeNamed l hl0 D I q4654 q4655 q4656 3 40 p4657 0 o5146 p4660 p4661 f4662 (gB_w (gBl (show Int32.toInt 3 = 3 by decide)) (by decide) (by decide)) (gB_w bp4661'' (by decide) (by decide)) bf4662 (by have qa0 : Int32.toInt 0 = 0 := (by decide); have qa1 : Int32.toInt 1 = 1 := (by decide); have qa2 : Int32.toInt 3 = 3 := (by decide); have qa3 : Int32.toInt 40 = 40 := (by decide); omega)) d_cX9_advance_168 ⟨w_3_41, w_1_4, w_3_44, by decide, rfl, (Nat.le_of_ble_eq_true rfl), (Nat.le_of_ble_eq_true rfl)⟩ w_3_43 w_p_3 0 rfl rfl [0, 1, 2] [] rfl rfl rfl rfl (by decide) (Nat.le_of_ble_eq_true rfl) (Nat.le_of_ble_eq_true rfl) (Nat.le_of_ble_eq_true rfl) (fun r w hp => ?_) (fun _ _ _ z => z.elim)
                  obtain ⟨o5352, o5353, o5354, rfl, rfl, bo5352, bo5353, bo5354, x5355⟩ := hp
                  change G _ _ _ _ _ _ _ _ _ _ _
                  refine G_ws (ws' := [(q4654, .inr (14, [.ref q4655, .int o5352, .int o5353, .int o5146, .int o5354])), (q4655, .inr (15, [.ref q4656, .int p4661])), (q4656, .inl (I .byte, 8192, .inl f4662))]) (cs' := 0) (sl' := 0) rfl rfl rfl ?_
                  refine G_goto 194 d_cX9_advance_171 (by decide +kernel) ?_
                  exact G_vret d_cX9_advance_194 rfl (Nat.le_of_ble_eq_true rfl) (Nat.le_of_ble_eq_true rfl) ⟨o5352, o5353, o5146, o5354, rfl, rfl, (gB_w bo5352 (by decide) (by decide)), bo5353, (gB_w bo5146'' (by decide) (by decide)), bo5354, (by have qa0 : Int32.toInt 1 = 1 := (by decide); omega)⟩
            · have r5356 : z5150.toInt = 118 := gj_eq hc5310 (show Int32.toInt 118 = 118 by decide)
              have r5153''' : gB z5150 118 118 := ⟨by omega, by omega⟩
              refine G_iload_n 0 d_cX9_advance_134 rfl ?_
              refine G_callS (As := [.int z5174]) (wr := [(q4654, .inr (14, [.ref q4655, .int p4657, .int 0, .int o5146, .int p4660])), (q4655, .inr (15, [.ref q4656, .int p4661])), (q4656, .inl (I .byte, 8192, .inl f4662))]) (gV_ok D I) (ct_300_Signs_isDigit l hl0 D I z5174 ) d_cX9_advance_135 ⟨w_3_24, w_1_4, w_3_26, by decide, rfl, (Nat.le_of_ble_eq_true rfl), (Nat.le_of_ble_eq_true rfl)⟩ w_3_25 [] [0, 1, 2] rfl rfl rfl rfl (by decide) (Nat.le_of_ble_eq_true rfl) (Nat.le_of_ble_eq_true rfl) (Nat.le_of_ble_eq_true rfl) (fun r w hp => ?_) (fun _ _ _ z => z.elim)
              rcases hp with ⟨rfl, rfl, r5357⟩ | ⟨rfl, rfl, r5358, r5359⟩ | ⟨rfl, rfl, r5360, r5361⟩
              · have r5177' : gB z5174 0 47 := ⟨by omega, by omega⟩
                change G _ _ _ _ _ _ _ (.int 0 :: _) _ _ _
                refine G_ws (ws' := [(q4654, .inr (14, [.ref q4655, .int p4657, .int 0, .int o5146, .int p4660])), (q4655, .inr (15, [.ref q4656, .int p4661])), (q4656, .inl (I .byte, 8192, .inl f4662))]) (cs' := 0) (sl' := 0) rfl rfl rfl ?_
                refine G_if_eq 151 d_cX9_advance_138 (by decide +kernel) (fun _ => ?_) (fun hc => absurd hc (by decide))
                refine G_iload_n 1 d_cX9_advance_151 rfl ?_
                refine G_bipush 98 d_cX9_advance_152 (by decide +kernel) ?_
                refine G_icmp_ne 174 d_cX9_advance_154 (by decide +kernel) (fun _ => ?_) (fun hc => absurd (show False by have := gj_eq hc (show Int32.toInt 98 = 98 by decide); omega) not_false)
                refine G_iload_n 1 d_cX9_advance_174 rfl ?_
                refine G_callS (As := [.int z5150]) (wr := [(q4654, .inr (14, [.ref q4655, .int p4657, .int 0, .int o5146, .int p4660])), (q4655, .inr (15, [.ref q4656, .int p4661])), (q4656, .inl (I .byte, 8192, .inl f4662))]) (gV_ok D I) (ct_308_Signs_isLetter l hl0 D I z5150 ) d_cX9_advance_175 ⟨w_3_45, w_1_4, w_3_47, by decide, rfl, (Nat.le_of_ble_eq_true rfl), (Nat.le_of_ble_eq_true rfl)⟩ w_3_46 [] [0, 1, 2] rfl rfl rfl rfl (by decide) (Nat.le_of_ble_eq_true rfl) (Nat.le_of_ble_eq_true rfl) (Nat.le_of_ble_eq_true rfl) (fun r w hp => ?_) (fun _ _ _ z => z.elim)
                rcases hp with ⟨rfl, rfl, r5362⟩ | ⟨rfl, rfl, r5363, r5364⟩ | ⟨rfl, rfl, r5365, r5366⟩
                · exact absurd (show False by omega) not_false
                · exact absurd (show False by omega) not_false
                · change G _ _ _ _ _ _ _ (.int 1 :: _) _ _ _
                  refine G_ws (ws' := [(q4654, .inr (14, [.ref q4655, .int p4657, .int 0, .int o5146, .int p4660])), (q4655, .inr (15, [.ref q4656, .int p4661])), (q4656, .inl (I .byte, 8192, .inl f4662))]) (cs' := 0) (sl' := 0) rfl rfl rfl ?_
                  refine G_if_eq 188 d_cX9_advance_178 (by decide +kernel) (fun hc => absurd hc (by decide)) (fun _ => ?_)
                  refine G_aload_n 3 d_cX9_advance_181 rfl ?_
                  refine G_callV (As := []) (wr := []) (gV_ok D I) (ct_3801_Signs_takeWord l hl0 D I q4654 q4655 q4656 p4657 0 o5146 p4660 p4661 f4662 (gB_w bp4661'' (by decide) (by decide)) bf4662 (by have qa0 : Int32.toInt 0 = 0 := (by decide); have qa1 : Int32.toInt 1 = 1 := (by decide); omega)) d_cX9_advance_182 ⟨w_3_48, w_1_4, w_3_51, by decide, rfl, (Nat.le_of_ble_eq_true rfl), (Nat.le_of_ble_eq_true rfl)⟩ w_3_50 w_p_4 0 rfl rfl [0, 1, 2] [] rfl rfl rfl rfl (by decide) (Nat.le_of_ble_eq_true rfl) (Nat.le_of_ble_eq_true rfl) (Nat.le_of_ble_eq_true rfl) (fun r w hp => ?_) (fun _ _ _ z => z.elim)
                  obtain ⟨o5367, o5368, rfl, rfl, bo5367, bo5368, x5369⟩ := hp
                  rw [show Int32.toInt 0 = 0 from by decide] at x5369
                  change G _ _ _ _ _ _ _ _ _ _ _
                  refine G_ws (ws' := [(q4654, .inr (14, [.ref q4655, .int o5367, .int 0, .int o5146, .int o5368])), (q4655, .inr (15, [.ref q4656, .int p4661])), (q4656, .inl (I .byte, 8192, .inl f4662))]) (cs' := 0) (sl' := 0) rfl rfl rfl ?_
                  refine G_goto 194 d_cX9_advance_185 (by decide +kernel) ?_
                  exact G_vret d_cX9_advance_194 rfl (Nat.le_of_ble_eq_true rfl) (Nat.le_of_ble_eq_true rfl) ⟨o5367, 0, o5146, o5368, rfl, rfl, bo5367, (gB_w (gBl (show Int32.toInt 0 = 0 by decide)) (by decide) (by decide)), (gB_w bo5146'' (by decide) (by decide)), bo5368, (by have qa0 : Int32.toInt 0 = 0 := (by decide); have qa1 : Int32.toInt 1 = 1 := (by decide); omega)⟩
              · have r5177' : gB z5174 48 255 := ⟨by omega, by omega⟩
                have r5177'' : gB z5174 58 255 := ⟨by omega, by omega⟩
                change G _ _ _ _ _ _ _ (.int 0 :: _) _ _ _
                refine G_ws (ws' := [(q4654, .inr (14, [.ref q4655, .int p4657, .int 0, .int o5146, .int p4660])), (q4655, .inr (15, [.ref q4656, .int p4661])), (q4656, .inl (I .byte, 8192, .inl f4662))]) (cs' := 0) (sl' := 0) rfl rfl rfl ?_
                refine G_if_eq 151 d_cX9_advance_138 (by decide +kernel) (fun _ => ?_) (fun hc => absurd hc (by decide))
                refine G_iload_n 1 d_cX9_advance_151 rfl ?_
                refine G_bipush 98 d_cX9_advance_152 (by decide +kernel) ?_
                refine G_icmp_ne 174 d_cX9_advance_154 (by decide +kernel) (fun _ => ?_) (fun hc => absurd (show False by have := gj_eq hc (show Int32.toInt 98 = 98 by decide); omega) not_false)
                refine G_iload_n 1 d_cX9_advance_174 rfl ?_
                refine G_callS (As := [.int z5150]) (wr := [(q4654, .inr (14, [.ref q4655, .int p4657, .int 0, .int o5146, .int p4660])), (q4655, .inr (15, [.ref q4656, .int p4661])), (q4656, .inl (I .byte, 8192, .inl f4662))]) (gV_ok D I) (ct_308_Signs_isLetter l hl0 D I z5150 ) d_cX9_advance_175 ⟨w_3_45, w_1_4, w_3_47, by decide, rfl, (Nat.le_of_ble_eq_true rfl), (Nat.le_of_ble_eq_true rfl)⟩ w_3_46 [] [0, 1, 2] rfl rfl rfl rfl (by decide) (Nat.le_of_ble_eq_true rfl) (Nat.le_of_ble_eq_true rfl) (Nat.le_of_ble_eq_true rfl) (fun r w hp => ?_) (fun _ _ _ z => z.elim)
                rcases hp with ⟨rfl, rfl, r5370⟩ | ⟨rfl, rfl, r5371, r5372⟩ | ⟨rfl, rfl, r5373, r5374⟩
                · exact absurd (show False by omega) not_false
                · exact absurd (show False by omega) not_false
                · change G _ _ _ _ _ _ _ (.int 1 :: _) _ _ _
                  refine G_ws (ws' := [(q4654, .inr (14, [.ref q4655, .int p4657, .int 0, .int o5146, .int p4660])), (q4655, .inr (15, [.ref q4656, .int p4661])), (q4656, .inl (I .byte, 8192, .inl f4662))]) (cs' := 0) (sl' := 0) rfl rfl rfl ?_
                  refine G_if_eq 188 d_cX9_advance_178 (by decide +kernel) (fun hc => absurd hc (by decide)) (fun _ => ?_)
                  refine G_aload_n 3 d_cX9_advance_181 rfl ?_
                  refine G_callV (As := []) (wr := []) (gV_ok D I) (ct_3801_Signs_takeWord l hl0 D I q4654 q4655 q4656 p4657 0 o5146 p4660 p4661 f4662 (gB_w bp4661'' (by decide) (by decide)) bf4662 (by have qa0 : Int32.toInt 0 = 0 := (by decide); have qa1 : Int32.toInt 1 = 1 := (by decide); omega)) d_cX9_advance_182 ⟨w_3_48, w_1_4, w_3_51, by decide, rfl, (Nat.le_of_ble_eq_true rfl), (Nat.le_of_ble_eq_true rfl)⟩ w_3_50 w_p_4 0 rfl rfl [0, 1, 2] [] rfl rfl rfl rfl (by decide) (Nat.le_of_ble_eq_true rfl) (Nat.le_of_ble_eq_true rfl) (Nat.le_of_ble_eq_true rfl) (fun r w hp => ?_) (fun _ _ _ z => z.elim)
                  obtain ⟨o5375, o5376, rfl, rfl, bo5375, bo5376, x5377⟩ := hp
                  rw [show Int32.toInt 0 = 0 from by decide] at x5377
                  change G _ _ _ _ _ _ _ _ _ _ _
                  refine G_ws (ws' := [(q4654, .inr (14, [.ref q4655, .int o5375, .int 0, .int o5146, .int o5376])), (q4655, .inr (15, [.ref q4656, .int p4661])), (q4656, .inl (I .byte, 8192, .inl f4662))]) (cs' := 0) (sl' := 0) rfl rfl rfl ?_
                  refine G_goto 194 d_cX9_advance_185 (by decide +kernel) ?_
                  exact G_vret d_cX9_advance_194 rfl (Nat.le_of_ble_eq_true rfl) (Nat.le_of_ble_eq_true rfl) ⟨o5375, 0, o5146, o5376, rfl, rfl, bo5375, (gB_w (gBl (show Int32.toInt 0 = 0 by decide)) (by decide) (by decide)), (gB_w bo5146'' (by decide) (by decide)), bo5376, (by have qa0 : Int32.toInt 0 = 0 := (by decide); have qa1 : Int32.toInt 1 = 1 := (by decide); omega)⟩
              · have r5177' : gB z5174 48 255 := ⟨by omega, by omega⟩
                have r5177'' : gB z5174 48 57 := ⟨by omega, by omega⟩
                change G _ _ _ _ _ _ _ (.int 1 :: _) _ _ _
                refine G_ws (ws' := [(q4654, .inr (14, [.ref q4655, .int p4657, .int 0, .int o5146, .int p4660])), (q4655, .inr (15, [.ref q4656, .int p4661])), (q4656, .inl (I .byte, 8192, .inl f4662))]) (cs' := 0) (sl' := 0) rfl rfl rfl ?_
                refine G_if_eq 151 d_cX9_advance_138 (by decide +kernel) (fun hc => absurd hc (by decide)) (fun _ => ?_)
                refine G_aload_n 3 d_cX9_advance_141 rfl ?_
                refine G_iconst 2 d_cX9_advance_142 (by decide +kernel) ?_
                refine G_bipush 100 d_cX9_advance_143 (by decide +kernel) ?_
                refine G_callV (As := [.int 2, .int 100]) (wr := []) (gV_ok D I) (ct_661_Signs_takeNamed l hl0 D I q4654 q4655 q4656 2 100 p4657 0 o5146 p4660 p4661 f4662 (gB_w (gBl (show Int32.toInt 2 = 2 by decide)) (by decide) (by decide)) (gB_w bp4661'' (by decide) (by decide)) bf4662 (by have qa0 : Int32.toInt 0 = 0 := (by decide); have qa1 : Int32.toInt 1 = 1 := (by decide); have qa2 : Int32.toInt 2 = 2 := (by decide); have qa3 : Int32.toInt 100 = 100 := (by decide); omega)) d_cX9_advance_145 ⟨w_3_41, w_1_4, w_3_44, by decide, rfl, (Nat.le_of_ble_eq_true rfl), (Nat.le_of_ble_eq_true rfl)⟩ w_3_43 w_p_3 0 rfl rfl [0, 1, 2] [] rfl rfl rfl rfl (by decide) (Nat.le_of_ble_eq_true rfl) (Nat.le_of_ble_eq_true rfl) (Nat.le_of_ble_eq_true rfl) (fun r w hp => ?_) (fun _ _ _ z => z.elim)
                obtain ⟨o5378, o5379, o5380, rfl, rfl, bo5378, bo5379, bo5380, x5381⟩ := hp
                change G _ _ _ _ _ _ _ _ _ _ _
                refine G_ws (ws' := [(q4654, .inr (14, [.ref q4655, .int o5378, .int o5379, .int o5146, .int o5380])), (q4655, .inr (15, [.ref q4656, .int p4661])), (q4656, .inl (I .byte, 8192, .inl f4662))]) (cs' := 0) (sl' := 0) rfl rfl rfl ?_
                refine G_goto 194 d_cX9_advance_148 (by decide +kernel) ?_
                exact G_vret d_cX9_advance_194 rfl (Nat.le_of_ble_eq_true rfl) (Nat.le_of_ble_eq_true rfl) ⟨o5378, o5379, o5146, o5380, rfl, rfl, (gB_w bo5378 (by decide) (by decide)), bo5379, (gB_w bo5146'' (by decide) (by decide)), bo5380, (by have qa0 : Int32.toInt 1 = 1 := (by decide); omega)⟩
          · have r5153' : gB z5150 48 255 := ⟨by omega, by omega⟩
            have r5153'' : gB z5150 48 57 := ⟨by omega, by omega⟩
            change G _ _ _ _ _ _ _ (.int 1 :: _) _ _ _
            refine G_ws (ws' := [(q4654, .inr (14, [.ref q4655, .int p4657, .int 0, .int o5146, .int p4660])), (q4655, .inr (15, [.ref q4656, .int p4661])), (q4656, .inl (I .byte, 8192, .inl f4662))]) (cs' := 0) (sl' := 0) rfl rfl rfl ?_
            refine G_if_ne 110 d_cX9_advance_90 (by decide +kernel) (fun _ => ?_) (fun hc => absurd hc (by decide))
            refine G_aload_n 3 d_cX9_advance_110 rfl ?_
            refine G_iload_n 1 d_cX9_advance_111 rfl ?_
            refine G_bipush 45 d_cX9_advance_112 (by decide +kernel) ?_
            refine G_icmp_ne 121 d_cX9_advance_114 (by decide +kernel) (fun _ => ?_) (fun hc => absurd (show False by have := gj_eq hc (show Int32.toInt 45 = 45 by decide); omega) not_false)
            refine G_iconst 0 d_cX9_advance_121 (by decide +kernel) ?_
            refine G_callV (As := [.int 0]) (wr := []) (gV_ok D I) (ct_624_Signs_takeNumber l hl0 D I q4654 q4655 q4656 0 p4657 0 o5146 p4660 p4661 f4662 (gB_w (gBl (show Int32.toInt 0 = 0 by decide)) (by decide) (by decide)) (gB_w bp4661'' (by decide) (by decide)) bf4662 (by have qa0 : Int32.toInt 0 = 0 := (by decide); have qa1 : Int32.toInt 1 = 1 := (by decide); omega)) d_cX9_advance_122 ⟨w_3_27, w_1_4, w_3_30, by decide, rfl, (Nat.le_of_ble_eq_true rfl), (Nat.le_of_ble_eq_true rfl)⟩ w_3_29 w_p_1 0 rfl rfl [0, 1, 2] [] rfl rfl rfl rfl (by decide) (Nat.le_of_ble_eq_true rfl) (Nat.le_of_ble_eq_true rfl) (Nat.le_of_ble_eq_true rfl) (fun r w hp => ?_) (fun _ _ _ z => z.elim)
            obtain ⟨o5382, o5383, o5384, rfl, rfl, bo5382, bo5383, bo5384, x5385⟩ := hp
            change G _ _ _ _ _ _ _ _ _ _ _
            refine G_ws (ws' := [(q4654, .inr (14, [.ref q4655, .int o5382, .int o5383, .int o5146, .int o5384])), (q4655, .inr (15, [.ref q4656, .int p4661])), (q4656, .inl (I .byte, 8192, .inl f4662))]) (cs' := 0) (sl' := 0) rfl rfl rfl ?_
            refine G_goto 194 d_cX9_advance_125 (by decide +kernel) ?_
            exact G_vret d_cX9_advance_194 rfl (Nat.le_of_ble_eq_true rfl) (Nat.le_of_ble_eq_true rfl) ⟨o5382, o5383, o5146, o5384, rfl, rfl, (gB_w bo5382 (by decide) (by decide)), bo5383, (gB_w bo5146'' (by decide) (by decide)), bo5384, (by have qa0 : Int32.toInt 1 = 1 := (by decide); omega)⟩
