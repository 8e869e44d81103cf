theorem d_cX9_opOf_0 : decode cX9_opOf 0 = .ok (.iconst 0, 1) := by decide +kernel
theorem d_cX9_opOf_1 : decode cX9_opOf 1 = .ok (.istore_n 2, 1) := by decide +kernel
theorem d_cX9_opOf_2 : decode cX9_opOf 2 = .ok (.iload_n 2, 1) := by decide +kernel
theorem d_cX9_opOf_3 : decode cX9_opOf 3 = .ok (.bipush 14, 2) := by decide +kernel
theorem d_cX9_opOf_5 : decode cX9_opOf 5 = .ok (.if_icmp .ge 37, 3) := by decide +kernel
theorem d_cX9_opOf_42 : decode cX9_opOf 42 = .ok (.iconst (-1), 1) := by decide +kernel
theorem d_cX9_opOf_43 : decode cX9_opOf 43 = .ok (.ireturn, 1) := by decide +kernel
theorem d_cX9_opOf_8 : decode cX9_opOf 8 = .ok (.ldc 108, 2) := by decide +kernel
theorem d_cX9_opOf_10 : decode cX9_opOf 10 = .ok (.iconst 2, 1) := by decide +kernel
theorem d_cX9_opOf_11 : decode cX9_opOf 11 = .ok (.iload_n 2, 1) := by decide +kernel
theorem d_cX9_opOf_12 : decode cX9_opOf 12 = .ok (.imul, 1) := by decide +kernel
theorem d_cX9_opOf_13 : decode cX9_opOf 13 = .ok (.invokevirtual 100, 3) := by decide +kernel
theorem d_cX9_opOf_16 : decode cX9_opOf 16 = .ok (.iload_n 0, 1) := by decide +kernel
theorem d_cX9_opOf_17 : decode cX9_opOf 17 = .ok (.if_icmp .ne 19, 3) := by decide +kernel
theorem d_cX9_opOf_36 : decode cX9_opOf 36 = .ok (.iinc 2 1, 3) := by decide +kernel
theorem d_cX9_opOf_39 : decode cX9_opOf 39 = .ok (.goto (-37), 3) := by decide +kernel
theorem d_cX9_opOf_20 : decode cX9_opOf 20 = .ok (.ldc 108, 2) := by decide +kernel
theorem d_cX9_opOf_22 : decode cX9_opOf 22 = .ok (.iconst 2, 1) := by decide +kernel
theorem d_cX9_opOf_23 : decode cX9_opOf 23 = .ok (.iload_n 2, 1) := by decide +kernel
theorem d_cX9_opOf_24 : decode cX9_opOf 24 = .ok (.imul, 1) := by decide +kernel
theorem d_cX9_opOf_25 : decode cX9_opOf 25 = .ok (.iconst 1, 1) := by decide +kernel
theorem d_cX9_opOf_26 : decode cX9_opOf 26 = .ok (.iadd, 1) := by decide +kernel
theorem d_cX9_opOf_27 : decode cX9_opOf 27 = .ok (.invokevirtual 100, 3) := by decide +kernel
theorem d_cX9_opOf_30 : decode cX9_opOf 30 = .ok (.iload_n 1, 1) := by decide +kernel
theorem d_cX9_opOf_31 : decode cX9_opOf 31 = .ok (.if_icmp .ne 5, 3) := by decide +kernel
theorem d_cX9_opOf_34 : decode cX9_opOf 34 = .ok (.iload_n 2, 1) := by decide +kernel
theorem d_cX9_opOf_35 : decode cX9_opOf 35 = .ok (.ireturn, 1) := by decide +kernel
theorem d_cX9_takeMark_0 : decode cX9_takeMark 0 = .ok (.iload_n 1, 1) := by decide +kernel
theorem d_cX9_takeMark_1 : decode cX9_takeMark 1 = .ok (.iload_n 2, 1) := by decide +kernel
theorem d_cX9_takeMark_2 : decode cX9_takeMark 2 = .ok (.invokestatic 104, 3) := by decide +kernel
theorem w_3_113 : (Jvm.Cond.methodLink "SpillForge$Signs" (104 : Nat) ({ cls := "SpillForge$Signs", name := "opOf", desc := "(II)I" } : Jvm.MethodName)) ∈ gw := gw_3 113 rfl rfl
theorem w_3_115 : (Jvm.Cond.code ({ cls := "SpillForge$Signs", name := "opOf", desc := "(II)I" } : Jvm.MethodName) prog_11_method_14_code (3 : Nat) (Option.some Jvm.ClassFile.FieldType.int)) ∈ gw := gw_3 115 rfl rfl
theorem w_3_114 : (Jvm.Cond.static ({ cls := "SpillForge$Signs", name := "opOf", desc := "(II)I" } : Jvm.MethodName)) ∈ gw := gw_3 114 rfl rfl
theorem d_cX9_takeMark_5 : decode cX9_takeMark 5 = .ok (.istore_n 3, 1) := by decide +kernel
theorem d_cX9_takeMark_6 : decode cX9_takeMark 6 = .ok (.aload_n 0, 1) := by decide +kernel
theorem d_cX9_takeMark_7 : decode cX9_takeMark 7 = .ok (.aload_n 0, 1) := by decide +kernel
theorem d_cX9_takeMark_8 : decode cX9_takeMark 8 = .ok (.getfield 22, 3) := by decide +kernel
theorem d_cX9_takeMark_11 : decode cX9_takeMark 11 = .ok (.iconst 2, 1) := by decide +kernel
theorem d_cX9_takeMark_12 : decode cX9_takeMark 12 = .ok (.iadd, 1) := by decide +kernel
theorem d_cX9_takeMark_13 : decode cX9_takeMark 13 = .ok (.putfield 25, 3) := by decide +kernel
theorem d_cX9_takeMark_16 : decode cX9_takeMark 16 = .ok (.iload_n 3, 1) := by decide +kernel
theorem d_cX9_takeMark_17 : decode cX9_takeMark 17 = .ok (.iconst (-1), 1) := by decide +kernel
theorem d_cX9_takeMark_18 : decode cX9_takeMark 18 = .ok (.if_icmp .eq 9, 3) := by decide +kernel
theorem d_cX9_takeMark_27 : decode cX9_takeMark 27 = .ok (.iload_n 1, 1) := by decide +kernel
theorem d_cX9_takeMark_28 : decode cX9_takeMark 28 = .ok (.bipush 32, 2) := by decide +kernel
theorem d_cX9_takeMark_30 : decode cX9_takeMark 30 = .ok (.invokestatic 104, 3) := by decide +kernel
theorem d_cX9_takeMark_33 : decode cX9_takeMark 33 = .ok (.istore_n 3, 1) := by decide +kernel
theorem d_cX9_takeMark_34 : decode cX9_takeMark 34 = .ok (.aload_n 0, 1) := by decide +kernel
theorem d_cX9_takeMark_35 : decode cX9_takeMark 35 = .ok (.aload_n 0, 1) := by decide +kernel
theorem d_cX9_takeMark_36 : decode cX9_takeMark 36 = .ok (.getfield 22, 3) := by decide +kernel
theorem d_cX9_takeMark_39 : decode cX9_takeMark 39 = .ok (.iconst 1, 1) := by decide +kernel
theorem d_cX9_takeMark_40 : decode cX9_takeMark 40 = .ok (.iadd, 1) := by decide +kernel
theorem d_cX9_takeMark_41 : decode cX9_takeMark 41 = .ok (.putfield 25, 3) := by decide +kernel
theorem d_cX9_takeMark_44 : decode cX9_takeMark 44 = .ok (.aload_n 0, 1) := by decide +kernel
theorem d_cX9_takeMark_45 : decode cX9_takeMark 45 = .ok (.iload_n 3, 1) := by decide +kernel
theorem d_cX9_takeMark_46 : decode cX9_takeMark 46 = .ok (.putfield 19, 3) := by decide +kernel
theorem d_cX9_takeMark_49 : decode cX9_takeMark 49 = .ok (.aload_n 0, 1) := by decide +kernel
theorem d_cX9_takeMark_50 : decode cX9_takeMark 50 = .ok (.iload_n 3, 1) := by decide +kernel
theorem d_cX9_takeMark_51 : decode cX9_takeMark 51 = .ok (.iconst (-1), 1) := by decide +kernel
theorem d_cX9_takeMark_52 : decode cX9_takeMark 52 = .ok (.if_icmp .eq 7, 3) := by decide +kernel
theorem d_cX9_takeMark_59 : decode cX9_takeMark 59 = .ok (.iload_n 1, 1) := by decide +kernel
theorem d_cX9_takeMark_60 : decode cX9_takeMark 60 = .ok (.bipush 58, 2) := by decide +kernel
theorem d_cX9_takeMark_62 : decode cX9_takeMark 62 = .ok (.if_icmp .ne 8, 3) := by decide +kernel
theorem d_cX9_takeMark_70 : decode cX9_takeMark 70 = .ok (.iload_n 1, 1) := by decide +kernel
theorem d_cX9_takeMark_71 : decode cX9_takeMark 71 = .ok (.bipush 61, 2) := by decide +kernel
theorem d_cX9_takeMark_73 : decode cX9_takeMark 73 = .ok (.if_icmp .ne 8, 3) := by decide +kernel
theorem d_cX9_takeMark_81 : decode cX9_takeMark 81 = .ok (.iconst 0, 1) := by decide +kernel
theorem d_cX9_takeMark_82 : decode cX9_takeMark 82 = .ok (.putfield 15, 3) := by decide +kernel
theorem d_cX9_takeMark_85 : decode cX9_takeMark 85 = .ok (.return_, 1) := by decide +kernel
theorem d_cX9_takeMark_76 : decode cX9_takeMark 76 = .ok (.bipush 7, 2) := by decide +kernel
theorem d_cX9_takeMark_78 : decode cX9_takeMark 78 = .ok (.goto 4, 3) := by decide +kernel
theorem d_cX9_takeMark_65 : decode cX9_takeMark 65 = .ok (.bipush 6, 2) := by decide +kernel
theorem d_cX9_takeMark_67 : decode cX9_takeMark 67 = .ok (.goto 15, 3) := by decide +kernel
theorem d_cX9_takeMark_55 : decode cX9_takeMark 55 = .ok (.iconst 5, 1) := by decide +kernel
theorem d_cX9_takeMark_56 : decode cX9_takeMark 56 = .ok (.goto 26, 3) := by decide +kernel
theorem d_cX9_takeMark_21 : decode cX9_takeMark 21 = .ok (.iload_n 2, 1) := by decide +kernel
theorem d_cX9_takeMark_22 : decode cX9_takeMark 22 = .ok (.bipush 32, 2) := by decide +kernel
theorem d_cX9_takeMark_24 : decode cX9_takeMark 24 = .ok (.if_icmp .ne 20, 3) := by decide +kernel
theorem d_cX9_advance_0 : decode cX9_advance 0 = .ok (.aload_n 0, 1) := by decide +kernel
theorem d_cX9_advance_1 : decode cX9_advance 1 = .ok (.getfield 15, 3) := by decide +kernel
theorem d_cX9_advance_4 : decode cX9_advance 4 = .ok (.iconst 2, 1) := by decide +kernel
theorem d_cX9_advance_5 : decode cX9_advance 5 = .ok (.if_icmp .eq 11, 3) := by decide +kernel
theorem d_cX9_advance_16 : decode cX9_advance 16 = .ok (.iconst 1, 1) := by decide +kernel
theorem d_cX9_advance_17 : decode cX9_advance 17 = .ok (.goto 4, 3) := by decide +kernel
theorem d_cX9_advance_21 : decode cX9_advance 21 = .ok (.istore_n 1, 1) := by decide +kernel
theorem d_cX9_advance_22 : decode cX9_advance 22 = .ok (.aload_n 0, 1) := by decide +kernel
theorem d_cX9_advance_23 : decode cX9_advance 23 = .ok (.aload_n 0, 1) := by decide +kernel
theorem d_cX9_advance_24 : decode cX9_advance 24 = .ok (.aload_n 0, 1) := by decide +kernel
theorem d_cX9_advance_25 : decode cX9_advance 25 = .ok (.getfield 25, 3) := by decide +kernel
theorem d_cX9_advance_28 : decode cX9_advance 28 = .ok (.invokevirtual 31, 3) := by decide +kernel
theorem w_3_12 : (Jvm.Cond.methodLink "SpillForge$Signs" (31 : Nat) ({ cls := "SpillForge$Signs", name := "skipBlanks", desc := "(I)I" } : Jvm.MethodName)) ∈ gw := gw_3 12 rfl rfl
theorem w_3_15 : (Jvm.Cond.code ({ cls := "SpillForge$Signs", name := "skipBlanks", desc := "(I)I" } : Jvm.MethodName) prog_11_method_7_code (5 : Nat) (Option.some Jvm.ClassFile.FieldType.int)) ∈ gw := gw_3 15 rfl rfl
theorem w_3_14 : (Jvm.Cond.instanceMethod ({ cls := "SpillForge$Signs", name := "skipBlanks", desc := "(I)I" } : Jvm.MethodName)) ∈ gw := gw_3 14 rfl rfl
theorem w_p_0 : Cond.selects "SpillForge$Signs" ⟨"SpillForge$Signs", "skipBlanks", "(I)I"⟩ ⟨"SpillForge$Signs", "skipBlanks", "(I)I"⟩ ∈ gw := gw_p _ 0 rfl rfl rfl
theorem d_cX9_advance_31 : decode cX9_advance 31 = .ok (.putfield 22, 3) := by decide +kernel
theorem d_cX9_advance_34 : decode cX9_advance 34 = .ok (.aload_n 0, 1) := by decide +kernel
theorem d_cX9_advance_35 : decode cX9_advance 35 = .ok (.getfield 9, 3) := by decide +kernel
theorem d_cX9_advance_38 : decode cX9_advance 38 = .ok (.aload_n 0, 1) := by decide +kernel
theorem d_cX9_advance_39 : decode cX9_advance 39 = .ok (.getfield 22, 3) := by decide +kernel
theorem d_cX9_advance_42 : decode cX9_advance 42 = .ok (.invokevirtual 35, 3) := by decide +kernel
theorem d_cX9_advance_45 : decode cX9_advance 45 = .ok (.istore_n 2, 1) := by decide +kernel
theorem d_cX9_advance_46 : decode cX9_advance 46 = .ok (.aload_n 0, 1) := by decide +kernel
theorem d_cX9_advance_47 : decode cX9_advance 47 = .ok (.getfield 9, 3) := by decide +kernel
theorem d_cX9_advance_50 : decode cX9_advance 50 = .ok (.aload_n 0, 1) := by decide +kernel
theorem d_cX9_advance_51 : decode cX9_advance 51 = .ok (.getfield 22, 3) := by decide +kernel
theorem d_cX9_advance_54 : decode cX9_advance 54 = .ok (.iconst 1, 1) := by decide +kernel
theorem d_cX9_advance_55 : decode cX9_advance 55 = .ok (.iadd, 1) := by decide +kernel
theorem d_cX9_advance_56 : decode cX9_advance 56 = .ok (.invokevirtual 35, 3) := by decide +kernel
theorem d_cX9_advance_59 : decode cX9_advance 59 = .ok (.istore_n 3, 1) := by decide +kernel
theorem d_cX9_advance_60 : decode cX9_advance 60 = .ok (.aload_n 0, 1) := by decide +kernel
theorem d_cX9_advance_61 : decode cX9_advance 61 = .ok (.iconst 0, 1) := by decide +kernel
theorem d_cX9_advance_62 : decode cX9_advance 62 = .ok (.putfield 19, 3) := by decide +kernel
theorem d_cX9_advance_65 : decode cX9_advance 65 = .ok (.iload_n 2, 1) := by decide +kernel
theorem d_cX9_advance_66 : decode cX9_advance 66 = .ok (.iconst (-1), 1) := by decide +kernel
theorem d_cX9_advance_67 : decode cX9_advance 67 = .ok (.if_icmp .ne 19, 3) := by decide +kernel
theorem d_cX9_advance_86 : decode cX9_advance 86 = .ok (.iload_n 2, 1) := by decide +kernel
theorem d_cX9_advance_87 : decode cX9_advance 87 = .ok (.invokestatic 40, 3) := by decide +kernel
theorem d_cX9_advance_90 : decode cX9_advance 90 = .ok (.ifCond .ne 20, 3) := by decide +kernel
theorem d_cX9_advance_110 : decode cX9_advance 110 = .ok (.aload_n 0, 1) := by decide +kernel
theorem d_cX9_advance_111 : decode cX9_advance 111 = .ok (.iload_n 2, 1) := by decide +kernel
theorem d_cX9_advance_112 : decode cX9_advance 112 = .ok (.bipush 45, 2) := by decide +kernel
theorem d_cX9_advance_114 : decode cX9_advance 114 = .ok (.if_icmp .ne 7, 3) := by decide +kernel
theorem d_cX9_advance_121 : decode cX9_advance 121 = .ok (.iconst 0, 1) := by decide +kernel
theorem d_cX9_advance_122 : decode cX9_advance 122 = .ok (.invokevirtual 44, 3) := by decide +kernel
theorem w_3_27 : (Jvm.Cond.methodLink "SpillForge$Signs" (44 : Nat) ({ cls := "SpillForge$Signs", name := "takeNumber", desc := "(Z)V" } : Jvm.MethodName)) ∈ gw := gw_3 27 rfl rfl
theorem w_3_30 : (Jvm.Cond.code ({ cls := "SpillForge$Signs", name := "takeNumber", desc := "(Z)V" } : Jvm.MethodName) prog_11_method_8_code (6 : Nat) (Option.none : Option Jvm.ClassFile.FieldType)) ∈ gw := gw_3 30 rfl rfl
theorem w_3_29 : (Jvm.Cond.instanceMethod ({ cls := "SpillForge$Signs", name := "takeNumber", desc := "(Z)V" } : Jvm.MethodName)) ∈ gw := gw_3 29 rfl rfl
theorem w_p_1 : Cond.selects "SpillForge$Signs" ⟨"SpillForge$Signs", "takeNumber", "(Z)V"⟩ ⟨"SpillForge$Signs", "takeNumber", "(Z)V"⟩ ∈ gw := gw_p _ 1 rfl rfl rfl
theorem d_cX9_advance_125 : decode cX9_advance 125 = .ok (.goto 69, 3) := by decide +kernel
theorem d_cX9_advance_194 : decode cX9_advance 194 = .ok (.return_, 1) := by decide +kernel
theorem d_cX9_advance_117 : decode cX9_advance 117 = .ok (.iconst 1, 1) := by decide +kernel
theorem d_cX9_advance_118 : decode cX9_advance 118 = .ok (.goto 4, 3) := by decide +kernel
theorem d_cX9_advance_93 : decode cX9_advance 93 = .ok (.iload_n 2, 1) := by decide +kernel
theorem d_cX9_advance_94 : decode cX9_advance 94 = .ok (.bipush 45, 2) := by decide +kernel
theorem d_cX9_advance_96 : decode cX9_advance 96 = .ok (.if_icmp .ne 32, 3) := by decide +kernel
theorem d_cX9_advance_128 : decode cX9_advance 128 = .ok (.iload_n 2, 1) := by decide +kernel
theorem d_cX9_advance_129 : decode cX9_advance 129 = .ok (.bipush 118, 2) := by decide +kernel
theorem d_cX9_advance_131 : decode cX9_advance 131 = .ok (.if_icmp .ne 20, 3) := by decide +kernel
theorem d_cX9_advance_151 : decode cX9_advance 151 = .ok (.iload_n 2, 1) := by decide +kernel
theorem d_cX9_advance_152 : decode cX9_advance 152 = .ok (.bipush 98, 2) := by decide +kernel
theorem d_cX9_advance_154 : decode cX9_advance 154 = .ok (.if_icmp .ne 20, 3) := by decide +kernel
theorem d_cX9_advance_174 : decode cX9_advance 174 = .ok (.iload_n 2, 1) := by decide +kernel
theorem d_cX9_advance_175 : decode cX9_advance 175 = .ok (.invokestatic 52, 3) := by decide +kernel
theorem d_cX9_advance_178 : decode cX9_advance 178 = .ok (.ifCond .eq 10, 3) := by decide +kernel
theorem d_cX9_advance_188 : decode cX9_advance 188 = .ok (.aload_n 0, 1) := by decide +kernel
theorem d_cX9_advance_189 : decode cX9_advance 189 = .ok (.iload_n 2, 1) := by decide +kernel
theorem d_cX9_advance_190 : decode cX9_advance 190 = .ok (.iload_n 3, 1) := by decide +kernel
theorem d_cX9_advance_191 : decode cX9_advance 191 = .ok (.invokevirtual 58, 3) := by decide +kernel
theorem w_3_109 : (Jvm.Cond.methodLink "SpillForge$Signs" (58 : Nat) ({ cls := "SpillForge$Signs", name := "takeMark", desc := "(II)V" } : Jvm.MethodName)) ∈ gw := gw_3 109 rfl rfl
theorem w_3_112 : (Jvm.Cond.code ({ cls := "SpillForge$Signs", name := "takeMark", desc := "(II)V" } : Jvm.MethodName) prog_11_method_13_code (4 : Nat) (Option.none : Option Jvm.ClassFile.FieldType)) ∈ gw := gw_3 112 rfl rfl
theorem w_3_111 : (Jvm.Cond.instanceMethod ({ cls := "SpillForge$Signs", name := "takeMark", desc := "(II)V" } : Jvm.MethodName)) ∈ gw := gw_3 111 rfl rfl
theorem w_p_6 : Cond.selects "SpillForge$Signs" ⟨"SpillForge$Signs", "takeMark", "(II)V"⟩ ⟨"SpillForge$Signs", "takeMark", "(II)V"⟩ ∈ gw := gw_p _ 6 rfl rfl rfl
theorem d_cX9_advance_181 : decode cX9_advance 181 = .ok (.aload_n 0, 1) := by decide +kernel
theorem d_cX9_advance_182 : decode cX9_advance 182 = .ok (.invokevirtual 55, 3) := by decide +kernel
theorem w_3_48 : (Jvm.Cond.methodLink "SpillForge$Signs" (55 : Nat) ({ cls := "SpillForge$Signs", name := "takeWord", desc := "()V" } : Jvm.MethodName)) ∈ gw := gw_3 48 rfl rfl
theorem w_3_51 : (Jvm.Cond.code ({ cls := "SpillForge$Signs", name := "takeWord", desc := "()V" } : Jvm.MethodName) prog_11_method_11_code (2 : Nat) (Option.none : Option Jvm.ClassFile.FieldType)) ∈ gw := gw_3 51 rfl rfl
theorem w_3_50 : (Jvm.Cond.instanceMethod ({ cls := "SpillForge$Signs", name := "takeWord", desc := "()V" } : Jvm.MethodName)) ∈ gw := gw_3 50 rfl rfl
theorem w_p_4 : Cond.selects "SpillForge$Signs" ⟨"SpillForge$Signs", "takeWord", "()V"⟩ ⟨"SpillForge$Signs", "takeWord", "()V"⟩ ∈ gw := gw_p _ 4 rfl rfl rfl
theorem d_cX9_advance_185 : decode cX9_advance 185 = .ok (.goto 9, 3) := by decide +kernel
theorem d_cX9_advance_157 : decode cX9_advance 157 = .ok (.iload_n 3, 1) := by decide +kernel
theorem d_cX9_advance_158 : decode cX9_advance 158 = .ok (.invokestatic 40, 3) := by decide +kernel
theorem d_cX9_advance_161 : decode cX9_advance 161 = .ok (.ifCond .eq 13, 3) := by decide +kernel
theorem d_cX9_advance_164 : decode cX9_advance 164 = .ok (.aload_n 0, 1) := by decide +kernel
theorem d_cX9_advance_165 : decode cX9_advance 165 = .ok (.iconst 3, 1) := by decide +kernel
theorem d_cX9_advance_166 : decode cX9_advance 166 = .ok (.bipush 40, 2) := by decide +kernel
theorem d_cX9_advance_168 : decode cX9_advance 168 = .ok (.invokevirtual 48, 3) := by decide +kernel
theorem w_3_41 : (Jvm.Cond.methodLink "SpillForge$Signs" (48 : Nat) ({ cls := "SpillForge$Signs", name := "takeNamed", desc := "(II)V" } : Jvm.MethodName)) ∈ gw := gw_3 41 rfl rfl
theorem w_3_44 : (Jvm.Cond.code ({ cls := "SpillForge$Signs", name := "takeNamed", desc := "(II)V" } : Jvm.MethodName) prog_11_method_9_code (5 : Nat) (Option.none : Option Jvm.ClassFile.FieldType)) ∈ gw := gw_3 44 rfl rfl
theorem w_3_43 : (Jvm.Cond.instanceMethod ({ cls := "SpillForge$Signs", name := "takeNamed", desc := "(II)V" } : Jvm.MethodName)) ∈ gw := gw_3 43 rfl rfl
theorem w_p_3 : Cond.selects "SpillForge$Signs" ⟨"SpillForge$Signs", "takeNamed", "(II)V"⟩ ⟨"SpillForge$Signs", "takeNamed", "(II)V"⟩ ∈ gw := gw_p _ 3 rfl rfl rfl
theorem d_cX9_advance_171 : decode cX9_advance 171 = .ok (.goto 23, 3) := by decide +kernel
theorem d_cX9_advance_134 : decode cX9_advance 134 = .ok (.iload_n 3, 1) := by decide +kernel
theorem d_cX9_advance_135 : decode cX9_advance 135 = .ok (.invokestatic 40, 3) := by decide +kernel
theorem d_cX9_advance_138 : decode cX9_advance 138 = .ok (.ifCond .eq 13, 3) := by decide +kernel
theorem d_cX9_advance_141 : decode cX9_advance 141 = .ok (.aload_n 0, 1) := by decide +kernel
theorem d_cX9_advance_142 : decode cX9_advance 142 = .ok (.iconst 2, 1) := by decide +kernel
theorem d_cX9_advance_143 : decode cX9_advance 143 = .ok (.bipush 100, 2) := by decide +kernel
theorem d_cX9_advance_145 : decode cX9_advance 145 = .ok (.invokevirtual 48, 3) := by decide +kernel
theorem d_cX9_advance_148 : decode cX9_advance 148 = .ok (.goto 46, 3) := by decide +kernel
theorem d_cX9_advance_99 : decode cX9_advance 99 = .ok (.iload_n 3, 1) := by decide +kernel
theorem d_cX9_advance_100 : decode cX9_advance 100 = .ok (.invokestatic 40, 3) := by decide +kernel
theorem d_cX9_advance_103 : decode cX9_advance 103 = .ok (.ifCond .eq 25, 3) := by decide +kernel
theorem d_cX9_advance_106 : decode cX9_advance 106 = .ok (.iload_n 1, 1) := by decide +kernel
theorem d_cX9_advance_107 : decode cX9_advance 107 = .ok (.ifCond .ne 21, 3) := by decide +kernel
theorem d_cX9_advance_70 : decode cX9_advance 70 = .ok (.aload_n 0, 1) := by decide +kernel
theorem d_cX9_advance_71 : decode cX9_advance 71 = .ok (.iconst 1, 1) := by decide +kernel
theorem d_cX9_advance_72 : decode cX9_advance 72 = .ok (.putfield 15, 3) := by decide +kernel
theorem d_cX9_advance_75 : decode cX9_advance 75 = .ok (.aload_n 0, 1) := by decide +kernel
theorem d_cX9_advance_76 : decode cX9_advance 76 = .ok (.aload_n 0, 1) := by decide +kernel
theorem d_cX9_advance_77 : decode cX9_advance 77 = .ok (.getfield 22, 3) := by decide +kernel
theorem d_cX9_advance_80 : decode cX9_advance 80 = .ok (.putfield 25, 3) := by decide +kernel
theorem d_cX9_advance_83 : decode cX9_advance 83 = .ok (.goto 111, 3) := by decide +kernel
theorem d_cX9_advance_8 : decode cX9_advance 8 = .ok (.aload_n 0, 1) := by decide +kernel
theorem d_cX9_advance_9 : decode cX9_advance 9 = .ok (.getfield 15, 3) := by decide +kernel
theorem d_cX9_advance_12 : decode cX9_advance 12 = .ok (.iconst 4, 1) := by decide +kernel
theorem d_cX9_advance_13 : decode cX9_advance 13 = .ok (.if_icmp .ne 7, 3) := by decide +kernel
theorem d_cX9_advance_20 : decode cX9_advance 20 = .ok (.iconst 0, 1) := by decide +kernel
abbrev ky_4328_Signs_opOf : gKey := (cX9_opOf, 3, yX9_opOf.cls, (some FieldType.int), [], yX9_opOf.name, fun _ _ => True)
abbrev po_4328_Signs_opOf (I : FieldType → ClassId) (p4326 : Int32) (p4327 : Int32) : Option Value → va_W → Prop := fun r w => ∃ (o4460 : Int32), r = some (.int o4460) ∧ w = [] ∧ gB o4460 (-1) 13 ∧ tr_Signs_opOf p4326 p4327 o4460
set_option maxRecDepth 100000 in
set_option maxHeartbeats 4000000 in
theorem ct_4328_Signs_opOf (l : Launch) (hl0 : l.stackTraces = false) (D : va_G) (I : FieldType → ClassId) (p4326 : Int32) (p4327 : Int32)  : Ct (gV D I) l yX9_opOf cX9_opOf 3 (some FieldType.int) 4 85 0 0 [.int p4326, .int p4327] [] (po_4328_Signs_opOf I p4326 p4327) gN := by
  refine Ct_of hl0 (by decide) (Nat.le_of_ble_eq_true rfl) ?_
  have bp4326 := gB_any p4326
  have bp4327 := gB_any p4327
  refine G_iconst 0 d_cX9_opOf_0 (by decide +kernel) ?_
  refine G_istore_n (L' := [(2, .int 0), (0, .int p4326), (1, .int p4327)]) d_cX9_opOf_1 (Nat.le_of_ble_eq_true rfl) rfl ?_
  have hlp2_4437 : ∀ (n2_4437 : Nat) (g4437 : Int32), gB g4437 0 14 → (∀ (k : Nat) (e1 : Int32), tl_Signs_opOf_2 p4326 p4327 g4437 k e1 → tl_Signs_opOf_2 p4326 p4327 (0 : Int32) k e1) → ((15 : Int) - g4437.toInt).toNat < n2_4437 → G (gV D I) l (gRm 4 85 0 0) (gM (gV D I) (po_4328_Signs_opOf I p4326 p4327) gN 0 0) ky_4328_Signs_opOf 2 [(2, .int g4437), (0, .int p4326), (1, .int p4327)] [] [] 0 0 := by
    intro n2_4437
    induction n2_4437 with
    | zero => intro g4437 bg4437 kt2_4437 hm2_4437; exact absurd hm2_4437 (Nat.not_lt_zero _)
    | succ n2_4437 ih2_4437 =>
      intro g4437 bg4437 kt2_4437 hm2_4437
      refine G_iload_n 0 d_cX9_opOf_2 rfl ?_
      refine G_bipush 14 d_cX9_opOf_3 (by decide +kernel) ?_
      refine G_icmp_ge 42 d_cX9_opOf_5 (by decide +kernel) (fun hc4438 => ?_) (fun hc4438 => ?_)
      · have r4439 : 14 ≤ g4437.toInt := gj_leL hc4438 (show Int32.toInt 14 = 14 by decide)
        have bg4437' : gB g4437 14 14 := ⟨by omega, by omega⟩
        have hx4440 : tl_Signs_opOf_2 p4326 p4327 (0 : Int32) 42 (0 : Int32) := kt2_4437 42 (0 : Int32) (fun R c1 c2 c3 c4 => c1 g4437 bg4437 r4439)
        refine G_iconst (-1) d_cX9_opOf_42 (by decide +kernel) ?_
        exact G_iret d_cX9_opOf_43 rfl (Nat.le_of_ble_eq_true rfl) (Nat.le_of_ble_eq_true rfl) ⟨(-1), rfl, rfl, (gB_w (gBl (show Int32.toInt (-1) = (-1) by decide)) (by decide) (by decide)), (fun R c1 c2 => c1 hx4440)⟩
      · have r4441 : g4437.toInt < 14 := gj_nleL hc4438 (show Int32.toInt 14 = 14 by decide)
        have bg4437' : gB g4437 0 13 := ⟨by omega, by omega⟩
        refine G_ldcK (a := D.2 1000 5) d_cX9_opOf_8 (fun _ _ _ h => gx_vk 5 rfl rfl h) ?_
        have hl5_4441 : (sb_5.length : Int) = 28 := rfl
        refine G_iconst 2 d_cX9_opOf_10 (by decide +kernel) ?_
        refine G_iload_n 0 d_cX9_opOf_11 rfl ?_
        refine G_imul d_cX9_opOf_12 (G_nam fun z4443 hz4443 => ?_)
        have ez4443 : z4443.toInt = 2 * g4437.toInt := by rw [gI_mul hz4443 (gBl (show Int32.toInt 2 = 2 by decide)) bg4437' (by decide) (by decide) (by decide), show Int32.toInt 2 = 2 from by decide]
        have bz4443 : gB z4443 0 26 := gB_mul hz4443 (gBl (show Int32.toInt 2 = 2 by decide)) bg4437' (by decide) (by decide) (by decide) (by decide)
        refine G_callVk (As := [.int z4443]) (wr := []) (gV_ok D I) (ct_3954_String_charAt l hl0 D I (D.2 1000 5) (D.2 1001 5) sb_5 z4443 (gx_sc 5 rfl rfl) (by omega) (by omega) (by omega)) d_cX9_opOf_13 ⟨w_3_67, w_1_21, w_3_70, by decide, rfl, (Nat.le_of_ble_eq_true rfl), (Nat.le_of_ble_eq_true rfl)⟩ w_3_68 w_3_69 (fun _ _ _ h => ((gx_sc 5 rfl rfl) _ _ _ h).1) [] [] rfl rfl rfl rfl (by decide) (Nat.le_of_ble_eq_true rfl) (Nat.le_of_ble_eq_true rfl) (Nat.le_of_ble_eq_true rfl) (fun r w hp => ?_) (fun _ _ _ z => z.elim)
        obtain ⟨o4444, rfl, rfl, bo4444, ht4445⟩ := hp
        change G _ _ _ _ _ _ _ (.int o4444 :: _) _ _ _
        refine G_ws (ws' := []) (cs' := 0) (sl' := 0) rfl rfl rfl ?_
        refine G_iload_n 1 d_cX9_opOf_16 rfl ?_
        refine G_icmp_ne 36 d_cX9_opOf_17 (by decide +kernel) (fun hc4446 => ?_) (fun hc4446 => ?_)
        · have r4447 : o4444.toInt ≠ p4326.toInt := gC_ne hc4446
          obtain ⟨z4448, hz4448⟩ : ∃ z : Int32, z = g4437 + Int32.ofInt 1 := ⟨_, rfl⟩
          have ez4448 : z4448.toInt = g4437.toInt + 1 := gI_inc hz4448 (by decide) bg4437' (by decide) (by decide)
          have bz4448 : gB z4448 1 14 := ⟨by omega, by omega⟩
          refine G_iinc (L' := [(2, .int z4448), (0, .int p4326), (1, .int p4327)]) z4448 0 d_cX9_opOf_36 rfl hz4448.symm (Nat.le_of_ble_eq_true rfl) rfl ?_
          refine G_goto 2 d_cX9_opOf_39 (by decide +kernel) ?_
          exact ih2_4437 z4448 (gB_w bz4448 (by decide) (by decide)) (fun k e1 ht => kt2_4437 k e1 (fun R c1 c2 c3 c4 => c2 g4437 z4443 o4444 z4448 k e1 bg4437 r4441 ez4443 bo4444 ht4445 r4447 ez4448 (ht R c1 c2 c3 c4))) (by omega)
        · have r4449 : o4444.toInt = p4326.toInt := gC_eq hc4446
          have bp4326' : gB p4326 0 65535 := ⟨by omega, by omega⟩
          refine G_ldcK (a := D.2 1000 5) d_cX9_opOf_20 (fun _ _ _ h => gx_vk 5 rfl rfl h) ?_
          have hl5_4449 : (sb_5.length : Int) = 28 := rfl
          refine G_iconst 2 d_cX9_opOf_22 (by decide +kernel) ?_
          refine G_iload_n 0 d_cX9_opOf_23 rfl ?_
          refine G_imul d_cX9_opOf_24 (G_nam fun z4451 hz4451 => ?_)
          have ez4451 : z4451.toInt = 2 * g4437.toInt := by rw [gI_mul hz4451 (gBl (show Int32.toInt 2 = 2 by decide)) bg4437' (by decide) (by decide) (by decide), show Int32.toInt 2 = 2 from by decide]
          have bz4451 : gB z4451 0 26 := gB_mul hz4451 (gBl (show Int32.toInt 2 = 2 by decide)) bg4437' (by decide) (by decide) (by decide) (by decide)
          refine G_iconst 1 d_cX9_opOf_25 (by decide +kernel) ?_
          refine G_iadd d_cX9_opOf_26 (G_nam fun z4452 hz4452 => ?_)
          have ez4452 : z4452.toInt = z4451.toInt + 1 := by rw [gI_add hz4452 bz4451 (gBl (show Int32.toInt 1 = 1 by decide)) (by decide) (by decide), show Int32.toInt 1 = 1 from by decide]
          have bz4452 : gB z4452 1 27 := gB_add (gI_add hz4452 bz4451 (gBl (show Int32.toInt 1 = 1 by decide)) (by decide) (by decide)) bz4451 (gBl (show Int32.toInt 1 = 1 by decide)) (by decide) (by decide)
          refine G_callVk (As := [.int z4452]) (wr := []) (gV_ok D I) (ct_3954_String_charAt l hl0 D I (D.2 1000 5) (D.2 1001 5) sb_5 z4452 (gx_sc 5 rfl rfl) (by omega) (by omega) (by omega)) d_cX9_opOf_27 ⟨w_3_67, w_1_21, w_3_70, by decide, rfl, (Nat.le_of_ble_eq_true rfl), (Nat.le_of_ble_eq_true rfl)⟩ w_3_68 w_3_69 (fun _ _ _ h => ((gx_sc 5 rfl rfl) _ _ _ h).1) [] [] rfl rfl rfl rfl (by decide) (Nat.le_of_ble_eq_true rfl) (Nat.le_of_ble_eq_true rfl) (Nat.le_of_ble_eq_true rfl) (fun r w hp => ?_) (fun _ _ _ z => z.elim)
          obtain ⟨o4453, rfl, rfl, bo4453, ht4454⟩ := hp
          change G _ _ _ _ _ _ _ (.int o4453 :: _) _ _ _
          refine G_ws (ws' := []) (cs' := 0) (sl' := 0) rfl rfl rfl ?_
          refine G_iload_n 2 d_cX9_opOf_30 rfl ?_
          refine G_icmp_ne 36 d_cX9_opOf_31 (by decide +kernel) (fun hc4455 => ?_) (fun hc4455 => ?_)
          · have r4456 : o4453.toInt ≠ p4327.toInt := gC_ne hc4455
            obtain ⟨z4457, hz4457⟩ : ∃ z : Int32, z = g4437 + Int32.ofInt 1 := ⟨_, rfl⟩
            have ez4457 : z4457.toInt = g4437.toInt + 1 := gI_inc hz4457 (by decide) bg4437' (by decide) (by decide)
            have bz4457 : gB z4457 1 14 := ⟨by omega, by omega⟩
            refine G_iinc (L' := [(2, .int z4457), (0, .int p4326), (1, .int p4327)]) z4457 0 d_cX9_opOf_36 rfl hz4457.symm (Nat.le_of_ble_eq_true rfl) rfl ?_
            refine G_goto 2 d_cX9_opOf_39 (by decide +kernel) ?_
            exact ih2_4437 z4457 (gB_w bz4457 (by decide) (by decide)) (fun k e1 ht => kt2_4437 k e1 (fun R c1 c2 c3 c4 => c3 g4437 z4443 o4444 z4451 z4452 o4453 z4457 k e1 bg4437 r4441 ez4443 bo4444 ht4445 r4449 ez4451 ez4452 bo4453 ht4454 r4456 ez4457 (ht R c1 c2 c3 c4))) (by omega)
          · have r4458 : o4453.toInt = p4327.toInt := gC_eq hc4455
            have bp4327' : gB p4327 0 65535 := ⟨by omega, by omega⟩
            have hx4459 : tl_Signs_opOf_2 p4326 p4327 (0 : Int32) 34 g4437 := kt2_4437 34 g4437 (fun R c1 c2 c3 c4 => c4 g4437 z4443 o4444 z4451 z4452 o4453 bg4437 r4441 ez4443 bo4444 ht4445 r4449 ez4451 ez4452 bo4453 ht4454 r4458)
            refine G_iload_n 0 d_cX9_opOf_34 rfl ?_
            exact G_iret d_cX9_opOf_35 rfl (Nat.le_of_ble_eq_true rfl) (Nat.le_of_ble_eq_true rfl) ⟨g4437, rfl, rfl, (gB_w bg4437' (by decide) (by decide)), (fun R c1 c2 => c2 g4437 hx4459)⟩
  exact hlp2_4437 (((15 : Int) - 0).toNat + 1) 0 (gB_w (gBl (show Int32.toInt 0 = 0 by decide)) (by decide) (by decide)) (fun k e1 ht => ht) (Nat.lt_succ_self _)
/- tr_Signs_takeMark: Signs_kind, Signs_value, Signs_behind -/
def tr_Signs_takeMark (a1 : Int32) (a2 : Int32) (Signs_place : Int32) (o1 : Int32) (o2 : Int32) (o3 : Int32) : Prop := ∀ R : (Int32) → (Int32) → (Int32) → Prop,
  (∀ (x1 : Int32) (x2 : Int32) (x3 : Int32), gB x1 (-1) 13 → tr_Signs_opOf a1 a2 x1 → x1.toInt = (-1) → gB x2 (-1) 13 → tr_Signs_opOf a1 (32 : Int32) x2 → x3 = Signs_place + (1 : Int32) → x2.toInt = (-1) → a1.toInt ≠ 58 → a1.toInt ≠ 61 → R (0 : Int32) x2 x3) →
  (∀ (x1 : Int32) (x2 : Int32) (x3 : Int32), gB x1 (-1) 13 → tr_Signs_opOf a1 a2 x1 → x1.toInt = (-1) → gB x2 (-1) 13 → tr_Signs_opOf a1 (32 : Int32) x2 → x3 = Signs_place + (1 : Int32) → x2.toInt = (-1) → a1.toInt ≠ 58 → a1.toInt = 61 → R (7 : Int32) x2 x3) →
  (∀ (x1 : Int32) (x2 : Int32) (x3 : Int32), gB x1 (-1) 13 → tr_Signs_opOf a1 a2 x1 → x1.toInt = (-1) → gB x2 (-1) 13 → tr_Signs_opOf a1 (32 : Int32) x2 → x3 = Signs_place + (1 : Int32) → x2.toInt = (-1) → a1.toInt = 58 → R (6 : Int32) x2 x3) →
  (∀ (x1 : Int32) (x2 : Int32) (x3 : Int32), gB x1 (-1) 13 → tr_Signs_opOf a1 a2 x1 → x1.toInt = (-1) → gB x2 (-1) 13 → tr_Signs_opOf a1 (32 : Int32) x2 → x3 = Signs_place + (1 : Int32) → x2.toInt ≠ (-1) → R (5 : Int32) x2 x3) →
  (∀ (x1 : Int32) (x2 : Int32), gB x1 (-1) 13 → tr_Signs_opOf a1 a2 x1 → x2 = Signs_place + (2 : Int32) → x1.toInt ≠ (-1) → a2.toInt ≠ 32 → R (5 : Int32) x1 x2) →
  (∀ (x1 : Int32) (x2 : Int32) (x3 : Int32), gB x1 (-1) 13 → tr_Signs_opOf a1 a2 x1 → x1.toInt ≠ (-1) → a2.toInt = 32 → gB x2 (-1) 13 → tr_Signs_opOf a1 (32 : Int32) x2 → x3 = Signs_place + (1 : Int32) → x2.toInt = (-1) → a1.toInt ≠ 58 → a1.toInt ≠ 61 → R (0 : Int32) x2 x3) →
  (∀ (x1 : Int32) (x2 : Int32) (x3 : Int32), gB x1 (-1) 13 → tr_Signs_opOf a1 a2 x1 → x1.toInt ≠ (-1) → a2.toInt = 32 → gB x2 (-1) 13 → tr_Signs_opOf a1 (32 : Int32) x2 → x3 = Signs_place + (1 : Int32) → x2.toInt = (-1) → a1.toInt ≠ 58 → a1.toInt = 61 → R (7 : Int32) x2 x3) →
  (∀ (x1 : Int32) (x2 : Int32) (x3 : Int32), gB x1 (-1) 13 → tr_Signs_opOf a1 a2 x1 → x1.toInt ≠ (-1) → a2.toInt = 32 → gB x2 (-1) 13 → tr_Signs_opOf a1 (32 : Int32) x2 → x3 = Signs_place + (1 : Int32) → x2.toInt = (-1) → a1.toInt = 58 → R (6 : Int32) x2 x3) →
  (∀ (x1 : Int32) (x2 : Int32) (x3 : Int32), gB x1 (-1) 13 → tr_Signs_opOf a1 a2 x1 → x1.toInt ≠ (-1) → a2.toInt = 32 → gB x2 (-1) 13 → tr_Signs_opOf a1 (32 : Int32) x2 → x3 = Signs_place + (1 : Int32) → x2.toInt ≠ (-1) → R (5 : Int32) x2 x3) →
  R o1 o2 o3
abbrev ky_4473_Signs_takeMark : gKey := (cX9_takeMark, 4, yX9_takeMark.cls, none, [], yX9_takeMark.name, fun _ _ => True)
abbrev po_4473_Signs_takeMark (I : FieldType → ClassId) (q4461 : Nat) (q4462 : Nat) (q4463 : Nat) (p4464 : Int32) (p4465 : Int32) (p4466 : Int32) (p4467 : Int32) (p4468 : Int32) (p4469 : Int32) (p4470 : Int32) (f4471 : Nat → Int32) : Option Value → va_W → Prop := fun r w => ∃ (o4507 : Int32) (o4508 : Int32) (o4509 : Int32), r = none ∧ w = [(q4461, .inr (14, [.ref q4462, .int o4507, .int o4508, .int p4468, .int o4509])), (q4462, .inr (15, [.ref q4463, .int p4470])), (q4463, .inl (I .byte, 8192, .inl f4471))] ∧ gB o4507 0 7 ∧ gB o4508 (-1) 13 ∧ gB o4509 (-2147483648) 2147483647 ∧ (o4507.toInt ≠ 5 ∨ (0 ≤ o4508.toInt ∧ o4508.toInt ≤ 13)) ∧ tr_Signs_takeMark p4464 p4465 p4468 o4507 o4508 o4509
set_option maxRecDepth 100000 in
set_option maxHeartbeats 4000000 in
theorem ct_4473_Signs_takeMark (l : Launch) (hl0 : l.stackTraces = false) (D : va_G) (I : FieldType → ClassId) (q4461 : Nat) (q4462 : Nat) (q4463 : Nat) (p4464 : Int32) (p4465 : Int32) (p4466 : Int32) (p4467 : Int32) (p4468 : Int32) (p4469 : Int32) (p4470 : Int32) (f4471 : Nat → Int32) (bp4470 : gB p4470 0 8192) (bf4471 : gF f4471 (-128) 127) (x4472 : (p4466.toInt ≠ 5 ∨ (0 ≤ p4467.toInt ∧ p4467.toInt ≤ 13))) : Ct (gV D I) l yX9_takeMark cX9_takeMark 4 none 5 107 0 0 [.ref q4461, .int p4464, .int p4465] [(q4461, .inr (14, [.ref q4462, .int p4466, .int p4467, .int p4468, .int p4469])), (q4462, .inr (15, [.ref q4463, .int p4470])), (q4463, .inl (I .byte, 8192, .inl f4471))] (po_4473_Signs_takeMark I q4461 q4462 q4463 p4464 p4465 p4466 p4467 p4468 p4469 p4470 f4471) gN := by
  refine Ct_of hl0 (by decide) (Nat.le_of_ble_eq_true rfl) ?_
  have bp4464 := gB_any p4464
  have bp4465 := gB_any p4465
  have bp4466 := gB_any p4466
  have bp4467 := gB_any p4467
  have bp4468 := gB_any p4468
  have bp4469 := gB_any p4469
  refine G_iload_n 1 d_cX9_takeMark_0 rfl ?_
  refine G_iload_n 2 d_cX9_takeMark_1 rfl ?_
  refine G_callS (As := [.int p4464, .int p4465]) (wr := [(q4461, .inr (14, [.ref q4462, .int p4466, .int p4467, .int p4468, .int p4469])), (q4462, .inr (15, [.ref q4463, .int p4470])), (q4463, .inl (I .byte, 8192, .inl f4471))]) (gV_ok D I) (ct_4328_Signs_opOf l hl0 D I p4464 p4465 ) d_cX9_takeMark_2 ⟨w_3_113, w_1_4, w_3_115, by decide, rfl, (Nat.le_of_ble_eq_true rfl), (Nat.le_of_ble_eq_true rfl)⟩ w_3_114 [] [0, 1, 2] rfl rfl rfl rfl (by decide) (Nat.le_of_ble_eq_true rfl) (Nat.le_of_ble_eq_true rfl) (Nat.le_of_ble_eq_true rfl) (fun r w hp => ?_) (fun _ _ _ z => z.elim)
  obtain ⟨o4474, rfl, rfl, bo4474, ht4475⟩ := hp
  change G _ _ _ _ _ _ _ (.int o4474 :: _) _ _ _
  refine G_ws (ws' := [(q4461, .inr (14, [.ref q4462, .int p4466, .int p4467, .int p4468, .int p4469])), (q4462, .inr (15, [.ref q4463, .int p4470])), (q4463, .inl (I .byte, 8192, .inl f4471))]) (cs' := 0) (sl' := 0) rfl rfl rfl ?_
  refine G_istore_n (L' := [(3, .int o4474), (0, .ref q4461), (1, .int p4464), (2, .int p4465)]) d_cX9_takeMark_5 (Nat.le_of_ble_eq_true rfl) rfl ?_
  refine G_aload_n 1 d_cX9_takeMark_6 rfl ?_
  refine G_aload_n 1 d_cX9_takeMark_7 rfl ?_
  refine G_getf 0 3 d_cX9_takeMark_8 rfl (gk_X9 D I) (Nat.le_of_ble_eq_true rfl) w_1_82 rfl ?_
  refine G_iconst 2 d_cX9_takeMark_11 (by decide +kernel) ?_
  refine G_iadd d_cX9_takeMark_12 (G_nam fun z4476 hz4476 => ?_)
  have bz4476 : gB z4476 (-2147483648) 2147483647 := gB_any z4476
  refine G_putf (ws' := [(q4461, .inr (14, [.ref q4462, .int p4466, .int p4467, .int p4468, .int z4476])), (q4462, .inr (15, [.ref q4463, .int p4470])), (q4463, .inl (I .byte, 8192, .inl f4471))]) 0 4 d_cX9_takeMark_13 rfl (gk_X9 D I) (Nat.le_of_ble_eq_true rfl) w_1_83 rfl rfl rfl (Nat.le_of_ble_eq_true rfl) rfl ?_
  refine G_iload_n 0 d_cX9_takeMark_16 rfl ?_
  refine G_iconst (-1) d_cX9_takeMark_17 (by decide +kernel) ?_
  refine G_icmp_eq 27 d_cX9_takeMark_18 (by decide +kernel) (fun hc4477 => ?_) (fun hc4477 => ?_)
  · have r4478 : o4474.toInt = (-1) := gj_eq hc4477 (show Int32.toInt (-1) = (-1) by decide)
    have bo4474' : gB o4474 (-1) (-1) := ⟨by omega, by omega⟩
    refine G_iload_n 2 d_cX9_takeMark_27 rfl ?_
    refine G_bipush 32 d_cX9_takeMark_28 (by decide +kernel) ?_
    refine G_callS (As := [.int p4464, .int 32]) (wr := [(q4461, .inr (14, [.ref q4462, .int p4466, .int p4467, .int p4468, .int z4476])), (q4462, .inr (15, [.ref q4463, .int p4470])), (q4463, .inl (I .byte, 8192, .inl f4471))]) (gV_ok D I) (ct_4328_Signs_opOf l hl0 D I p4464 32 ) d_cX9_takeMark_30 ⟨w_3_113, w_1_4, w_3_115, by decide, rfl, (Nat.le_of_ble_eq_true rfl), (Nat.le_of_ble_eq_true rfl)⟩ w_3_114 [] [0, 1, 2] rfl rfl rfl rfl (by decide) (Nat.le_of_ble_eq_true rfl) (Nat.le_of_ble_eq_true rfl) (Nat.le_of_ble_eq_true rfl) (fun r w hp => ?_) (fun _ _ _ z => z.elim)
    obtain ⟨o4479, rfl, rfl, bo4479, ht4480⟩ := hp
    change G _ _ _ _ _ _ _ (.int o4479 :: _) _ _ _
    refine G_ws (ws' := [(q4461, .inr (14, [.ref q4462, .int p4466, .int p4467, .int p4468, .int z4476])), (q4462, .inr (15, [.ref q4463, .int p4470])), (q4463, .inl (I .byte, 8192, .inl f4471))]) (cs' := 0) (sl' := 0) rfl rfl rfl ?_
    refine G_istore_n (L' := [(3, .int o4479), (0, .ref q4461), (1, .int p4464), (2, .int p4465)]) d_cX9_takeMark_33 (Nat.le_of_ble_eq_true rfl) rfl ?_
    refine G_aload_n 1 d_cX9_takeMark_34 rfl ?_
    refine G_aload_n 1 d_cX9_takeMark_35 rfl ?_
    refine G_getf 0 3 d_cX9_takeMark_36 rfl (gk_X9 D I) (Nat.le_of_ble_eq_true rfl) w_1_82 rfl ?_
    refine G_iconst 1 d_cX9_takeMark_39 (by decide +kernel) ?_
    refine G_iadd d_cX9_takeMark_40 (G_nam fun z4481 hz4481 => ?_)
    have bz4481 : gB z4481 (-2147483648) 2147483647 := gB_any z4481
    refine G_putf (ws' := [(q4461, .inr (14, [.ref q4462, .int p4466, .int p4467, .int p4468, .int z4481])), (q4462, .inr (15, [.ref q4463, .int p4470])), (q4463, .inl (I .byte, 8192, .inl f4471))]) 0 4 d_cX9_takeMark_41 rfl (gk_X9 D I) (Nat.le_of_ble_eq_true rfl) w_1_83 rfl rfl rfl (Nat.le_of_ble_eq_true rfl) rfl ?_
    refine G_aload_n 1 d_cX9_takeMark_44 rfl ?_
    refine G_iload_n 0 d_cX9_takeMark_45 rfl ?_
    refine G_putf (ws' := [(q4461, .inr (14, [.ref q4462, .int p4466, .int o4479, .int p4468, .int z4481])), (q4462, .inr (15, [.ref q4463, .int p4470])), (q4463, .inl (I .byte, 8192, .inl f4471))]) 0 2 d_cX9_takeMark_46 rfl (gk_X9 D I) (Nat.le_of_ble_eq_true rfl) w_1_81 rfl rfl rfl (Nat.le_of_ble_eq_true rfl) rfl ?_
    refine G_aload_n 1 d_cX9_takeMark_49 rfl ?_
    refine G_iload_n 0 d_cX9_takeMark_50 rfl ?_
    refine G_iconst (-1) d_cX9_takeMark_51 (by decide +kernel) ?_
    refine G_icmp_eq 59 d_cX9_takeMark_52 (by decide +kernel) (fun hc4482 => ?_) (fun hc4482 => ?_)
    · have r4483 : o4479.toInt = (-1) := gj_eq hc4482 (show Int32.toInt (-1) = (-1) by decide)
      have bo4479' : gB o4479 (-1) (-1) := ⟨by omega, by omega⟩
      refine G_iload_n 2 d_cX9_takeMark_59 rfl ?_
      refine G_bipush 58 d_cX9_takeMark_60 (by decide +kernel) ?_
      refine G_icmp_ne 70 d_cX9_takeMark_62 (by decide +kernel) (fun hc4484 => ?_) (fun hc4484 => ?_)
      · have r4485 : p4464.toInt ≠ 58 := gj_neq hc4484 (show Int32.toInt 58 = 58 by decide)
        refine G_iload_n 2 d_cX9_takeMark_70 rfl ?_
        refine G_bipush 61 d_cX9_takeMark_71 (by decide +kernel) ?_
        refine G_icmp_ne 81 d_cX9_takeMark_73 (by decide +kernel) (fun hc4486 => ?_) (fun hc4486 => ?_)
        · have r4487 : p4464.toInt ≠ 61 := gj_neq hc4486 (show Int32.toInt 61 = 61 by decide)
          refine G_iconst 0 d_cX9_takeMark_81 (by decide +kernel) ?_
          refine G_putf (ws' := [(q4461, .inr (14, [.ref q4462, .int 0, .int o4479, .int p4468, .int z4481])), (q4462, .inr (15, [.ref q4463, .int p4470])), (q4463, .inl (I .byte, 8192, .inl f4471))]) 0 1 d_cX9_takeMark_82 rfl (gk_X9 D I) (Nat.le_of_ble_eq_true rfl) w_1_80 rfl rfl rfl (Nat.le_of_ble_eq_true rfl) rfl ?_
          exact G_vret d_cX9_takeMark_85 rfl (Nat.le_of_ble_eq_true rfl) (Nat.le_of_ble_eq_true rfl) ⟨0, o4479, z4481, rfl, rfl, (gB_w (gBl (show Int32.toInt 0 = 0 by decide)) (by decide) (by decide)), (gB_w bo4479' (by decide) (by decide)), bz4481, (by have qa0 : Int32.toInt 0 = 0 := (by decide); omega), (fun R c1 c2 c3 c4 c5 c6 c7 c8 c9 => c1 o4474 o4479 z4481 bo4474 ht4475 r4478 bo4479 ht4480 hz4481 r4483 r4485 r4487)⟩
        · have r4488 : p4464.toInt = 61 := gj_eq hc4486 (show Int32.toInt 61 = 61 by decide)
          have bp4464' : gB p4464 61 61 := ⟨by omega, by omega⟩
          refine G_bipush 7 d_cX9_takeMark_76 (by decide +kernel) ?_
          refine G_goto 82 d_cX9_takeMark_78 (by decide +kernel) ?_
          refine G_putf (ws' := [(q4461, .inr (14, [.ref q4462, .int 7, .int o4479, .int p4468, .int z4481])), (q4462, .inr (15, [.ref q4463, .int p4470])), (q4463, .inl (I .byte, 8192, .inl f4471))]) 0 1 d_cX9_takeMark_82 rfl (gk_X9 D I) (Nat.le_of_ble_eq_true rfl) w_1_80 rfl rfl rfl (Nat.le_of_ble_eq_true rfl) rfl ?_
          exact G_vret d_cX9_takeMark_85 rfl (Nat.le_of_ble_eq_true rfl) (Nat.le_of_ble_eq_true rfl) ⟨7, o4479, z4481, rfl, rfl, (gB_w (gBl (show Int32.toInt 7 = 7 by decide)) (by decide) (by decide)), (gB_w bo4479' (by decide) (by decide)), bz4481, (by have qa0 : Int32.toInt 7 = 7 := (by decide); omega), (fun R c1 c2 c3 c4 c5 c6 c7 c8 c9 => c2 o4474 o4479 z4481 bo4474 ht4475 r4478 bo4479 ht4480 hz4481 r4483 r4485 r4488)⟩
      · have r4489 : p4464.toInt = 58 := gj_eq hc4484 (show Int32.toInt 58 = 58 by decide)
        have bp4464' : gB p4464 58 58 := ⟨by omega, by omega⟩
        refine G_bipush 6 d_cX9_takeMark_65 (by decide +kernel) ?_
        refine G_goto 82 d_cX9_takeMark_67 (by decide +kernel) ?_
        refine G_putf (ws' := [(q4461, .inr (14, [.ref q4462, .int 6, .int o4479, .int p4468, .int z4481])), (q4462, .inr (15, [.ref q4463, .int p4470])), (q4463, .inl (I .byte, 8192, .inl f4471))]) 0 1 d_cX9_takeMark_82 rfl (gk_X9 D I) (Nat.le_of_ble_eq_true rfl) w_1_80 rfl rfl rfl (Nat.le_of_ble_eq_true rfl) rfl ?_
        exact G_vret d_cX9_takeMark_85 rfl (Nat.le_of_ble_eq_true rfl) (Nat.le_of_ble_eq_true rfl) ⟨6, o4479, z4481, rfl, rfl, (gB_w (gBl (show Int32.toInt 6 = 6 by decide)) (by decide) (by decide)), (gB_w bo4479' (by decide) (by decide)), bz4481, (by have qa0 : Int32.toInt 6 = 6 := (by decide); omega), (fun R c1 c2 c3 c4 c5 c6 c7 c8 c9 => c3 o4474 o4479 z4481 bo4474 ht4475 r4478 bo4479 ht4480 hz4481 r4483 r4489)⟩
    · have r4490 : o4479.toInt ≠ (-1) := gj_neq hc4482 (show Int32.toInt (-1) = (-1) by decide)
      have bo4479' : gB o4479 0 13 := ⟨by omega, by omega⟩
      refine G_iconst 5 d_cX9_takeMark_55 (by decide +kernel) ?_
      refine G_goto 82 d_cX9_takeMark_56 (by decide +kernel) ?_
      refine G_putf (ws' := [(q4461, .inr (14, [.ref q4462, .int 5, .int o4479, .int p4468, .int z4481])), (q4462, .inr (15, [.ref q4463, .int p4470])), (q4463, .inl (I .byte, 8192, .inl f4471))]) 0 1 d_cX9_takeMark_82 rfl (gk_X9 D I) (Nat.le_of_ble_eq_true rfl) w_1_80 rfl rfl rfl (Nat.le_of_ble_eq_true rfl) rfl ?_
      exact G_vret d_cX9_takeMark_85 rfl (Nat.le_of_ble_eq_true rfl) (Nat.le_of_ble_eq_true rfl) ⟨5, o4479, z4481, rfl, rfl, (gB_w (gBl (show Int32.toInt 5 = 5 by decide)) (by decide) (by decide)), (gB_w bo4479' (by decide) (by decide)), bz4481, (by have qa0 : Int32.toInt 5 = 5 := (by decide); omega), (fun R c1 c2 c3 c4 c5 c6 c7 c8 c9 => c4 o4474 o4479 z4481 bo4474 ht4475 r4478 bo4479 ht4480 hz4481 r4490)⟩
  · have r4491 : o4474.toInt ≠ (-1) := gj_neq hc4477 (show Int32.toInt (-1) = (-1) by decide)
    have bo4474' : gB o4474 0 13 := ⟨by omega, by omega⟩
    refine G_iload_n 3 d_cX9_takeMark_21 rfl ?_
    refine G_bipush 32 d_cX9_takeMark_22 (by decide +kernel) ?_
    refine G_icmp_ne 44 d_cX9_takeMark_24 (by decide +kernel) (fun hc4492 => ?_) (fun hc4492 => ?_)
    · have r4493 : p4465.toInt ≠ 32 := gj_neq hc4492 (show Int32.toInt 32 = 32 by decide)
      refine G_aload_n 1 d_cX9_takeMark_44 rfl ?_
      refine G_iload_n 0 d_cX9_takeMark_45 rfl ?_
      refine G_putf (ws' := [(q4461, .inr (14, [.ref q4462, .int p4466, .int o4474, .int p4468, .int z4476])), (q4462, .inr (15, [.ref q4463, .int p4470])), (q4463, .inl (I .byte, 8192, .inl f4471))]) 0 2 d_cX9_takeMark_46 rfl (gk_X9 D I) (Nat.le_of_ble_eq_true rfl) w_1_81 rfl rfl rfl (Nat.le_of_ble_eq_true rfl) rfl ?_
      refine G_aload_n 1 d_cX9_takeMark_49 rfl ?_
      refine G_iload_n 0 d_cX9_takeMark_50 rfl ?_
      refine G_iconst (-1) d_cX9_takeMark_51 (by decide +kernel) ?_
      refine G_icmp_eq 59 d_cX9_takeMark_52 (by decide +kernel) (fun hc => absurd (show False by have := gj_eq hc (show Int32.toInt (-1) = (-1) by decide); omega) not_false) (fun _ => ?_)
      refine G_iconst 5 d_cX9_takeMark_55 (by decide +kernel) ?_
      refine G_goto 82 d_cX9_takeMark_56 (by decide +kernel) ?_
      refine G_putf (ws' := [(q4461, .inr (14, [.ref q4462, .int 5, .int o4474, .int p4468, .int z4476])), (q4462, .inr (15, [.ref q4463, .int p4470])), (q4463, .inl (I .byte, 8192, .inl f4471))]) 0 1 d_cX9_takeMark_82 rfl (gk_X9 D I) (Nat.le_of_ble_eq_true rfl) w_1_80 rfl rfl rfl (Nat.le_of_ble_eq_true rfl) rfl ?_
      exact G_vret d_cX9_takeMark_85 rfl (Nat.le_of_ble_eq_true rfl) (Nat.le_of_ble_eq_true rfl) ⟨5, o4474, z4476, rfl, rfl, (gB_w (gBl (show Int32.toInt 5 = 5 by decide)) (by decide) (by decide)), (gB_w bo4474' (by decide) (by decide)), bz4476, (by have qa0 : Int32.toInt 5 = 5 := (by decide); omega), (fun R c1 c2 c3 c4 c5 c6 c7 c8 c9 => c5 o4474 z4476 bo4474 ht4475 hz4476 r4491 r4493)⟩
    · have r4494 : p4465.toInt = 32 := gj_eq hc4492 (show Int32.toInt 32 = 32 by decide)
      have bp4465' : gB p4465 32 32 := ⟨by omega, by omega⟩
      refine G_iload_n 2 d_cX9_takeMark_27 rfl ?_
      refine G_bipush 32 d_cX9_takeMark_28 (by decide +kernel) ?_
      refine G_callS (As := [.int p4464, .int 32]) (wr := [(q4461, .inr (14, [.ref q4462, .int p4466, .int p4467, .int p4468, .int z4476])), (q4462, .inr (15, [.ref q4463, .int p4470])), (q4463, .inl (I .byte, 8192, .inl f4471))]) (gV_ok D I) (ct_4328_Signs_opOf l hl0 D I p4464 32 ) d_cX9_takeMark_30 ⟨w_3_113, w_1_4, w_3_115, by decide, rfl, (Nat.le_of_ble_eq_true rfl), (Nat.le_of_ble_eq_true rfl)⟩ w_3_114 [] [0, 1, 2] rfl rfl rfl rfl (by decide) (Nat.le_of_ble_eq_true rfl) (Nat.le_of_ble_eq_true rfl) (Nat.le_of_ble_eq_true rfl) (fun r w hp => ?_) (fun _ _ _ z => z.elim)
      obtain ⟨o4495, rfl, rfl, bo4495, ht4496⟩ := hp
      change G _ _ _ _ _ _ _ (.int o4495 :: _) _ _ _
      refine G_ws (ws' := [(q4461, .inr (14, [.ref q4462, .int p4466, .int p4467, .int p4468, .int z4476])), (q4462, .inr (15, [.ref q4463, .int p4470])), (q4463, .inl (I .byte, 8192, .inl f4471))]) (cs' := 0) (sl' := 0) rfl rfl rfl ?_
      refine G_istore_n (L' := [(3, .int o4495), (0, .ref q4461), (1, .int p4464), (2, .int p4465)]) d_cX9_takeMark_33 (Nat.le_of_ble_eq_true rfl) rfl ?_
      refine G_aload_n 1 d_cX9_takeMark_34 rfl ?_
      refine G_aload_n 1 d_cX9_takeMark_35 rfl ?_
      refine G_getf 0 3 d_cX9_takeMark_36 rfl (gk_X9 D I) (Nat.le_of_ble_eq_true rfl) w_1_82 rfl ?_
      refine G_iconst 1 d_cX9_takeMark_39 (by decide +kernel) ?_
      refine G_iadd d_cX9_takeMark_40 (G_nam fun z4497 hz4497 => ?_)
      have bz4497 : gB z4497 (-2147483648) 2147483647 := gB_any z4497
      refine G_putf (ws' := [(q4461, .inr (14, [.ref q4462, .int p4466, .int p4467, .int p4468, .int z4497])), (q4462, .inr (15, [.ref q4463, .int p4470])), (q4463, .inl (I .byte, 8192, .inl f4471))]) 0 4 d_cX9_takeMark_41 rfl (gk_X9 D I) (Nat.le_of_ble_eq_true rfl) w_1_83 rfl rfl rfl (Nat.le_of_ble_eq_true rfl) rfl ?_
      refine G_aload_n 1 d_cX9_takeMark_44 rfl ?_
      refine G_iload_n 0 d_cX9_takeMark_45 rfl ?_
      refine G_putf (ws' := [(q4461, .inr (14, [.ref q4462, .int p4466, .int o4495, .int p4468, .int z4497])), (q4462, .inr (15, [.ref q4463, .int p4470])), (q4463, .inl (I .byte, 8192, .inl f4471))]) 0 2 d_cX9_takeMark_46 rfl (gk_X9 D I) (Nat.le_of_ble_eq_true rfl) w_1_81 rfl rfl rfl (Nat.le_of_ble_eq_true rfl) rfl ?_
      refine G_aload_n 1 d_cX9_takeMark_49 rfl ?_
      refine G_iload_n 0 d_cX9_takeMark_50 rfl ?_
      refine G_iconst (-1) d_cX9_takeMark_51 (by decide +kernel) ?_
      refine G_icmp_eq 59 d_cX9_takeMark_52 (by decide +kernel) (fun hc4498 => ?_) (fun hc4498 => ?_)
      · have r4499 : o4495.toInt = (-1) := gj_eq hc4498 (show Int32.toInt (-1) = (-1) by decide)
        have bo4495' : gB o4495 (-1) (-1) := ⟨by omega, by omega⟩
        refine G_iload_n 2 d_cX9_takeMark_59 rfl ?_
        refine G_bipush 58 d_cX9_takeMark_60 (by decide +kernel) ?_
        refine G_icmp_ne 70 d_cX9_takeMark_62 (by decide +kernel) (fun hc4500 => ?_) (fun hc4500 => ?_)
        · have r4501 : p4464.toInt ≠ 58 := gj_neq hc4500 (show Int32.toInt 58 = 58 by decide)
          refine G_iload_n 2 d_cX9_takeMark_70 rfl ?_
          refine G_bipush 61 d_cX9_takeMark_71 (by decide +kernel) ?_
          refine G_icmp_ne 81 d_cX9_takeMark_73 (by decide +kernel) (fun hc4502 => ?_) (fun hc4502 => ?_)
          · have r4503 : p4464.toInt ≠ 61 := gj_neq hc4502 (show Int32.toInt 61 = 61 by decide)
            refine G_iconst 0 d_cX9_takeMark_81 (by decide +kernel) ?_
            refine G_putf (ws' := [(q4461, .inr (14, [.ref q4462, .int 0, .int o4495, .int p4468, .int z4497])), (q4462, .inr (15, [.ref q4463, .int p4470])), (q4463, .inl (I .byte, 8192, .inl f4471))]) 0 1 d_cX9_takeMark_82 rfl (gk_X9 D I) (Nat.le_of_ble_eq_true rfl) w_1_80 rfl rfl rfl (Nat.le_of_ble_eq_true rfl) rfl ?_
            exact G_vret d_cX9_takeMark_85 rfl (Nat.le_of_ble_eq_true rfl) (Nat.le_of_ble_eq_true rfl) ⟨0, o4495, z4497, rfl, rfl, (gB_w (gBl (show Int32.toInt 0 = 0 by decide)) (by decide) (by decide)), (gB_w bo4495' (by decide) (by decide)), bz4497, (by have qa0 : Int32.toInt 0 = 0 := (by decide); omega), (fun R c1 c2 c3 c4 c5 c6 c7 c8 c9 => c6 o4474 o4495 z4497 bo4474 ht4475 r4491 r4494 bo4495 ht4496 hz4497 r4499 r4501 r4503)⟩
          · have r4504 : p4464.toInt = 61 := gj_eq hc4502 (show Int32.toInt 61 = 61 by decide)
            have bp4464' : gB p4464 61 61 := ⟨by omega, by omega⟩
            refine G_bipush 7 d_cX9_takeMark_76 (by decide +kernel) ?_
            refine G_goto 82 d_cX9_takeMark_78 (by decide +kernel) ?_
            refine G_putf (ws' := [(q4461, .inr (14, [.ref q4462, .int 7, .int o4495, .int p4468, .int z4497])), (q4462, .inr (15, [.ref q4463, .int p4470])), (q4463, .inl (I .byte, 8192, .inl f4471))]) 0 1 d_cX9_takeMark_82 rfl (gk_X9 D I) (Nat.le_of_ble_eq_true rfl) w_1_80 rfl rfl rfl (Nat.le_of_ble_eq_true rfl) rfl ?_
            exact G_vret d_cX9_takeMark_85 rfl (Nat.le_of_ble_eq_true rfl) (Nat.le_of_ble_eq_true rfl) ⟨7, o4495, z4497, rfl, rfl, (gB_w (gBl (show Int32.toInt 7 = 7 by decide)) (by decide) (by decide)), (gB_w bo4495' (by decide) (by decide)), bz4497, (by have qa0 : Int32.toInt 7 = 7 := (by decide); omega), (fun R c1 c2 c3 c4 c5 c6 c7 c8 c9 => c7 o4474 o4495 z4497 bo4474 ht4475 r4491 r4494 bo4495 ht4496 hz4497 r4499 r4501 r4504)⟩
        · have r4505 : p4464.toInt = 58 := gj_eq hc4500 (show Int32.toInt 58 = 58 by decide)
          have bp4464' : gB p4464 58 58 := ⟨by omega, by omega⟩
          refine G_bipush 6 d_cX9_takeMark_65 (by decide +kernel) ?_
          refine G_goto 82 d_cX9_takeMark_67 (by decide +kernel) ?_
          refine G_putf (ws' := [(q4461, .inr (14, [.ref q4462, .int 6, .int o4495, .int p4468, .int z4497])), (q4462, .inr (15, [.ref q4463, .int p4470])), (q4463, .inl (I .byte, 8192, .inl f4471))]) 0 1 d_cX9_takeMark_82 rfl (gk_X9 D I) (Nat.le_of_ble_eq_true rfl) w_1_80 rfl rfl rfl (Nat.le_of_ble_eq_true rfl) rfl ?_
          exact G_vret d_cX9_takeMark_85 rfl (Nat.le_of_ble_eq_true rfl) (Nat.le_of_ble_eq_true rfl) ⟨6, o4495, z4497, rfl, rfl, (gB_w (gBl (show Int32.toInt 6 = 6 by decide)) (by decide) (by decide)), (gB_w bo4495' (by decide) (by decide)), bz4497, (by have qa0 : Int32.toInt 6 = 6 := (by decide); omega), (fun R c1 c2 c3 c4 c5 c6 c7 c8 c9 => c8 o4474 o4495 z4497 bo4474 ht4475 r4491 r4494 bo4495 ht4496 hz4497 r4499 r4505)⟩
      · have r4506 : o4495.toInt ≠ (-1) := gj_neq hc4498 (show Int32.toInt (-1) = (-1) by decide)
        have bo4495' : gB o4495 0 13 := ⟨by omega, by omega⟩
        refine G_iconst 5 d_cX9_takeMark_55 (by decide +kernel) ?_
        refine G_goto 82 d_cX9_takeMark_56 (by decide +kernel) ?_
        refine G_putf (ws' := [(q4461, .inr (14, [.ref q4462, .int 5, .int o4495, .int p4468, .int z4497])), (q4462, .inr (15, [.ref q4463, .int p4470])), (q4463, .inl (I .byte, 8192, .inl f4471))]) 0 1 d_cX9_takeMark_82 rfl (gk_X9 D I) (Nat.le_of_ble_eq_true rfl) w_1_80 rfl rfl rfl (Nat.le_of_ble_eq_true rfl) rfl ?_
        exact G_vret d_cX9_takeMark_85 rfl (Nat.le_of_ble_eq_true rfl) (Nat.le_of_ble_eq_true rfl) ⟨5, o4495, z4497, rfl, rfl, (gB_w (gBl (show Int32.toInt 5 = 5 by decide)) (by decide) (by decide)), (gB_w bo4495' (by decide) (by decide)), bz4497, (by have qa0 : Int32.toInt 5 = 5 := (by decide); omega), (fun R c1 c2 c3 c4 c5 c6 c7 c8 c9 => c9 o4474 o4495 z4497 bo4474 ht4475 r4491 r4494 bo4495 ht4496 hz4497 r4506)⟩
/- tr_Signs_advance: Signs_kind, Signs_value, Signs_place, Signs_behind -/
def tr_Signs_advance (Signs_kind : Int32) (Signs_behind : Int32) (Tape_size : Int32) (Tape_bytes : Nat → Int32) (o1 : Int32) (o2 : Int32) (o3 : Int32) (o4 : Int32) : Prop := ∀ R : (Int32) → (Int32) → (Int32) → (Int32) → Prop,
  (∀ (x1 : Int32) (x2 : Int32) (x3 : Int32) (x4 : Int32) (x5 : Int32) (x6 : Int32) (x7 : Int32) (x8 : Int32), Signs_kind.toInt = 2 → gB x1 (-2147483648) 8192 → tr_Signs_skipBlanks Signs_behind Tape_size Tape_bytes x1 → gB x2 (-1) 255 → tr_Tape_byteAt x1 Tape_size Tape_bytes x2 → x3.toInt = x1.toInt + 1 → gB x4 (-1) 255 → tr_Tape_byteAt x3 Tape_size Tape_bytes x4 → x2.toInt ≠ (-1) → gB x5 0 1 → tr_Signs_isDigit x2 x5 → x5.toInt ≠ 0 → x2.toInt ≠ 45 → gB x6 0 4 → tr_Signs_takeNumber (0 : Int32) x1 Tape_size Tape_bytes x6 x7 x8 → R x6 x7 x1 x8) →
  (∀ (x1 : Int32) (x2 : Int32) (x3 : Int32) (x4 : Int32) (x5 : Int32) (x6 : Int32) (x7 : Int32) (x8 : Int32), Signs_kind.toInt = 2 → gB x1 (-2147483648) 8192 → tr_Signs_skipBlanks Signs_behind Tape_size Tape_bytes x1 → gB x2 (-1) 255 → tr_Tape_byteAt x1 Tape_size Tape_bytes x2 → x3.toInt = x1.toInt + 1 → gB x4 (-1) 255 → tr_Tape_byteAt x3 Tape_size Tape_bytes x4 → x2.toInt ≠ (-1) → gB x5 0 1 → tr_Signs_isDigit x2 x5 → x5.toInt ≠ 0 → x2.toInt = 45 → gB x6 0 4 → tr_Signs_takeNumber (1 : Int32) x1 Tape_size Tape_bytes x6 x7 x8 → R x6 x7 x1 x8) →
  (∀ (x1 : Int32) (x2 : Int32) (x3 : Int32) (x4 : Int32) (x5 : Int32) (x6 : Int32) (x7 : Int32) (x8 : Int32) (x9 : Int32), Signs_kind.toInt = 2 → gB x1 (-2147483648) 8192 → tr_Signs_skipBlanks Signs_behind Tape_size Tape_bytes x1 → gB x2 (-1) 255 → tr_Tape_byteAt x1 Tape_size Tape_bytes x2 → x3.toInt = x1.toInt + 1 → gB x4 (-1) 255 → tr_Tape_byteAt x3 Tape_size Tape_bytes x4 → x2.toInt ≠ (-1) → gB x5 0 1 → tr_Signs_isDigit x2 x5 → x5.toInt = 0 → x2.toInt ≠ 45 → x2.toInt ≠ 118 → x2.toInt ≠ 98 → gB x6 0 1 → tr_Signs_isLetter x2 x6 → x6.toInt = 0 → gB x7 0 7 → gB x8 (-1) 13 → tr_Signs_takeMark x2 x4 x1 x7 x8 x9 → R x7 x8 x1 x9) →
  (∀ (x1 : Int32) (x2 : Int32) (x3 : Int32) (x4 : Int32) (x5 : Int32) (x6 : Int32) (x7 : Int32) (x8 : Int32), Signs_kind.toInt = 2 → gB x1 (-2147483648) 8192 → tr_Signs_skipBlanks Signs_behind Tape_size Tape_bytes x1 → gB x2 (-1) 255 → tr_Tape_byteAt x1 Tape_size Tape_bytes x2 → x3.toInt = x1.toInt + 1 → gB x4 (-1) 255 → tr_Tape_byteAt x3 Tape_size Tape_bytes x4 → x2.toInt ≠ (-1) → gB x5 0 1 → tr_Signs_isDigit x2 x5 → x5.toInt = 0 → x2.toInt ≠ 45 → x2.toInt ≠ 118 → x2.toInt ≠ 98 → gB x6 0 1 → tr_Signs_isLetter x2 x6 → x6.toInt ≠ 0 → gB x7 0 12 → tr_Signs_takeWord x1 Tape_size Tape_bytes x7 x8 → R x7 (0 : Int32) x1 x8) →
  (∀ (x1 : Int32) (x2 : Int32) (x3 : Int32) (x4 : Int32) (x5 : Int32) (x6 : Int32) (x7 : Int32) (x8 : Int32) (x9 : Int32) (x10 : Int32), Signs_kind.toInt = 2 → gB x1 (-2147483648) 8192 → tr_Signs_skipBlanks Signs_behind Tape_size Tape_bytes x1 → gB x2 (-1) 255 → tr_Tape_byteAt x1 Tape_size Tape_bytes x2 → x3.toInt = x1.toInt + 1 → gB x4 (-1) 255 → tr_Tape_byteAt x3 Tape_size Tape_bytes x4 → x2.toInt ≠ (-1) → gB x5 0 1 → tr_Signs_isDigit x2 x5 → x5.toInt = 0 → x2.toInt ≠ 45 → x2.toInt ≠ 118 → x2.toInt = 98 → gB x6 0 1 → tr_Signs_isDigit x4 x6 → x6.toInt = 0 → gB x7 0 1 → tr_Signs_isLetter x2 x7 → x7.toInt = 0 → gB x8 0 7 → gB x9 (-1) 13 → tr_Signs_takeMark x2 x4 x1 x8 x9 x10 → R x8 x9 x1 x10) →
  (∀ (x1 : Int32) (x2 : Int32) (x3 : Int32) (x4 : Int32) (x5 : Int32) (x6 : Int32) (x7 : Int32) (x8 : Int32) (x9 : Int32), Signs_kind.toInt = 2 → gB x1 (-2147483648) 8192 → tr_Signs_skipBlanks Signs_behind Tape_size Tape_bytes x1 → gB x2 (-1) 255 → tr_Tape_byteAt x1 Tape_size Tape_bytes x2 → x3.toInt = x1.toInt + 1 → gB x4 (-1) 255 → tr_Tape_byteAt x3 Tape_size Tape_bytes x4 → x2.toInt ≠ (-1) → gB x5 0 1 → tr_Signs_isDigit x2 x5 → x5.toInt = 0 → x2.toInt ≠ 45 → x2.toInt ≠ 118 → x2.toInt = 98 → gB x6 0 1 → tr_Signs_isDigit x4 x6 → x6.toInt = 0 → gB x7 0 1 → tr_Signs_isLetter x2 x7 → x7.toInt ≠ 0 → gB x8 0 12 → tr_Signs_takeWord x1 Tape_size Tape_bytes x8 x9 → R x8 (0 : Int32) x1 x9) →
  (∀ (x1 : Int32) (x2 : Int32) (x3 : Int32) (x4 : Int32) (x5 : Int32) (x6 : Int32) (x7 : Int32) (x8 : Int32) (x9 : Int32), Signs_kind.toInt = 2 → gB x1 (-2147483648) 8192 → tr_Signs_skipBlanks Signs_behind Tape_size Tape_bytes x1 → gB x2 (-1) 255 → tr_Tape_byteAt x1 Tape_size Tape_bytes x2 → x3.toInt = x1.toInt + 1 → gB x4 (-1) 255 → tr_Tape_byteAt x3 Tape_size Tape_bytes x4 → x2.toInt ≠ (-1) → gB x5 0 1 → tr_Signs_isDigit x2 x5 → x5.toInt = 0 → x2.toInt ≠ 45 → x2.toInt ≠ 118 → x2.toInt = 98 → gB x6 0 1 → tr_Signs_isDigit x4 x6 → x6.toInt ≠ 0 → gB x7 0 3 → tr_Signs_takeNamed (3 : Int32) (40 : Int32) x1 Tape_size Tape_bytes x7 x8 x9 → R x7 x8 x1 x9) →
  (∀ (x1 : Int32) (x2 : Int32) (x3 : Int32) (x4 : Int32) (x5 : Int32) (x6 : Int32) (x7 : Int32) (x8 : Int32) (x9 : Int32) (x10 : Int32), Signs_kind.toInt = 2 → gB x1 (-2147483648) 8192 → tr_Signs_skipBlanks Signs_behind Tape_size Tape_bytes x1 → gB x2 (-1) 255 → tr_Tape_byteAt x1 Tape_size Tape_bytes x2 → x3.toInt = x1.toInt + 1 → gB x4 (-1) 255 → tr_Tape_byteAt x3 Tape_size Tape_bytes x4 → x2.toInt ≠ (-1) → gB x5 0 1 → tr_Signs_isDigit x2 x5 → x5.toInt = 0 → x2.toInt ≠ 45 → x2.toInt = 118 → gB x6 0 1 → tr_Signs_isDigit x4 x6 → x6.toInt = 0 → gB x7 0 1 → tr_Signs_isLetter x2 x7 → x7.toInt = 0 → gB x8 0 7 → gB x9 (-1) 13 → tr_Signs_takeMark x2 x4 x1 x8 x9 x10 → R x8 x9 x1 x10) →
  (∀ (x1 : Int32) (x2 : Int32) (x3 : Int32) (x4 : Int32) (x5 : Int32) (x6 : Int32) (x7 : Int32) (x8 : Int32) (x9 : Int32), Signs_kind.toInt = 2 → gB x1 (-2147483648) 8192 → tr_Signs_skipBlanks Signs_behind Tape_size Tape_bytes x1 → gB x2 (-1) 255 → tr_Tape_byteAt x1 Tape_size Tape_bytes x2 → x3.toInt = x1.toInt + 1 → gB x4 (-1) 255 → tr_Tape_byteAt x3 Tape_size Tape_bytes x4 → x2.toInt ≠ (-1) → gB x5 0 1 → tr_Signs_isDigit x2 x5 → x5.toInt = 0 → x2.toInt ≠ 45 → x2.toInt = 118 → gB x6 0 1 → tr_Signs_isDigit x4 x6 → x6.toInt = 0 → gB x7 0 1 → tr_Signs_isLetter x2 x7 → x7.toInt ≠ 0 → gB x8 0 12 → tr_Signs_takeWord x1 Tape_size Tape_bytes x8 x9 → R x8 (0 : Int32) x1 x9) →
  (∀ (x1 : Int32) (x2 : Int32) (x3 : Int32) (x4 : Int32) (x5 : Int32) (x6 : Int32) (x7 : Int32) (x8 : Int32) (x9 : Int32), Signs_kind.toInt = 2 → gB x1 (-2147483648) 8192 → tr_Signs_skipBlanks Signs_behind Tape_size Tape_bytes x1 → gB x2 (-1) 255 → tr_Tape_byteAt x1 Tape_size Tape_bytes x2 → x3.toInt = x1.toInt + 1 → gB x4 (-1) 255 → tr_Tape_byteAt x3 Tape_size Tape_bytes x4 → x2.toInt ≠ (-1) → gB x5 0 1 → tr_Signs_isDigit x2 x5 → x5.toInt = 0 → x2.toInt ≠ 45 → x2.toInt = 118 → gB x6 0 1 → tr_Signs_isDigit x4 x6 → x6.toInt ≠ 0 → gB x7 0 3 → tr_Signs_takeNamed (2 : Int32) (100 : Int32) x1 Tape_size Tape_bytes x7 x8 x9 → R x7 x8 x1 x9) →
  (∀ (x1 : Int32) (x2 : Int32) (x3 : Int32) (x4 : Int32) (x5 : Int32) (x6 : Int32) (x7 : Int32) (x8 : Int32) (x9 : Int32) (x10 : Int32), Signs_kind.toInt = 2 → gB x1 (-2147483648) 8192 → tr_Signs_skipBlanks Signs_behind Tape_size Tape_bytes x1 → gB x2 (-1) 255 → tr_Tape_byteAt x1 Tape_size Tape_bytes x2 → x3.toInt = x1.toInt + 1 → gB x4 (-1) 255 → tr_Tape_byteAt x3 Tape_size Tape_bytes x4 → x2.toInt ≠ (-1) → gB x5 0 1 → tr_Signs_isDigit x2 x5 → x5.toInt = 0 → x2.toInt = 45 → gB x6 0 1 → tr_Signs_isDigit x4 x6 → x6.toInt = 0 → gB x7 0 1 → tr_Signs_isLetter x2 x7 → x7.toInt = 0 → gB x8 0 7 → gB x9 (-1) 13 → tr_Signs_takeMark x2 x4 x1 x8 x9 x10 → R x8 x9 x1 x10) →
  (∀ (x1 : Int32) (x2 : Int32) (x3 : Int32) (x4 : Int32) (x5 : Int32) (x6 : Int32) (x7 : Int32) (x8 : Int32) (x9 : Int32), Signs_kind.toInt = 2 → gB x1 (-2147483648) 8192 → tr_Signs_skipBlanks Signs_behind Tape_size Tape_bytes x1 → gB x2 (-1) 255 → tr_Tape_byteAt x1 Tape_size Tape_bytes x2 → x3.toInt = x1.toInt + 1 → gB x4 (-1) 255 → tr_Tape_byteAt x3 Tape_size Tape_bytes x4 → x2.toInt ≠ (-1) → gB x5 0 1 → tr_Signs_isDigit x2 x5 → x5.toInt = 0 → x2.toInt = 45 → gB x6 0 1 → tr_Signs_isDigit x4 x6 → x6.toInt = 0 → gB x7 0 1 → tr_Signs_isLetter x2 x7 → x7.toInt ≠ 0 → gB x8 0 12 → tr_Signs_takeWord x1 Tape_size Tape_bytes x8 x9 → R x8 (0 : Int32) x1 x9) →
  (∀ (x1 : Int32) (x2 : Int32) (x3 : Int32) (x4 : Int32) (x5 : Int32) (x6 : Int32) (x7 : Int32) (x8 : Int32) (x9 : Int32) (x10 : Int32), Signs_kind.toInt = 2 → gB x1 (-2147483648) 8192 → tr_Signs_skipBlanks Signs_behind Tape_size Tape_bytes x1 → gB x2 (-1) 255 → tr_Tape_byteAt x1 Tape_size Tape_bytes x2 → x3.toInt = x1.toInt + 1 → gB x4 (-1) 255 → tr_Tape_byteAt x3 Tape_size Tape_bytes x4 → x2.toInt ≠ (-1) → gB x5 0 1 → tr_Signs_isDigit x2 x5 → x5.toInt = 0 → x2.toInt = 45 → gB x6 0 1 → tr_Signs_isDigit x4 x6 → x6.toInt ≠ 0 → gB x7 0 1 → tr_Signs_isLetter x2 x7 → x7.toInt = 0 → gB x8 0 7 → gB x9 (-1) 13 → tr_Signs_takeMark x2 x4 x1 x8 x9 x10 → R x8 x9 x1 x10) →
  (∀ (x1 : Int32) (x2 : Int32) (x3 : Int32) (x4 : Int32) (x5 : Int32) (x6 : Int32) (x7 : Int32) (x8 : Int32) (x9 : Int32), Signs_kind.toInt = 2 → gB x1 (-2147483648) 8192 → tr_Signs_skipBlanks Signs_behind Tape_size Tape_bytes x1 → gB x2 (-1) 255 → tr_Tape_byteAt x1 Tape_size Tape_bytes x2 → x3.toInt = x1.toInt + 1 → gB x4 (-1) 255 → tr_Tape_byteAt x3 Tape_size Tape_bytes x4 → x2.toInt ≠ (-1) → gB x5 0 1 → tr_Signs_isDigit x2 x5 → x5.toInt = 0 → x2.toInt = 45 → gB x6 0 1 → tr_Signs_isDigit x4 x6 → x6.toInt ≠ 0 → gB x7 0 1 → tr_Signs_isLetter x2 x7 → x7.toInt ≠ 0 → gB x8 0 12 → tr_Signs_takeWord x1 Tape_size Tape_bytes x8 x9 → R x8 (0 : Int32) x1 x9) →
  (∀ (x1 : Int32) (x2 : Int32) (x3 : Int32) (x4 : Int32), Signs_kind.toInt = 2 → gB x1 (-2147483648) 8192 → tr_Signs_skipBlanks Signs_behind Tape_size Tape_bytes x1 → gB x2 (-1) 255 → tr_Tape_byteAt x1 Tape_size Tape_bytes x2 → x3.toInt = x1.toInt + 1 → gB x4 (-1) 255 → tr_Tape_byteAt x3 Tape_size Tape_bytes x4 → x2.toInt = (-1) → R (1 : Int32) (0 : Int32) x1 x1) →
  (∀ (x1 : Int32) (x2 : Int32) (x3 : Int32) (x4 : Int32) (x5 : Int32) (x6 : Int32) (x7 : Int32) (x8 : Int32), Signs_kind.toInt ≠ 2 → Signs_kind.toInt ≠ 4 → gB x1 (-2147483648) 8192 → tr_Signs_skipBlanks Signs_behind Tape_size Tape_bytes x1 → gB x2 (-1) 255 → tr_Tape_byteAt x1 Tape_size Tape_bytes x2 → x3.toInt = x1.toInt + 1 → gB x4 (-1) 255 → tr_Tape_byteAt x3 Tape_size Tape_bytes x4 → x2.toInt ≠ (-1) → gB x5 0 1 → tr_Signs_isDigit x2 x5 → x5.toInt ≠ 0 → x2.toInt ≠ 45 → gB x6 0 4 → tr_Signs_takeNumber (0 : Int32) x1 Tape_size Tape_bytes x6 x7 x8 → R x6 x7 x1 x8) →
  (∀ (x1 : Int32) (x2 : Int32) (x3 : Int32) (x4 : Int32) (x5 : Int32) (x6 : Int32) (x7 : Int32) (x8 : Int32), Signs_kind.toInt ≠ 2 → Signs_kind.toInt ≠ 4 → gB x1 (-2147483648) 8192 → tr_Signs_skipBlanks Signs_behind Tape_size Tape_bytes x1 → gB x2 (-1) 255 → tr_Tape_byteAt x1 Tape_size Tape_bytes x2 → x3.toInt = x1.toInt + 1 → gB x4 (-1) 255 → tr_Tape_byteAt x3 Tape_size Tape_bytes x4 → x2.toInt ≠ (-1) → gB x5 0 1 → tr_Signs_isDigit x2 x5 → x5.toInt ≠ 0 → x2.toInt = 45 → gB x6 0 4 → tr_Signs_takeNumber (1 : Int32) x1 Tape_size Tape_bytes x6 x7 x8 → R x6 x7 x1 x8) →
  (∀ (x1 : Int32) (x2 : Int32) (x3 : Int32) (x4 : Int32) (x5 : Int32) (x6 : Int32) (x7 : Int32) (x8 : Int32) (x9 : Int32), Signs_kind.toInt ≠ 2 → Signs_kind.toInt ≠ 4 → gB x1 (-2147483648) 8192 → tr_Signs_skipBlanks Signs_behind Tape_size Tape_bytes x1 → gB x2 (-1) 255 → tr_Tape_byteAt x1 Tape_size Tape_bytes x2 → x3.toInt = x1.toInt + 1 → gB x4 (-1) 255 → tr_Tape_byteAt x3 Tape_size Tape_bytes x4 → x2.toInt ≠ (-1) → gB x5 0 1 → tr_Signs_isDigit x2 x5 → x5.toInt = 0 → x2.toInt ≠ 45 → x2.toInt ≠ 118 → x2.toInt ≠ 98 → gB x6 0 1 → tr_Signs_isLetter x2 x6 → x6.toInt = 0 → gB x7 0 7 → gB x8 (-1) 13 → tr_Signs_takeMark x2 x4 x1 x7 x8 x9 → R x7 x8 x1 x9) →
  (∀ (x1 : Int32) (x2 : Int32) (x3 : Int32) (x4 : Int32) (x5 : Int32) (x6 : Int32) (x7 : Int32) (x8 : Int32), Signs_kind.toInt ≠ 2 → Signs_kind.toInt ≠ 4 → gB x1 (-2147483648) 8192 → tr_Signs_skipBlanks Signs_behind Tape_size Tape_bytes x1 → gB x2 (-1) 255 → tr_Tape_byteAt x1 Tape_size Tape_bytes x2 → x3.toInt = x1.toInt + 1 → gB x4 (-1) 255 → tr_Tape_byteAt x3 Tape_size Tape_bytes x4 → x2.toInt ≠ (-1) → gB x5 0 1 → tr_Signs_isDigit x2 x5 → x5.toInt = 0 → x2.toInt ≠ 45 → x2.toInt ≠ 118 → x2.toInt ≠ 98 → gB x6 0 1 → tr_Signs_isLetter x2 x6 → x6.toInt ≠ 0 → gB x7 0 12 → tr_Signs_takeWord x1 Tape_size Tape_bytes x7 x8 → R x7 (0 : Int32) x1 x8) →
  (∀ (x1 : Int32) (x2 : Int32) (x3 : Int32) (x4 : Int32) (x5 : Int32) (x6 : Int32) (x7 : Int32) (x8 : Int32) (x9 : Int32) (x10 : Int32), Signs_kind.toInt ≠ 2 → Signs_kind.toInt ≠ 4 → gB x1 (-2147483648) 8192 → tr_Signs_skipBlanks Signs_behind Tape_size Tape_bytes x1 → gB x2 (-1) 255 → tr_Tape_byteAt x1 Tape_size Tape_bytes x2 → x3.toInt = x1.toInt + 1 → gB x4 (-1) 255 → tr_Tape_byteAt x3 Tape_size Tape_bytes x4 → x2.toInt ≠ (-1) → gB x5 0 1 → tr_Signs_isDigit x2 x5 → x5.toInt = 0 → x2.toInt ≠ 45 → x2.toInt ≠ 118 → x2.toInt = 98 → gB x6 0 1 → tr_Signs_isDigit x4 x6 → x6.toInt = 0 → gB x7 0 1 → tr_Signs_isLetter x2 x7 → x7.toInt = 0 → gB x8 0 7 → gB x9 (-1) 13 → tr_Signs_takeMark x2 x4 x1 x8 x9 x10 → R x8 x9 x1 x10) →
  (∀ (x1 : Int32) (x2 : Int32) (x3 : Int32) (x4 : Int32) (x5 : Int32) (x6 : Int32) (x7 : Int32) (x8 : Int32) (x9 : Int32), Signs_kind.toInt ≠ 2 → Signs_kind.toInt ≠ 4 → gB x1 (-2147483648) 8192 → tr_Signs_skipBlanks Signs_behind Tape_size Tape_bytes x1 → gB x2 (-1) 255 → tr_Tape_byteAt x1 Tape_size Tape_bytes x2 → x3.toInt = x1.toInt + 1 → gB x4 (-1) 255 → tr_Tape_byteAt x3 Tape_size Tape_bytes x4 → x2.toInt ≠ (-1) → gB x5 0 1 → tr_Signs_isDigit x2 x5 → x5.toInt = 0 → x2.toInt ≠ 45 → x2.toInt ≠ 118 → x2.toInt = 98 → gB x6 0 1 → tr_Signs_isDigit x4 x6 → x6.toInt = 0 → gB x7 0 1 → tr_Signs_isLetter x2 x7 → x7.toInt ≠ 0 → gB x8 0 12 → tr_Signs_takeWord x1 Tape_size Tape_bytes x8 x9 → R x8 (0 : Int32) x1 x9) →
  (∀ (x1 : Int32) (x2 : Int32) (x3 : Int32) (x4 : Int32) (x5 : Int32) (x6 : Int32) (x7 : Int32) (x8 : Int32) (x9 : Int32), Signs_kind.toInt ≠ 2 → Signs_kind.toInt ≠ 4 → gB x1 (-2147483648) 8192 → tr_Signs_skipBlanks Signs_behind Tape_size Tape_bytes x1 → gB x2 (-1) 255 → tr_Tape_byteAt x1 Tape_size Tape_bytes x2 → x3.toInt = x1.toInt + 1 → gB x4 (-1) 255 → tr_Tape_byteAt x3 Tape_size Tape_bytes x4 → x2.toInt ≠ (-1) → gB x5 0 1 → tr_Signs_isDigit x2 x5 → x5.toInt = 0 → x2.toInt ≠ 45 → x2.toInt ≠ 118 → x2.toInt = 98 → gB x6 0 1 → tr_Signs_isDigit x4 x6 → x6.toInt ≠ 0 → gB x7 0 3 → tr_Signs_takeNamed (3 : Int32) (40 : Int32) x1 Tape_size Tape_bytes x7 x8 x9 → R x7 x8 x1 x9) →
  (∀ (x1 : Int32) (x2 : Int32) (x3 : Int32) (x4 : Int32) (x5 : Int32) (x6 : Int32) (x7 : Int32) (x8 : Int32) (x9 : Int32) (x10 : Int32), Signs_kind.toInt ≠ 2 → Signs_kind.toInt ≠ 4 → gB x1 (-2147483648) 8192 → tr_Signs_skipBlanks Signs_behind Tape_size Tape_bytes x1 → gB x2 (-1) 255 → tr_Tape_byteAt x1 Tape_size Tape_bytes x2 → x3.toInt = x1.toInt + 1 → gB x4 (-1) 255 → tr_Tape_byteAt x3 Tape_size Tape_bytes x4 → x2.toInt ≠ (-1) → gB x5 0 1 → tr_Signs_isDigit x2 x5 → x5.toInt = 0 → x2.toInt ≠ 45 → x2.toInt = 118 → gB x6 0 1 → tr_Signs_isDigit x4 x6 → x6.toInt = 0 → gB x7 0 1 → tr_Signs_isLetter x2 x7 → x7.toInt = 0 → gB x8 0 7 → gB x9 (-1) 13 → tr_Signs_takeMark x2 x4 x1 x8 x9 x10 → R x8 x9 x1 x10) →
  (∀ (x1 : Int32) (x2 : Int32) (x3 : Int32) (x4 : Int32) (x5 : Int32) (x6 : Int32) (x7 : Int32) (x8 : Int32) (x9 : Int32), Signs_kind.toInt ≠ 2 → Signs_kind.toInt ≠ 4 → gB x1 (-2147483648) 8192 → tr_Signs_skipBlanks Signs_behind Tape_size Tape_bytes x1 → gB x2 (-1) 255 → tr_Tape_byteAt x1 Tape_size Tape_bytes x2 → x3.toInt = x1.toInt + 1 → gB x4 (-1) 255 → tr_Tape_byteAt x3 Tape_size Tape_bytes x4 → x2.toInt ≠ (-1) → gB x5 0 1 → tr_Signs_isDigit x2 x5 → x5.toInt = 0 → x2.toInt ≠ 45 → x2.toInt = 118 → gB x6 0 1 → tr_Signs_isDigit x4 x6 → x6.toInt = 0 → gB x7 0 1 → tr_Signs_isLetter x2 x7 → x7.toInt ≠ 0 → gB x8 0 12 → tr_Signs_takeWord x1 Tape_size Tape_bytes x8 x9 → R x8 (0 : Int32) x1 x9) →
  (∀ (x1 : Int32) (x2 : Int32) (x3 : Int32) (x4 : Int32) (x5 : Int32) (x6 : Int32) (x7 : Int32) (x8 : Int32) (x9 : Int32), Signs_kind.toInt ≠ 2 → Signs_kind.toInt ≠ 4 → gB x1 (-2147483648) 8192 → tr_Signs_skipBlanks Signs_behind Tape_size Tape_bytes x1 → gB x2 (-1) 255 → tr_Tape_byteAt x1 Tape_size Tape_bytes x2 → x3.toInt = x1.toInt + 1 → gB x4 (-1) 255 → tr_Tape_byteAt x3 Tape_size Tape_bytes x4 → x2.toInt ≠ (-1) → gB x5 0 1 → tr_Signs_isDigit x2 x5 → x5.toInt = 0 → x2.toInt ≠ 45 → x2.toInt = 118 → gB x6 0 1 → tr_Signs_isDigit x4 x6 → x6.toInt ≠ 0 → gB x7 0 3 → tr_Signs_takeNamed (2 : Int32) (100 : Int32) x1 Tape_size Tape_bytes x7 x8 x9 → R x7 x8 x1 x9) →
  (∀ (x1 : Int32) (x2 : Int32) (x3 : Int32) (x4 : Int32) (x5 : Int32) (x6 : Int32) (x7 : Int32) (x8 : Int32) (x9 : Int32) (x10 : Int32), Signs_kind.toInt ≠ 2 → Signs_kind.toInt ≠ 4 → gB x1 (-2147483648) 8192 → tr_Signs_skipBlanks Signs_behind Tape_size Tape_bytes x1 → gB x2 (-1) 255 → tr_Tape_byteAt x1 Tape_size Tape_bytes x2 → x3.toInt = x1.toInt + 1 → gB x4 (-1) 255 → tr_Tape_byteAt x3 Tape_size Tape_bytes x4 → x2.toInt ≠ (-1) → gB x5 0 1 → tr_Signs_isDigit x2 x5 → x5.toInt = 0 → x2.toInt = 45 → gB x6 0 1 → tr_Signs_isDigit x4 x6 → x6.toInt = 0 → gB x7 0 1 → tr_Signs_isLetter x2 x7 → x7.toInt = 0 → gB x8 0 7 → gB x9 (-1) 13 → tr_Signs_takeMark x2 x4 x1 x8 x9 x10 → R x8 x9 x1 x10) →
  (∀ (x1 : Int32) (x2 : Int32) (x3 : Int32) (x4 : Int32) (x5 : Int32) (x6 : Int32) (x7 : Int32) (x8 : Int32) (x9 : Int32), Signs_kind.toInt ≠ 2 → Signs_kind.toInt ≠ 4 → gB x1 (-2147483648) 8192 → tr_Signs_skipBlanks Signs_behind Tape_size Tape_bytes x1 → gB x2 (-1) 255 → tr_Tape_byteAt x1 Tape_size Tape_bytes x2 → x3.toInt = x1.toInt + 1 → gB x4 (-1) 255 → tr_Tape_byteAt x3 Tape_size Tape_bytes x4 → x2.toInt ≠ (-1) → gB x5 0 1 → tr_Signs_isDigit x2 x5 → x5.toInt = 0 → x2.toInt = 45 → gB x6 0 1 → tr_Signs_isDigit x4 x6 → x6.toInt = 0 → gB x7 0 1 → tr_Signs_isLetter x2 x7 → x7.toInt ≠ 0 → gB x8 0 12 → tr_Signs_takeWord x1 Tape_size Tape_bytes x8 x9 → R x8 (0 : Int32) x1 x9) →
  (∀ (x1 : Int32) (x2 : Int32) (x3 : Int32) (x4 : Int32) (x5 : Int32) (x6 : Int32) (x7 : Int32) (x8 : Int32) (x9 : Int32), Signs_kind.toInt ≠ 2 → Signs_kind.toInt ≠ 4 → gB x1 (-2147483648) 8192 → tr_Signs_skipBlanks Signs_behind Tape_size Tape_bytes x1 → gB x2 (-1) 255 → tr_Tape_byteAt x1 Tape_size Tape_bytes x2 → x3.toInt = x1.toInt + 1 → gB x4 (-1) 255 → tr_Tape_byteAt x3 Tape_size Tape_bytes x4 → x2.toInt ≠ (-1) → gB x5 0 1 → tr_Signs_isDigit x2 x5 → x5.toInt = 0 → x2.toInt = 45 → gB x6 0 1 → tr_Signs_isDigit x4 x6 → x6.toInt ≠ 0 → gB x7 0 4 → tr_Signs_takeNumber (1 : Int32) x1 Tape_size Tape_bytes x7 x8 x9 → R x7 x8 x1 x9) →
  (∀ (x1 : Int32) (x2 : Int32) (x3 : Int32) (x4 : Int32), Signs_kind.toInt ≠ 2 → Signs_kind.toInt ≠ 4 → gB x1 (-2147483648) 8192 → tr_Signs_skipBlanks Signs_behind Tape_size Tape_bytes x1 → gB x2 (-1) 255 → tr_Tape_byteAt x1 Tape_size Tape_bytes x2 → x3.toInt = x1.toInt + 1 → gB x4 (-1) 255 → tr_Tape_byteAt x3 Tape_size Tape_bytes x4 → x2.toInt = (-1) → R (1 : Int32) (0 : Int32) x1 x1) →
  (∀ (x1 : Int32) (x2 : Int32) (x3 : Int32) (x4 : Int32) (x5 : Int32) (x6 : Int32) (x7 : Int32) (x8 : Int32), Signs_kind.toInt ≠ 2 → Signs_kind.toInt = 4 → gB x1 (-2147483648) 8192 → tr_Signs_skipBlanks Signs_behind Tape_size Tape_bytes x1 → gB x2 (-1) 255 → tr_Tape_byteAt x1 Tape_size Tape_bytes x2 → x3.toInt = x1.toInt + 1 → gB x4 (-1) 255 → tr_Tape_byteAt x3 Tape_size Tape_bytes x4 → x2.toInt ≠ (-1) → gB x5 0 1 → tr_Signs_isDigit x2 x5 → x5.toInt ≠ 0 → x2.toInt ≠ 45 → gB x6 0 4 → tr_Signs_takeNumber (0 : Int32) x1 Tape_size Tape_bytes x6 x7 x8 → R x6 x7 x1 x8) →
  (∀ (x1 : Int32) (x2 : Int32) (x3 : Int32) (x4 : Int32) (x5 : Int32) (x6 : Int32) (x7 : Int32) (x8 : Int32), Signs_kind.toInt ≠ 2 → Signs_kind.toInt = 4 → gB x1 (-2147483648) 8192 → tr_Signs_skipBlanks Signs_behind Tape_size Tape_bytes x1 → gB x2 (-1) 255 → tr_Tape_byteAt x1 Tape_size Tape_bytes x2 → x3.toInt = x1.toInt + 1 → gB x4 (-1) 255 → tr_Tape_byteAt x3 Tape_size Tape_bytes x4 → x2.toInt ≠ (-1) → gB x5 0 1 → tr_Signs_isDigit x2 x5 → x5.toInt ≠ 0 → x2.toInt = 45 → gB x6 0 4 → tr_Signs_takeNumber (1 : Int32) x1 Tape_size Tape_bytes x6 x7 x8 → R x6 x7 x1 x8) →
  (∀ (x1 : Int32) (x2 : Int32) (x3 : Int32) (x4 : Int32) (x5 : Int32) (x6 : Int32) (x7 : Int32) (x8 : Int32) (x9 : Int32), Signs_kind.toInt ≠ 2 → Signs_kind.toInt = 4 → gB x1 (-2147483648) 8192 → tr_Signs_skipBlanks Signs_behind Tape_size Tape_bytes x1 → gB x2 (-1) 255 → tr_Tape_byteAt x1 Tape_size Tape_bytes x2 → x3.toInt = x1.toInt + 1 → gB x4 (-1) 255 → tr_Tape_byteAt x3 Tape_size Tape_bytes x4 → x2.toInt ≠ (-1) → gB x5 0 1 → tr_Signs_isDigit x2 x5 → x5.toInt = 0 → x2.toInt ≠ 45 → x2.toInt ≠ 118 → x2.toInt ≠ 98 → gB x6 0 1 → tr_Signs_isLetter x2 x6 → x6.toInt = 0 → gB x7 0 7 → gB x8 (-1) 13 → tr_Signs_takeMark x2 x4 x1 x7 x8 x9 → R x7 x8 x1 x9) →
  (∀ (x1 : Int32) (x2 : Int32) (x3 : Int32) (x4 : Int32) (x5 : Int32) (x6 : Int32) (x7 : Int32) (x8 : Int32), Signs_kind.toInt ≠ 2 → Signs_kind.toInt = 4 → gB x1 (-2147483648) 8192 → tr_Signs_skipBlanks Signs_behind Tape_size Tape_bytes x1 → gB x2 (-1) 255 → tr_Tape_byteAt x1 Tape_size Tape_bytes x2 → x3.toInt = x1.toInt + 1 → gB x4 (-1) 255 → tr_Tape_byteAt x3 Tape_size Tape_bytes x4 → x2.toInt ≠ (-1) → gB x5 0 1 → tr_Signs_isDigit x2 x5 → x5.toInt = 0 → x2.toInt ≠ 45 → x2.toInt ≠ 118 → x2.toInt ≠ 98 → gB x6 0 1 → tr_Signs_isLetter x2 x6 → x6.toInt ≠ 0 → gB x7 0 12 → tr_Signs_takeWord x1 Tape_size Tape_bytes x7 x8 → R x7 (0 : Int32) x1 x8) →
  (∀ (x1 : Int32) (x2 : Int32) (x3 : Int32) (x4 : Int32) (x5 : Int32) (x6 : Int32) (x7 : Int32) (x8 : Int32) (x9 : Int32) (x10 : Int32), Signs_kind.toInt ≠ 2 → Signs_kind.toInt = 4 → gB x1 (-2147483648) 8192 → tr_Signs_skipBlanks Signs_behind Tape_size Tape_bytes x1 → gB x2 (-1) 255 → tr_Tape_byteAt x1 Tape_size Tape_bytes x2 → x3.toInt = x1.toInt + 1 → gB x4 (-1) 255 → tr_Tape_byteAt x3 Tape_size Tape_bytes x4 → x2.toInt ≠ (-1) → gB x5 0 1 → tr_Signs_isDigit x2 x5 → x5.toInt = 0 → x2.toInt ≠ 45 → x2.toInt ≠ 118 → x2.toInt = 98 → gB x6 0 1 → tr_Signs_isDigit x4 x6 → x6.toInt = 0 → gB x7 0 1 → tr_Signs_isLetter x2 x7 → x7.toInt = 0 → gB x8 0 7 → gB x9 (-1) 13 → tr_Signs_takeMark x2 x4 x1 x8 x9 x10 → R x8 x9 x1 x10) →
  (∀ (x1 : Int32) (x2 : Int32) (x3 : Int32) (x4 : Int32) (x5 : Int32) (x6 : Int32) (x7 : Int32) (x8 : Int32) (x9 : Int32), Signs_kind.toInt ≠ 2 → Signs_kind.toInt = 4 → gB x1 (-2147483648) 8192 → tr_Signs_skipBlanks Signs_behind Tape_size Tape_bytes x1 → gB x2 (-1) 255 → tr_Tape_byteAt x1 Tape_size Tape_bytes x2 → x3.toInt = x1.toInt + 1 → gB x4 (-1) 255 → tr_Tape_byteAt x3 Tape_size Tape_bytes x4 → x2.toInt ≠ (-1) → gB x5 0 1 → tr_Signs_isDigit x2 x5 → x5.toInt = 0 → x2.toInt ≠ 45 → x2.toInt ≠ 118 → x2.toInt = 98 → gB x6 0 1 → tr_Signs_isDigit x4 x6 → x6.toInt = 0 → gB x7 0 1 → tr_Signs_isLetter x2 x7 → x7.toInt ≠ 0 → gB x8 0 12 → tr_Signs_takeWord x1 Tape_size Tape_bytes x8 x9 → R x8 (0 : Int32) x1 x9) →
  (∀ (x1 : Int32) (x2 : Int32) (x3 : Int32) (x4 : Int32) (x5 : Int32) (x6 : Int32) (x7 : Int32) (x8 : Int32) (x9 : Int32), Signs_kind.toInt ≠ 2 → Signs_kind.toInt = 4 → gB x1 (-2147483648) 8192 → tr_Signs_skipBlanks Signs_behind Tape_size Tape_bytes x1 → gB x2 (-1) 255 → tr_Tape_byteAt x1 Tape_size Tape_bytes x2 → x3.toInt = x1.toInt + 1 → gB x4 (-1) 255 → tr_Tape_byteAt x3 Tape_size Tape_bytes x4 → x2.toInt ≠ (-1) → gB x5 0 1 → tr_Signs_isDigit x2 x5 → x5.toInt = 0 → x2.toInt ≠ 45 → x2.toInt ≠ 118 → x2.toInt = 98 → gB x6 0 1 → tr_Signs_isDigit x4 x6 → x6.toInt ≠ 0 → gB x7 0 3 → tr_Signs_takeNamed (3 : Int32) (40 : Int32) x1 Tape_size Tape_bytes x7 x8 x9 → R x7 x8 x1 x9) →
  (∀ (x1 : Int32) (x2 : Int32) (x3 : Int32) (x4 : Int32) (x5 : Int32) (x6 : Int32) (x7 : Int32) (x8 : Int32) (x9 : Int32) (x10 : Int32), Signs_kind.toInt ≠ 2 → Signs_kind.toInt = 4 → gB x1 (-2147483648) 8192 → tr_Signs_skipBlanks Signs_behind Tape_size Tape_bytes x1 → gB x2 (-1) 255 → tr_Tape_byteAt x1 Tape_size Tape_bytes x2 → x3.toInt = x1.toInt + 1 → gB x4 (-1) 255 → tr_Tape_byteAt x3 Tape_size Tape_bytes x4 → x2.toInt ≠ (-1) → gB x5 0 1 → tr_Signs_isDigit x2 x5 → x5.toInt = 0 → x2.toInt ≠ 45 → x2.toInt = 118 → gB x6 0 1 → tr_Signs_isDigit x4 x6 → x6.toInt = 0 → gB x7 0 1 → tr_Signs_isLetter x2 x7 → x7.toInt = 0 → gB x8 0 7 → gB x9 (-1) 13 → tr_Signs_takeMark x2 x4 x1 x8 x9 x10 → R x8 x9 x1 x10) →
  (∀ (x1 : Int32) (x2 : Int32) (x3 : Int32) (x4 : Int32) (x5 : Int32) (x6 : Int32) (x7 : Int32) (x8 : Int32) (x9 : Int32), Signs_kind.toInt ≠ 2 → Signs_kind.toInt = 4 → gB x1 (-2147483648) 8192 → tr_Signs_skipBlanks Signs_behind Tape_size Tape_bytes x1 → gB x2 (-1) 255 → tr_Tape_byteAt x1 Tape_size Tape_bytes x2 → x3.toInt = x1.toInt + 1 → gB x4 (-1) 255 → tr_Tape_byteAt x3 Tape_size Tape_bytes x4 → x2.toInt ≠ (-1) → gB x5 0 1 → tr_Signs_isDigit x2 x5 → x5.toInt = 0 → x2.toInt ≠ 45 → x2.toInt = 118 → gB x6 0 1 → tr_Signs_isDigit x4 x6 → x6.toInt = 0 → gB x7 0 1 → tr_Signs_isLetter x2 x7 → x7.toInt ≠ 0 → gB x8 0 12 → tr_Signs_takeWord x1 Tape_size Tape_bytes x8 x9 → R x8 (0 : Int32) x1 x9) →
  (∀ (x1 : Int32) (x2 : Int32) (x3 : Int32) (x4 : Int32) (x5 : Int32) (x6 : Int32) (x7 : Int32) (x8 : Int32) (x9 : Int32), Signs_kind.toInt ≠ 2 → Signs_kind.toInt = 4 → gB x1 (-2147483648) 8192 → tr_Signs_skipBlanks Signs_behind Tape_size Tape_bytes x1 → gB x2 (-1) 255 → tr_Tape_byteAt x1 Tape_size Tape_bytes x2 → x3.toInt = x1.toInt + 1 → gB x4 (-1) 255 → tr_Tape_byteAt x3 Tape_size Tape_bytes x4 → x2.toInt ≠ (-1) → gB x5 0 1 → tr_Signs_isDigit x2 x5 → x5.toInt = 0 → x2.toInt ≠ 45 → x2.toInt = 118 → gB x6 0 1 → tr_Signs_isDigit x4 x6 → x6.toInt ≠ 0 → gB x7 0 3 → tr_Signs_takeNamed (2 : Int32) (100 : Int32) x1 Tape_size Tape_bytes x7 x8 x9 → R x7 x8 x1 x9) →
  (∀ (x1 : Int32) (x2 : Int32) (x3 : Int32) (x4 : Int32) (x5 : Int32) (x6 : Int32) (x7 : Int32) (x8 : Int32) (x9 : Int32) (x10 : Int32), Signs_kind.toInt ≠ 2 → Signs_kind.toInt = 4 → gB x1 (-2147483648) 8192 → tr_Signs_skipBlanks Signs_behind Tape_size Tape_bytes x1 → gB x2 (-1) 255 → tr_Tape_byteAt x1 Tape_size Tape_bytes x2 → x3.toInt = x1.toInt + 1 → gB x4 (-1) 255 → tr_Tape_byteAt x3 Tape_size Tape_bytes x4 → x2.toInt ≠ (-1) → gB x5 0 1 → tr_Signs_isDigit x2 x5 → x5.toInt = 0 → x2.toInt = 45 → gB x6 0 1 → tr_Signs_isDigit x4 x6 → x6.toInt = 0 → gB x7 0 1 → tr_Signs_isLetter x2 x7 → x7.toInt = 0 → gB x8 0 7 → gB x9 (-1) 13 → tr_Signs_takeMark x2 x4 x1 x8 x9 x10 → R x8 x9 x1 x10) →
  (∀ (x1 : Int32) (x2 : Int32) (x3 : Int32) (x4 : Int32) (x5 : Int32) (x6 : Int32) (x7 : Int32) (x8 : Int32) (x9 : Int32), Signs_kind.toInt ≠ 2 → Signs_kind.toInt = 4 → gB x1 (-2147483648) 8192 → tr_Signs_skipBlanks Signs_behind Tape_size Tape_bytes x1 → gB x2 (-1) 255 → tr_Tape_byteAt x1 Tape_size Tape_bytes x2 → x3.toInt = x1.toInt + 1 → gB x4 (-1) 255 → tr_Tape_byteAt x3 Tape_size Tape_bytes x4 → x2.toInt ≠ (-1) → gB x5 0 1 → tr_Signs_isDigit x2 x5 → x5.toInt = 0 → x2.toInt = 45 → gB x6 0 1 → tr_Signs_isDigit x4 x6 → x6.toInt = 0 → gB x7 0 1 → tr_Signs_isLetter x2 x7 → x7.toInt ≠ 0 → gB x8 0 12 → tr_Signs_takeWord x1 Tape_size Tape_bytes x8 x9 → R x8 (0 : Int32) x1 x9) →
  (∀ (x1 : Int32) (x2 : Int32) (x3 : Int32) (x4 : Int32) (x5 : Int32) (x6 : Int32) (x7 : Int32) (x8 : Int32) (x9 : Int32) (x10 : Int32), Signs_kind.toInt ≠ 2 → Signs_kind.toInt = 4 → gB x1 (-2147483648) 8192 → tr_Signs_skipBlanks Signs_behind Tape_size Tape_bytes x1 → gB x2 (-1) 255 → tr_Tape_byteAt x1 Tape_size Tape_bytes x2 → x3.toInt = x1.toInt + 1 → gB x4 (-1) 255 → tr_Tape_byteAt x3 Tape_size Tape_bytes x4 → x2.toInt ≠ (-1) → gB x5 0 1 → tr_Signs_isDigit x2 x5 → x5.toInt = 0 → x2.toInt = 45 → gB x6 0 1 → tr_Signs_isDigit x4 x6 → x6.toInt ≠ 0 → gB x7 0 1 → tr_Signs_isLetter x2 x7 → x7.toInt = 0 → gB x8 0 7 → gB x9 (-1) 13 → tr_Signs_takeMark x2 x4 x1 x8 x9 x10 → R x8 x9 x1 x10) →
  (∀ (x1 : Int32) (x2 : Int32) (x3 : Int32) (x4 : Int32) (x5 : Int32) (x6 : Int32) (x7 : Int32) (x8 : Int32) (x9 : Int32), Signs_kind.toInt ≠ 2 → Signs_kind.toInt = 4 → gB x1 (-2147483648) 8192 → tr_Signs_skipBlanks Signs_behind Tape_size Tape_bytes x1 → gB x2 (-1) 255 → tr_Tape_byteAt x1 Tape_size Tape_bytes x2 → x3.toInt = x1.toInt + 1 → gB x4 (-1) 255 → tr_Tape_byteAt x3 Tape_size Tape_bytes x4 → x2.toInt ≠ (-1) → gB x5 0 1 → tr_Signs_isDigit x2 x5 → x5.toInt = 0 → x2.toInt = 45 → gB x6 0 1 → tr_Signs_isDigit x4 x6 → x6.toInt ≠ 0 → gB x7 0 1 → tr_Signs_isLetter x2 x7 → x7.toInt ≠ 0 → gB x8 0 12 → tr_Signs_takeWord x1 Tape_size Tape_bytes x8 x9 → R x8 (0 : Int32) x1 x9) →
  (∀ (x1 : Int32) (x2 : Int32) (x3 : Int32) (x4 : Int32), Signs_kind.toInt ≠ 2 → Signs_kind.toInt = 4 → gB x1 (-2147483648) 8192 → tr_Signs_skipBlanks Signs_behind Tape_size Tape_bytes x1 → gB x2 (-1) 255 → tr_Tape_byteAt x1 Tape_size Tape_bytes x2 → x3.toInt = x1.toInt + 1 → gB x4 (-1) 255 → tr_Tape_byteAt x3 Tape_size Tape_bytes x4 → x2.toInt = (-1) → R (1 : Int32) (0 : Int32) x1 x1) →
  R o1 o2 o3 o4
abbrev ky_4520_Signs_advance : gKey := (cX9_advance, 4, yX9_advance.cls, none, [], yX9_advance.name, fun _ _ => True)
abbrev po_4520_Signs_advance (I : FieldType → ClassId) (q4510 : Nat) (q4511 : Nat) (q4512 : Nat) (p4513 : Int32) (p4514 : Int32) (p4515 : Int32) (p4516 : Int32) (p4517 : Int32) (f4518 : Nat → Int32) : Option Value → va_W → Prop := fun r w => ∃ (o4914 : Int32) (o4915 : Int32) (o4916 : Int32) (o4917 : Int32), r = none ∧ w = [(q4510, .inr (14, [.ref q4511, .int o4914, .int o4915, .int o4916, .int o4917])), (q4511, .inr (15, [.ref q4512, .int p4517])), (q4512, .inl (I .byte, 8192, .inl f4518))] ∧ gB o4914 0 12 ∧ gB o4915 (-2147483648) 2147483647 ∧ gB o4916 (-2147483648) 8192 ∧ gB o4917 (-2147483648) 2147483647 ∧ (o4914.toInt ≠ 5 ∨ (0 ≤ o4915.toInt ∧ o4915.toInt ≤ 13)) ∧ tr_Signs_advance p4513 p4516 p4517 f4518 o4914 o4915 o4916 o4917
set_option maxRecDepth 100000 in
set_option maxHeartbeats 4000000 in
theorem ct_4520_Signs_advance (l : Launch) (hl0 : l.stackTraces = false) (D : va_G) (I : FieldType → ClassId) (q4510 : Nat) (q4511 : Nat) (q4512 : Nat) (p4513 : Int32) (p4514 : Int32) (p4515 : Int32) (p4516 : Int32) (p4517 : Int32) (f4518 : Nat → Int32) (bp4517 : gB p4517 0 8192) (bf4518 : gF f4518 (-128) 127) (x4519 : (p4513.toInt ≠ 5 ∨ (0 ≤ p4514.toInt ∧ p4514.toInt ≤ 13))) : Ct (gV D I) l yX9_advance cX9_advance 4 none 6 130 0 0 [.ref q4510] [(q4510, .inr (14, [.ref q4511, .int p4513, .int p4514, .int p4515, .int p4516])), (q4511, .inr (15, [.ref q4512, .int p4517])), (q4512, .inl (I .byte, 8192, .inl f4518))] (po_4520_Signs_advance I q4510 q4511 q4512 p4513 p4514 p4515 p4516 p4517 f4518) gN := by
  refine Ct_of hl0 (by decide) (Nat.le_of_ble_eq_true rfl) ?_
  have bp4513 := gB_any p4513
  have bp4514 := gB_any p4514
  have bp4515 := gB_any p4515
  have bp4516 := gB_any p4516
  refine G_aload_n 0 d_cX9_advance_0 rfl ?_
  refine G_getf 0 1 d_cX9_advance_1 rfl (gk_X9 D I) (Nat.le_of_ble_eq_true rfl) w_1_80 rfl ?_
  refine G_iconst 2 d_cX9_advance_4 (by decide +kernel) ?_
  refine G_icmp_eq 16 d_cX9_advance_5 (by decide +kernel) (fun hc4521 => ?_) (fun hc4521 => ?_)
  · have r4522 : p4513.toInt = 2 := gj_eq hc4521 (show Int32.toInt 2 = 2 by decide)
    have bp4513' : gB p4513 2 2 := ⟨by omega, by omega⟩
    refine G_iconst 1 d_cX9_advance_16 (by decide +kernel) ?_
    refine G_goto 21 d_cX9_advance_17 (by decide +kernel) ?_
    refine G_istore_n (L' := [(1, .int 1), (0, .ref q4510)]) d_cX9_advance_21 (Nat.le_of_ble_eq_true rfl) rfl ?_
    refine G_aload_n 1 d_cX9_advance_22 rfl ?_
    refine G_aload_n 1 d_cX9_advance_23 rfl ?_
    refine G_aload_n 1 d_cX9_advance_24 rfl ?_
    refine G_getf 0 4 d_cX9_advance_25 rfl (gk_X9 D I) (Nat.le_of_ble_eq_true rfl) w_1_83 rfl ?_
    refine G_callV (As := [.int p4516]) (wr := []) (gV_ok D I) (ct_275_Signs_skipBlanks l hl0 D I q4510 q4511 q4512 p4516 p4513 p4514 p4515 p4516 p4517 f4518 bp4517 bf4518 (by have qa0 : Int32.toInt 1 = 1 := (by decide); omega)) d_cX9_advance_28 ⟨w_3_12, w_1_4, w_3_15, by decide, rfl, (Nat.le_of_ble_eq_true rfl), (Nat.le_of_ble_eq_true rfl)⟩ w_3_14 w_p_0 0 rfl rfl [0, 1, 2] [] rfl rfl rfl rfl (by decide) (Nat.le_of_ble_eq_true rfl) (Nat.le_of_ble_eq_true rfl) (Nat.le_of_ble_eq_true rfl) (fun r w hp => ?_) (fun _ _ _ z => z.elim)
    obtain ⟨o4523, rfl, rfl, bo4523, ht4524⟩ := hp
    change G _ _ _ _ _ _ _ (.int o4523 :: _) _ _ _
    refine G_ws (ws' := [(q4510, .inr (14, [.ref q4511, .int p4513, .int p4514, .int p4515, .int p4516])), (q4511, .inr (15, [.ref q4512, .int p4517])), (q4512, .inl (I .byte, 8192, .inl f4518))]) (cs' := 0) (sl' := 0) rfl rfl rfl ?_
    refine G_putf (ws' := [(q4510, .inr (14, [.ref q4511, .int p4513, .int p4514, .int o4523, .int p4516])), (q4511, .inr (15, [.ref q4512, .int p4517])), (q4512, .inl (I .byte, 8192, .inl f4518))]) 0 3 d_cX9_advance_31 rfl (gk_X9 D I) (Nat.le_of_ble_eq_true rfl) w_1_82 rfl rfl rfl (Nat.le_of_ble_eq_true rfl) rfl ?_
    refine G_aload_n 1 d_cX9_advance_34 rfl ?_
    refine G_getf 0 0 d_cX9_advance_35 rfl (gk_X9 D I) (Nat.le_of_ble_eq_true rfl) w_1_79 rfl ?_
    refine G_aload_n 1 d_cX9_advance_38 rfl ?_
    refine G_getf 0 3 d_cX9_advance_39 rfl (gk_X9 D I) (Nat.le_of_ble_eq_true rfl) w_1_82 rfl ?_
    refine G_callV (As := [.int o4523]) (wr := [(q4510, .inr (14, [.ref q4511, .int p4513, .int p4514, .int o4523, .int p4516]))]) (gV_ok D I) (ct_31_Tape_byteAt l hl0 D I q4511 q4512 o4523 p4517 f4518 bp4517 bf4518) d_cX9_advance_42 ⟨w_3_20, w_1_2, w_3_23, by decide, rfl, (Nat.le_of_ble_eq_true rfl), (Nat.le_of_ble_eq_true rfl)⟩ w_3_21 w_3_22 1 rfl rfl [1, 2] [0] rfl rfl rfl rfl (by decide) (Nat.le_of_ble_eq_true rfl) (Nat.le_of_ble_eq_true rfl) (Nat.le_of_ble_eq_true rfl) (fun r w hp => ?_) (fun _ _ _ z => z.elim)
    obtain ⟨o4525, rfl, rfl, bo4525, ht4526⟩ := hp
    change G _ _ _ _ _ _ _ (.int o4525 :: _) _ _ _
    refine G_ws (ws' := [(q4510, .inr (14, [.ref q4511, .int p4513, .int p4514, .int o4523, .int p4516])), (q4511, .inr (15, [.ref q4512, .int p4517])), (q4512, .inl (I .byte, 8192, .inl f4518))]) (cs' := 0) (sl' := 0) rfl rfl rfl ?_
    refine G_istore_n (L' := [(2, .int o4525), (1, .int 1), (0, .ref q4510)]) d_cX9_advance_45 (Nat.le_of_ble_eq_true rfl) rfl ?_
    refine G_aload_n 2 d_cX9_advance_46 rfl ?_
    refine G_getf 0 0 d_cX9_advance_47 rfl (gk_X9 D I) (Nat.le_of_ble_eq_true rfl) w_1_79 rfl ?_
    refine G_aload_n 2 d_cX9_advance_50 rfl ?_
    refine G_getf 0 3 d_cX9_advance_51 rfl (gk_X9 D I) (Nat.le_of_ble_eq_true rfl) w_1_82 rfl ?_
    refine G_iconst 1 d_cX9_advance_54 (by decide +kernel) ?_
    refine G_iadd d_cX9_advance_55 (G_nam fun z4527 hz4527 => ?_)
    have ez4527 : z4527.toInt = o4523.toInt + 1 := by rw [gI_add hz4527 bo4523 (gBl (show Int32.toInt 1 = 1 by decide)) (by decide) (by decide), show Int32.toInt 1 = 1 from by decide]
    have bz4527 : gB z4527 (-2147483647) 8193 := gB_add (gI_add hz4527 bo4523 (gBl (show Int32.toInt 1 = 1 by decide)) (by decide) (by decide)) bo4523 (gBl (show Int32.toInt 1 = 1 by decide)) (by decide) (by decide)
    refine G_callV (As := [.int z4527]) (wr := [(q4510, .inr (14, [.ref q4511, .int p4513, .int p4514, .int o4523, .int p4516]))]) (gV_ok D I) (ct_31_Tape_byteAt l hl0 D I q4511 q4512 z4527 p4517 f4518 bp4517 bf4518) d_cX9_advance_56 ⟨w_3_20, w_1_2, w_3_23, by decide, rfl, (Nat.le_of_ble_eq_true rfl), (Nat.le_of_ble_eq_true rfl)⟩ w_3_21 w_3_22 1 rfl rfl [1, 2] [0] rfl rfl rfl rfl (by decide) (Nat.le_of_ble_eq_true rfl) (Nat.le_of_ble_eq_true rfl) (Nat.le_of_ble_eq_true rfl) (fun r w hp => ?_) (fun _ _ _ z => z.elim)
    obtain ⟨o4528, rfl, rfl, bo4528, ht4529⟩ := hp
    change G _ _ _ _ _ _ _ (.int o4528 :: _) _ _ _
    refine G_ws (ws' := [(q4510, .inr (14, [.ref q4511, .int p4513, .int p4514, .int o4523, .int p4516])), (q4511, .inr (15, [.ref q4512, .int p4517])), (q4512, .inl (I .byte, 8192, .inl f4518))]) (cs' := 0) (sl' := 0) rfl rfl rfl ?_
    refine G_istore_n (L' := [(3, .int o4528), (2, .int o4525), (1, .int 1), (0, .ref q4510)]) d_cX9_advance_59 (Nat.le_of_ble_eq_true rfl) rfl ?_
    refine G_aload_n 3 d_cX9_advance_60 rfl ?_
    refine G_iconst 0 d_cX9_advance_61 (by decide +kernel) ?_
    refine G_putf (ws' := [(q4510, .inr (14, [.ref q4511, .int p4513, .int 0, .int o4523, .int p4516])), (q4511, .inr (15, [.ref q4512, .int p4517])), (q4512, .inl (I .byte, 8192, .inl f4518))]) 0 2 d_cX9_advance_62 rfl (gk_X9 D I) (Nat.le_of_ble_eq_true rfl) w_1_81 rfl rfl rfl (Nat.le_of_ble_eq_true rfl) rfl ?_
    refine G_iload_n 1 d_cX9_advance_65 rfl ?_
    refine G_iconst (-1) d_cX9_advance_66 (by decide +kernel) ?_
    refine G_icmp_ne 86 d_cX9_advance_67 (by decide +kernel) (fun hc4530 => ?_) (fun hc4530 => ?_)
    · have r4531 : o4525.toInt ≠ (-1) := gj_neq hc4530 (show Int32.toInt (-1) = (-1) by decide)
      have bo4525' : gB o4525 0 255 := ⟨by omega, by omega⟩
      refine G_iload_n 1 d_cX9_advance_86 rfl ?_
      refine G_callS (As := [.int o4525]) (wr := [(q4510, .inr (14, [.ref q4511, .int p4513, .int 0, .int o4523, .int p4516])), (q4511, .inr (15, [.ref q4512, .int p4517])), (q4512, .inl (I .byte, 8192, .inl f4518))]) (gV_ok D I) (ct_247_Signs_isDigit l hl0 D I o4525 ) d_cX9_advance_87 ⟨w_3_24, w_1_4, w_3_26, by decide, rfl, (Nat.le_of_ble_eq_true rfl), (Nat.le_of_ble_eq_true rfl)⟩ w_3_25 [] [0, 1, 2] rfl rfl rfl rfl (by decide) (Nat.le_of_ble_eq_true rfl) (Nat.le_of_ble_eq_true rfl) (Nat.le_of_ble_eq_true rfl) (fun r w hp => ?_) (fun _ _ _ z => z.elim)
      obtain ⟨o4532, rfl, rfl, bo4532, ht4533⟩ := hp
      change G _ _ _ _ _ _ _ (.int o4532 :: _) _ _ _
      refine G_ws (ws' := [(q4510, .inr (14, [.ref q4511, .int p4513, .int 0, .int o4523, .int p4516])), (q4511, .inr (15, [.ref q4512, .int p4517])), (q4512, .inl (I .byte, 8192, .inl f4518))]) (cs' := 0) (sl' := 0) rfl rfl rfl ?_
      refine G_if_ne 110 d_cX9_advance_90 (by decide +kernel) (fun hc4534 => ?_) (fun hc4534 => ?_)
      · have r4535 : o4532.toInt ≠ 0 := gj_neq hc4534 (show Int32.toInt 0 = 0 by decide)
        have bo4532' : gB o4532 1 1 := ⟨by omega, by omega⟩
        refine G_aload_n 3 d_cX9_advance_110 rfl ?_
        refine G_iload_n 1 d_cX9_advance_111 rfl ?_
        refine G_bipush 45 d_cX9_advance_112 (by decide +kernel) ?_
        refine G_icmp_ne 121 d_cX9_advance_114 (by decide +kernel) (fun hc4536 => ?_) (fun hc4536 => ?_)
        · have r4537 : o4525.toInt ≠ 45 := gj_neq hc4536 (show Int32.toInt 45 = 45 by decide)
          refine G_iconst 0 d_cX9_advance_121 (by decide +kernel) ?_
          refine G_callV (As := [.int 0]) (wr := []) (gV_ok D I) (ct_474_Signs_takeNumber l hl0 D I q4510 q4511 q4512 0 p4513 0 o4523 p4516 p4517 f4518 (gB_w (gBl (show Int32.toInt 0 = 0 by decide)) (by decide) (by decide)) bp4517 bf4518 (by have qa0 : Int32.toInt 0 = 0 := (by decide); have qa1 : Int32.toInt 1 = 1 := (by decide); omega)) d_cX9_advance_122 ⟨w_3_27, w_1_4, w_3_30, by decide, rfl, (Nat.le_of_ble_eq_true rfl), (Nat.le_of_ble_eq_true rfl)⟩ w_3_29 w_p_1 0 rfl rfl [0, 1, 2] [] rfl rfl rfl rfl (by decide) (Nat.le_of_ble_eq_true rfl) (Nat.le_of_ble_eq_true rfl) (Nat.le_of_ble_eq_true rfl) (fun r w hp => ?_) (fun _ _ _ z => z.elim)
          obtain ⟨o4538, o4539, o4540, rfl, rfl, bo4538, bo4539, bo4540, x4541, ht4542⟩ := hp
          change G _ _ _ _ _ _ _ _ _ _ _
          refine G_ws (ws' := [(q4510, .inr (14, [.ref q4511, .int o4538, .int o4539, .int o4523, .int o4540])), (q4511, .inr (15, [.ref q4512, .int p4517])), (q4512, .inl (I .byte, 8192, .inl f4518))]) (cs' := 0) (sl' := 0) rfl rfl rfl ?_
          refine G_goto 194 d_cX9_advance_125 (by decide +kernel) ?_
          exact G_vret d_cX9_advance_194 rfl (Nat.le_of_ble_eq_true rfl) (Nat.le_of_ble_eq_true rfl) ⟨o4538, o4539, o4523, o4540, rfl, rfl, (gB_w bo4538 (by decide) (by decide)), bo4539, bo4523, bo4540, (by have qa0 : Int32.toInt 1 = 1 := (by decide); omega), (fun R c1 c2 c3 c4 c5 c6 c7 c8 c9 c10 c11 c12 c13 c14 c15 c16 c17 c18 c19 c20 c21 c22 c23 c24 c25 c26 c27 c28 c29 c30 c31 c32 c33 c34 c35 c36 c37 c38 c39 c40 c41 c42 c43 c44 => c1 o4523 o4525 z4527 o4528 o4532 o4538 o4539 o4540 r4522 bo4523 ht4524 bo4525 ht4526 ez4527 bo4528 ht4529 r4531 bo4532 ht4533 r4535 r4537 bo4538 ht4542)⟩
        · have r4543 : o4525.toInt = 45 := gj_eq hc4536 (show Int32.toInt 45 = 45 by decide)
          have bo4525'' : gB o4525 45 45 := ⟨by omega, by omega⟩
          refine G_iconst 1 d_cX9_advance_117 (by decide +kernel) ?_
          refine G_goto 122 d_cX9_advance_118 (by decide +kernel) ?_
          refine G_callV (As := [.int 1]) (wr := []) (gV_ok D I) (ct_474_Signs_takeNumber l hl0 D I q4510 q4511 q4512 1 p4513 0 o4523 p4516 p4517 f4518 (gB_w (gBl (show Int32.toInt 1 = 1 by decide)) (by decide) (by decide)) bp4517 bf4518 (by have qa0 : Int32.toInt 0 = 0 := (by decide); have qa1 : Int32.toInt 1 = 1 := (by decide); omega)) d_cX9_advance_122 ⟨w_3_27, w_1_4, w_3_30, by decide, rfl, (Nat.le_of_ble_eq_true rfl), (Nat.le_of_ble_eq_true rfl)⟩ w_3_29 w_p_1 0 rfl rfl [0, 1, 2] [] rfl rfl rfl rfl (by decide) (Nat.le_of_ble_eq_true rfl) (Nat.le_of_ble_eq_true rfl) (Nat.le_of_ble_eq_true rfl) (fun r w hp => ?_) (fun _ _ _ z => z.elim)
          obtain ⟨o4544, o4545, o4546, rfl, rfl, bo4544, bo4545, bo4546, x4547, ht4548⟩ := hp
          change G _ _ _ _ _ _ _ _ _ _ _
          refine G_ws (ws' := [(q4510, .inr (14, [.ref q4511, .int o4544, .int o4545, .int o4523, .int o4546])), (q4511, .inr (15, [.ref q4512, .int p4517])), (q4512, .inl (I .byte, 8192, .inl f4518))]) (cs' := 0) (sl' := 0) rfl rfl rfl ?_
          refine G_goto 194 d_cX9_advance_125 (by decide +kernel) ?_
          exact G_vret d_cX9_advance_194 rfl (Nat.le_of_ble_eq_true rfl) (Nat.le_of_ble_eq_true rfl) ⟨o4544, o4545, o4523, o4546, rfl, rfl, (gB_w bo4544 (by decide) (by decide)), bo4545, bo4523, bo4546, (by have qa0 : Int32.toInt 1 = 1 := (by decide); omega), (fun R c1 c2 c3 c4 c5 c6 c7 c8 c9 c10 c11 c12 c13 c14 c15 c16 c17 c18 c19 c20 c21 c22 c23 c24 c25 c26 c27 c28 c29 c30 c31 c32 c33 c34 c35 c36 c37 c38 c39 c40 c41 c42 c43 c44 => c2 o4523 o4525 z4527 o4528 o4532 o4544 o4545 o4546 r4522 bo4523 ht4524 bo4525 ht4526 ez4527 bo4528 ht4529 r4531 bo4532 ht4533 r4535 r4543 bo4544 ht4548)⟩
      · have r4549 : o4532.toInt = 0 := gj_eq hc4534 (show Int32.toInt 0 = 0 by decide)
        have bo4532' : gB o4532 0 0 := ⟨by omega, by omega⟩
        refine G_iload_n 1 d_cX9_advance_93 rfl ?_
        refine G_bipush 45 d_cX9_advance_94 (by decide +kernel) ?_
        refine G_icmp_ne 128 d_cX9_advance_96 (by decide +kernel) (fun hc4550 => ?_) (fun hc4550 => ?_)
        · have r4551 : o4525.toInt ≠ 45 := gj_neq hc4550 (show Int32.toInt 45 = 45 by decide)
          refine G_iload_n 1 d_cX9_advance_128 rfl ?_
          refine G_bipush 118 d_cX9_advance_129 (by decide +kernel) ?_
          refine G_icmp_ne 151 d_cX9_advance_131 (by decide +kernel) (fun hc4552 => ?_) (fun hc4552 => ?_)
          · have r4553 : o4525.toInt ≠ 118 := gj_neq hc4552 (show Int32.toInt 118 = 118 by decide)
            refine G_iload_n 1 d_cX9_advance_151 rfl ?_
            refine G_bipush 98 d_cX9_advance_152 (by decide +kernel) ?_
            refine G_icmp_ne 174 d_cX9_advance_154 (by decide +kernel) (fun hc4554 => ?_) (fun hc4554 => ?_)
            · have r4555 : o4525.toInt ≠ 98 := gj_neq hc4554 (show Int32.toInt 98 = 98 by decide)
              refine G_iload_n 1 d_cX9_advance_174 rfl ?_
              refine G_callS (As := [.int o4525]) (wr := [(q4510, .inr (14, [.ref q4511, .int p4513, .int 0, .int o4523, .int p4516])), (q4511, .inr (15, [.ref q4512, .int p4517])), (q4512, .inl (I .byte, 8192, .inl f4518))]) (gV_ok D I) (ct_256_Signs_isLetter l hl0 D I o4525 ) d_cX9_advance_175 ⟨w_3_45, w_1_4, w_3_47, by decide, rfl, (Nat.le_of_ble_eq_true rfl), (Nat.le_of_ble_eq_true rfl)⟩ w_3_46 [] [0, 1, 2] rfl rfl rfl rfl (by decide) (Nat.le_of_ble_eq_true rfl) (Nat.le_of_ble_eq_true rfl) (Nat.le_of_ble_eq_true rfl) (fun r w hp => ?_) (fun _ _ _ z => z.elim)
              obtain ⟨o4556, rfl, rfl, bo4556, ht4557⟩ := hp
              change G _ _ _ _ _ _ _ (.int o4556 :: _) _ _ _
              refine G_ws (ws' := [(q4510, .inr (14, [.ref q4511, .int p4513, .int 0, .int o4523, .int p4516])), (q4511, .inr (15, [.ref q4512, .int p4517])), (q4512, .inl (I .byte, 8192, .inl f4518))]) (cs' := 0) (sl' := 0) rfl rfl rfl ?_
              refine G_if_eq 188 d_cX9_advance_178 (by decide +kernel) (fun hc4558 => ?_) (fun hc4558 => ?_)
              · have r4559 : o4556.toInt = 0 := gj_eq hc4558 (show Int32.toInt 0 = 0 by decide)
                have bo4556' : gB o4556 0 0 := ⟨by omega, by omega⟩
                refine G_aload_n 3 d_cX9_advance_188 rfl ?_
                refine G_iload_n 1 d_cX9_advance_189 rfl ?_
                refine G_iload_n 0 d_cX9_advance_190 rfl ?_
                refine G_callV (As := [.int o4525, .int o4528]) (wr := []) (gV_ok D I) (ct_4473_Signs_takeMark l hl0 D I q4510 q4511 q4512 o4525 o4528 p4513 0 o4523 p4516 p4517 f4518 bp4517 bf4518 (by have qa0 : Int32.toInt 0 = 0 := (by decide); have qa1 : Int32.toInt 1 = 1 := (by decide); omega)) d_cX9_advance_191 ⟨w_3_109, w_1_4, w_3_112, by decide, rfl, (Nat.le_of_ble_eq_true rfl), (Nat.le_of_ble_eq_true rfl)⟩ w_3_111 w_p_6 0 rfl rfl [0, 1, 2] [] rfl rfl rfl rfl (by decide) (Nat.le_of_ble_eq_true rfl) (Nat.le_of_ble_eq_true rfl) (Nat.le_of_ble_eq_true rfl) (fun r w hp => ?_) (fun _ _ _ z => z.elim)
                obtain ⟨o4560, o4561, o4562, rfl, rfl, bo4560, bo4561, bo4562, x4563, ht4564⟩ := hp
                change G _ _ _ _ _ _ _ _ _ _ _
                refine G_ws (ws' := [(q4510, .inr (14, [.ref q4511, .int o4560, .int o4561, .int o4523, .int o4562])), (q4511, .inr (15, [.ref q4512, .int p4517])), (q4512, .inl (I .byte, 8192, .inl f4518))]) (cs' := 0) (sl' := 0) rfl rfl rfl ?_
                exact G_vret d_cX9_advance_194 rfl (Nat.le_of_ble_eq_true rfl) (Nat.le_of_ble_eq_true rfl) ⟨o4560, o4561, o4523, o4562, rfl, rfl, (gB_w bo4560 (by decide) (by decide)), (gB_w bo4561 (by decide) (by decide)), bo4523, bo4562, (by have qa0 : Int32.toInt 1 = 1 := (by decide); omega), (fun R c1 c2 c3 c4 c5 c6 c7 c8 c9 c10 c11 c12 c13 c14 c15 c16 c17 c18 c19 c20 c21 c22 c23 c24 c25 c26 c27 c28 c29 c30 c31 c32 c33 c34 c35 c36 c37 c38 c39 c40 c41 c42 c43 c44 => c3 o4523 o4525 z4527 o4528 o4532 o4556 o4560 o4561 o4562 r4522 bo4523 ht4524 bo4525 ht4526 ez4527 bo4528 ht4529 r4531 bo4532 ht4533 r4549 r4551 r4553 r4555 bo4556 ht4557 r4559 bo4560 bo4561 ht4564)⟩
              · have r4565 : o4556.toInt ≠ 0 := gj_neq hc4558 (show Int32.toInt 0 = 0 by decide)
                have bo4556' : gB o4556 1 1 := ⟨by omega, by omega⟩
                refine G_aload_n 3 d_cX9_advance_181 rfl ?_
                refine G_callV (As := []) (wr := []) (gV_ok D I) (ct_3904_Signs_takeWord l hl0 D I q4510 q4511 q4512 p4513 0 o4523 p4516 p4517 f4518 bp4517 bf4518 (by have qa0 : Int32.toInt 0 = 0 := (by decide); have qa1 : Int32.toInt 1 = 1 := (by decide); omega)) d_cX9_advance_182 ⟨w_3_48, w_1_4, w_3_51, by decide, rfl, (Nat.le_of_ble_eq_true rfl), (Nat.le_of_ble_eq_true rfl)⟩ w_3_50 w_p_4 0 rfl rfl [0, 1, 2] [] rfl rfl rfl rfl (by decide) (Nat.le_of_ble_eq_true rfl) (Nat.le_of_ble_eq_true rfl) (Nat.le_of_ble_eq_true rfl) (fun r w hp => ?_) (fun _ _ _ z => z.elim)
                obtain ⟨o4566, o4567, rfl, rfl, bo4566, bo4567, x4568, ht4569⟩ := hp
                rw [show Int32.toInt 0 = 0 from by decide] at x4568
                change G _ _ _ _ _ _ _ _ _ _ _
                refine G_ws (ws' := [(q4510, .inr (14, [.ref q4511, .int o4566, .int 0, .int o4523, .int o4567])), (q4511, .inr (15, [.ref q4512, .int p4517])), (q4512, .inl (I .byte, 8192, .inl f4518))]) (cs' := 0) (sl' := 0) rfl rfl rfl ?_
                refine G_goto 194 d_cX9_advance_185 (by decide +kernel) ?_
                exact G_vret d_cX9_advance_194 rfl (Nat.le_of_ble_eq_true rfl) (Nat.le_of_ble_eq_true rfl) ⟨o4566, 0, o4523, o4567, rfl, rfl, bo4566, (gB_w (gBl (show Int32.toInt 0 = 0 by decide)) (by decide) (by decide)), bo4523, bo4567, (by have qa0 : Int32.toInt 0 = 0 := (by decide); have qa1 : Int32.toInt 1 = 1 := (by decide); omega), (fun R c1 c2 c3 c4 c5 c6 c7 c8 c9 c10 c11 c12 c13 c14 c15 c16 c17 c18 c19 c20 c21 c22 c23 c24 c25 c26 c27 c28 c29 c30 c31 c32 c33 c34 c35 c36 c37 c38 c39 c40 c41 c42 c43 c44 => c4 o4523 o4525 z4527 o4528 o4532 o4556 o4566 o4567 r4522 bo4523 ht4524 bo4525 ht4526 ez4527 bo4528 ht4529 r4531 bo4532 ht4533 r4549 r4551 r4553 r4555 bo4556 ht4557 r4565 bo4566 ht4569)⟩
            · have r4570 : o4525.toInt = 98 := gj_eq hc4554 (show Int32.toInt 98 = 98 by decide)
              have bo4525'' : gB o4525 98 98 := ⟨by omega, by omega⟩
              refine G_iload_n 0 d_cX9_advance_157 rfl ?_
              refine G_callS (As := [.int o4528]) (wr := [(q4510, .inr (14, [.ref q4511, .int p4513, .int 0, .int o4523, .int p4516])), (q4511, .inr (15, [.ref q4512, .int p4517])), (q4512, .inl (I .byte, 8192, .inl f4518))]) (gV_ok D I) (ct_247_Signs_isDigit l hl0 D I o4528 ) d_cX9_advance_158 ⟨w_3_24, w_1_4, w_3_26, by decide, rfl, (Nat.le_of_ble_eq_true rfl), (Nat.le_of_ble_eq_true rfl)⟩ w_3_25 [] [0, 1, 2] rfl rfl rfl rfl (by decide) (Nat.le_of_ble_eq_true rfl) (Nat.le_of_ble_eq_true rfl) (Nat.le_of_ble_eq_true rfl) (fun r w hp => ?_) (fun _ _ _ z => z.elim)
              obtain ⟨o4571, rfl, rfl, bo4571, ht4572⟩ := hp
              change G _ _ _ _ _ _ _ (.int o4571 :: _) _ _ _
              refine G_ws (ws' := [(q4510, .inr (14, [.ref q4511, .int p4513, .int 0, .int o4523, .int p4516])), (q4511, .inr (15, [.ref q4512, .int p4517])), (q4512, .inl (I .byte, 8192, .inl f4518))]) (cs' := 0) (sl' := 0) rfl rfl rfl ?_
              refine G_if_eq 174 d_cX9_advance_161 (by decide +kernel) (fun hc4573 => ?_) (fun hc4573 => ?_)
              · have r4574 : o4571.toInt = 0 := gj_eq hc4573 (show Int32.toInt 0 = 0 by decide)
                have bo4571' : gB o4571 0 0 := ⟨by omega, by omega⟩
                refine G_iload_n 1 d_cX9_advance_174 rfl ?_
                refine G_callS (As := [.int o4525]) (wr := [(q4510, .inr (14, [.ref q4511, .int p4513, .int 0, .int o4523, .int p4516])), (q4511, .inr (15, [.ref q4512, .int p4517])), (q4512, .inl (I .byte, 8192, .inl f4518))]) (gV_ok D I) (ct_256_Signs_isLetter l hl0 D I o4525 ) d_cX9_advance_175 ⟨w_3_45, w_1_4, w_3_47, by decide, rfl, (Nat.le_of_ble_eq_true rfl), (Nat.le_of_ble_eq_true rfl)⟩ w_3_46 [] [0, 1, 2] rfl rfl rfl rfl (by decide) (Nat.le_of_ble_eq_true rfl) (Nat.le_of_ble_eq_true rfl) (Nat.le_of_ble_eq_true rfl) (fun r w hp => ?_) (fun _ _ _ z => z.elim)
                obtain ⟨o4575, rfl, rfl, bo4575, ht4576⟩ := hp
                change G _ _ _ _ _ _ _ (.int o4575 :: _) _ _ _
                refine G_ws (ws' := [(q4510, .inr (14, [.ref q4511, .int p4513, .int 0, .int o4523, .int p4516])), (q4511, .inr (15, [.ref q4512, .int p4517])), (q4512, .inl (I .byte, 8192, .inl f4518))]) (cs' := 0) (sl' := 0) rfl rfl rfl ?_
                refine G_if_eq 188 d_cX9_advance_178 (by decide +kernel) (fun hc4577 => ?_) (fun hc4577 => ?_)
                · have r4578 : o4575.toInt = 0 := gj_eq hc4577 (show Int32.toInt 0 = 0 by decide)
                  have bo4575' : gB o4575 0 0 := ⟨by omega, by omega⟩
                  refine G_aload_n 3 d_cX9_advance_188 rfl ?_
                  refine G_iload_n 1 d_cX9_advance_189 rfl ?_
                  refine G_iload_n 0 d_cX9_advance_190 rfl ?_
                  refine G_callV (As := [.int o4525, .int o4528]) (wr := []) (gV_ok D I) (ct_4473_Signs_takeMark l hl0 D I q4510 q4511 q4512 o4525 o4528 p4513 0 o4523 p4516 p4517 f4518 bp4517 bf4518 (by have qa0 : Int32.toInt 0 = 0 := (by decide); have qa1 : Int32.toInt 1 = 1 := (by decide); omega)) d_cX9_advance_191 ⟨w_3_109, w_1_4, w_3_112, by decide, rfl, (Nat.le_of_ble_eq_true rfl), (Nat.le_of_ble_eq_true rfl)⟩ w_3_111 w_p_6 0 rfl rfl [0, 1, 2] [] rfl rfl rfl rfl (by decide) (Nat.le_of_ble_eq_true rfl) (Nat.le_of_ble_eq_true rfl) (Nat.le_of_ble_eq_true rfl) (fun r w hp => ?_) (fun _ _ _ z => z.elim)
                  obtain ⟨o4579, o4580, o4581, rfl, rfl, bo4579, bo4580, bo4581, x4582, ht4583⟩ := hp
                  change G _ _ _ _ _ _ _ _ _ _ _
                  refine G_ws (ws' := [(q4510, .inr (14, [.ref q4511, .int o4579, .int o4580, .int o4523, .int o4581])), (q4511, .inr (15, [.ref q4512, .int p4517])), (q4512, .inl (I .byte, 8192, .inl f4518))]) (cs' := 0) (sl' := 0) rfl rfl rfl ?_
                  exact G_vret d_cX9_advance_194 rfl (Nat.le_of_ble_eq_true rfl) (Nat.le_of_ble_eq_true rfl) ⟨o4579, o4580, o4523, o4581, rfl, rfl, (gB_w bo4579 (by decide) (by decide)), (gB_w bo4580 (by decide) (by decide)), bo4523, bo4581, (by have qa0 : Int32.toInt 1 = 1 := (by decide); omega), (fun R c1 c2 c3 c4 c5 c6 c7 c8 c9 c10 c11 c12 c13 c14 c15 c16 c17 c18 c19 c20 c21 c22 c23 c24 c25 c26 c27 c28 c29 c30 c31 c32 c33 c34 c35 c36 c37 c38 c39 c40 c41 c42 c43 c44 => c5 o4523 o4525 z4527 o4528 o4532 o4571 o4575 o4579 o4580 o4581 r4522 bo4523 ht4524 bo4525 ht4526 ez4527 bo4528 ht4529 r4531 bo4532 ht4533 r4549 r4551 r4553 r4570 bo4571 ht4572 r4574 bo4575 ht4576 r4578 bo4579 bo4580 ht4583)⟩
                · have r4584 : o4575.toInt ≠ 0 := gj_neq hc4577 (show Int32.toInt 0 = 0 by decide)
                  have bo4575' : gB o4575 1 1 := ⟨by omega, by omega⟩
                  refine G_aload_n 3 d_cX9_advance_181 rfl ?_
                  refine G_callV (As := []) (wr := []) (gV_ok D I) (ct_3904_Signs_takeWord l hl0 D I q4510 q4511 q4512 p4513 0 o4523 p4516 p4517 f4518 bp4517 bf4518 (by have qa0 : Int32.toInt 0 = 0 := (by decide); have qa1 : Int32.toInt 1 = 1 := (by decide); omega)) d_cX9_advance_182 ⟨w_3_48, w_1_4, w_3_51, by decide, rfl, (Nat.le_of_ble_eq_true rfl), (Nat.le_of_ble_eq_true rfl)⟩ w_3_50 w_p_4 0 rfl rfl [0, 1, 2] [] rfl rfl rfl rfl (by decide) (Nat.le_of_ble_eq_true rfl) (Nat.le_of_ble_eq_true rfl) (Nat.le_of_ble_eq_true rfl) (fun r w hp => ?_) (fun _ _ _ z => z.elim)
                  obtain ⟨o4585, o4586, rfl, rfl, bo4585, bo4586, x4587, ht4588⟩ := hp
                  rw [show Int32.toInt 0 = 0 from by decide] at x4587
                  change G _ _ _ _ _ _ _ _ _ _ _
                  refine G_ws (ws' := [(q4510, .inr (14, [.ref q4511, .int o4585, .int 0, .int o4523, .int o4586])), (q4511, .inr (15, [.ref q4512, .int p4517])), (q4512, .inl (I .byte, 8192, .inl f4518))]) (cs' := 0) (sl' := 0) rfl rfl rfl ?_
                  refine G_goto 194 d_cX9_advance_185 (by decide +kernel) ?_
                  exact G_vret d_cX9_advance_194 rfl (Nat.le_of_ble_eq_true rfl) (Nat.le_of_ble_eq_true rfl) ⟨o4585, 0, o4523, o4586, rfl, rfl, bo4585, (gB_w (gBl (show Int32.toInt 0 = 0 by decide)) (by decide) (by decide)), bo4523, bo4586, (by have qa0 : Int32.toInt 0 = 0 := (by decide); have qa1 : Int32.toInt 1 = 1 := (by decide); omega), (fun R c1 c2 c3 c4 c5 c6 c7 c8 c9 c10 c11 c12 c13 c14 c15 c16 c17 c18 c19 c20 c21 c22 c23 c24 c25 c26 c27 c28 c29 c30 c31 c32 c33 c34 c35 c36 c37 c38 c39 c40 c41 c42 c43 c44 => c6 o4523 o4525 z4527 o4528 o4532 o4571 o4575 o4585 o4586 r4522 bo4523 ht4524 bo4525 ht4526 ez4527 bo4528 ht4529 r4531 bo4532 ht4533 r4549 r4551 r4553 r4570 bo4571 ht4572 r4574 bo4575 ht4576 r4584 bo4585 ht4588)⟩
              · have r4589 : o4571.toInt ≠ 0 := gj_neq hc4573 (show Int32.toInt 0 = 0 by decide)
                have bo4571' : gB o4571 1 1 := ⟨by omega, by omega⟩
                refine G_aload_n 3 d_cX9_advance_164 rfl ?_
                refine G_iconst 3 d_cX9_advance_165 (by decide +kernel) ?_
                refine G_bipush 40 d_cX9_advance_166 (by decide +kernel) ?_
                refine G_callV (As := [.int 3, .int 40]) (wr := []) (gV_ok D I) (ct_513_Signs_takeNamed l hl0 D I q4510 q4511 q4512 3 40 p4513 0 o4523 p4516 p4517 f4518 (gB_w (gBl (show Int32.toInt 3 = 3 by decide)) (by decide) (by decide)) bp4517 bf4518 (by have qa0 : Int32.toInt 0 = 0 := (by decide); have qa1 : Int32.toInt 1 = 1 := (by decide); have qa2 : Int32.toInt 3 = 3 := (by decide); have qa3 : Int32.toInt 40 = 40 := (by decide); omega)) d_cX9_advance_168 ⟨w_3_41, w_1_4, w_3_44, by decide, rfl, (Nat.le_of_ble_eq_true rfl), (Nat.le_of_ble_eq_true rfl)⟩ w_3_43 w_p_3 0 rfl rfl [0, 1, 2] [] rfl rfl rfl rfl (by decide) (Nat.le_of_ble_eq_true rfl) (Nat.le_of_ble_eq_true rfl) (Nat.le_of_ble_eq_true rfl) (fun r w hp => ?_) (fun _ _ _ z => z.elim)
                obtain ⟨o4590, o4591, o4592, rfl, rfl, bo4590, bo4591, bo4592, x4593, ht4594⟩ := hp
                change G _ _ _ _ _ _ _ _ _ _ _
                refine G_ws (ws' := [(q4510, .inr (14, [.ref q4511, .int o4590, .int o4591, .int o4523, .int o4592])), (q4511, .inr (15, [.ref q4512, .int p4517])), (q4512, .inl (I .byte, 8192, .inl f4518))]) (cs' := 0) (sl' := 0) rfl rfl rfl ?_
                refine G_goto 194 d_cX9_advance_171 (by decide +kernel) ?_
                exact G_vret d_cX9_advance_194 rfl (Nat.le_of_ble_eq_true rfl) (Nat.le_of_ble_eq_true rfl) ⟨o4590, o4591, o4523, o4592, rfl, rfl, (gB_w bo4590 (by decide) (by decide)), bo4591, bo4523, bo4592, (by have qa0 : Int32.toInt 1 = 1 := (by decide); omega), (fun R c1 c2 c3 c4 c5 c6 c7 c8 c9 c10 c11 c12 c13 c14 c15 c16 c17 c18 c19 c20 c21 c22 c23 c24 c25 c26 c27 c28 c29 c30 c31 c32 c33 c34 c35 c36 c37 c38 c39 c40 c41 c42 c43 c44 => c7 o4523 o4525 z4527 o4528 o4532 o4571 o4590 o4591 o4592 r4522 bo4523 ht4524 bo4525 ht4526 ez4527 bo4528 ht4529 r4531 bo4532 ht4533 r4549 r4551 r4553 r4570 bo4571 ht4572 r4589 bo4590 ht4594)⟩
          · have r4595 : o4525.toInt = 118 := gj_eq hc4552 (show Int32.toInt 118 = 118 by decide)
            have bo4525'' : gB o4525 118 118 := ⟨by omega, by omega⟩
            refine G_iload_n 0 d_cX9_advance_134 rfl ?_
            refine G_callS (As := [.int o4528]) (wr := [(q4510, .inr (14, [.ref q4511, .int p4513, .int 0, .int o4523, .int p4516])), (q4511, .inr (15, [.ref q4512, .int p4517])), (q4512, .inl (I .byte, 8192, .inl f4518))]) (gV_ok D I) (ct_247_Signs_isDigit l hl0 D I o4528 ) d_cX9_advance_135 ⟨w_3_24, w_1_4, w_3_26, by decide, rfl, (Nat.le_of_ble_eq_true rfl), (Nat.le_of_ble_eq_true rfl)⟩ w_3_25 [] [0, 1, 2] rfl rfl rfl rfl (by decide) (Nat.le_of_ble_eq_true rfl) (Nat.le_of_ble_eq_true rfl) (Nat.le_of_ble_eq_true rfl) (fun r w hp => ?_) (fun _ _ _ z => z.elim)
            obtain ⟨o4596, rfl, rfl, bo4596, ht4597⟩ := hp
            change G _ _ _ _ _ _ _ (.int o4596 :: _) _ _ _
            refine G_ws (ws' := [(q4510, .inr (14, [.ref q4511, .int p4513, .int 0, .int o4523, .int p4516])), (q4511, .inr (15, [.ref q4512, .int p4517])), (q4512, .inl (I .byte, 8192, .inl f4518))]) (cs' := 0) (sl' := 0) rfl rfl rfl ?_
            refine G_if_eq 151 d_cX9_advance_138 (by decide +kernel) (fun hc4598 => ?_) (fun hc4598 => ?_)
            · have r4599 : o4596.toInt = 0 := gj_eq hc4598 (show Int32.toInt 0 = 0 by decide)
              have bo4596' : gB o4596 0 0 := ⟨by omega, by omega⟩
              refine G_iload_n 1 d_cX9_advance_151 rfl ?_
              refine G_bipush 98 d_cX9_advance_152 (by decide +kernel) ?_
              refine G_icmp_ne 174 d_cX9_advance_154 (by decide +kernel) (fun _ => ?_) (fun hc => absurd (show False by have := gj_eq hc (show Int32.toInt 98 = 98 by decide); omega) not_false)
              refine G_iload_n 1 d_cX9_advance_174 rfl ?_
              refine G_callS (As := [.int o4525]) (wr := [(q4510, .inr (14, [.ref q4511, .int p4513, .int 0, .int o4523, .int p4516])), (q4511, .inr (15, [.ref q4512, .int p4517])), (q4512, .inl (I .byte, 8192, .inl f4518))]) (gV_ok D I) (ct_256_Signs_isLetter l hl0 D I o4525 ) d_cX9_advance_175 ⟨w_3_45, w_1_4, w_3_47, by decide, rfl, (Nat.le_of_ble_eq_true rfl), (Nat.le_of_ble_eq_true rfl)⟩ w_3_46 [] [0, 1, 2] rfl rfl rfl rfl (by decide) (Nat.le_of_ble_eq_true rfl) (Nat.le_of_ble_eq_true rfl) (Nat.le_of_ble_eq_true rfl) (fun r w hp => ?_) (fun _ _ _ z => z.elim)
              obtain ⟨o4600, rfl, rfl, bo4600, ht4601⟩ := hp
              change G _ _ _ _ _ _ _ (.int o4600 :: _) _ _ _
              refine G_ws (ws' := [(q4510, .inr (14, [.ref q4511, .int p4513, .int 0, .int o4523, .int p4516])), (q4511, .inr (15, [.ref q4512, .int p4517])), (q4512, .inl (I .byte, 8192, .inl f4518))]) (cs' := 0) (sl' := 0) rfl rfl rfl ?_
              refine G_if_eq 188 d_cX9_advance_178 (by decide +kernel) (fun hc4602 => ?_) (fun hc4602 => ?_)
              · have r4603 : o4600.toInt = 0 := gj_eq hc4602 (show Int32.toInt 0 = 0 by decide)
                have bo4600' : gB o4600 0 0 := ⟨by omega, by omega⟩
                refine G_aload_n 3 d_cX9_advance_188 rfl ?_
                refine G_iload_n 1 d_cX9_advance_189 rfl ?_
                refine G_iload_n 0 d_cX9_advance_190 rfl ?_
                refine G_callV (As := [.int o4525, .int o4528]) (wr := []) (gV_ok D I) (ct_4473_Signs_takeMark l hl0 D I q4510 q4511 q4512 o4525 o4528 p4513 0 o4523 p4516 p4517 f4518 bp4517 bf4518 (by have qa0 : Int32.toInt 0 = 0 := (by decide); have qa1 : Int32.toInt 1 = 1 := (by decide); omega)) d_cX9_advance_191 ⟨w_3_109, w_1_4, w_3_112, by decide, rfl, (Nat.le_of_ble_eq_true rfl), (Nat.le_of_ble_eq_true rfl)⟩ w_3_111 w_p_6 0 rfl rfl [0, 1, 2] [] rfl rfl rfl rfl (by decide) (Nat.le_of_ble_eq_true rfl) (Nat.le_of_ble_eq_true rfl) (Nat.le_of_ble_eq_true rfl) (fun r w hp => ?_) (fun _ _ _ z => z.elim)
                obtain ⟨o4604, o4605, o4606, rfl, rfl, bo4604, bo4605, bo4606, x4607, ht4608⟩ := hp
                change G _ _ _ _ _ _ _ _ _ _ _
                refine G_ws (ws' := [(q4510, .inr (14, [.ref q4511, .int o4604, .int o4605, .int o4523, .int o4606])), (q4511, .inr (15, [.ref q4512, .int p4517])), (q4512, .inl (I .byte, 8192, .inl f4518))]) (cs' := 0) (sl' := 0) rfl rfl rfl ?_
                exact G_vret d_cX9_advance_194 rfl (Nat.le_of_ble_eq_true rfl) (Nat.le_of_ble_eq_true rfl) ⟨o4604, o4605, o4523, o4606, rfl, rfl, (gB_w bo4604 (by decide) (by decide)), (gB_w bo4605 (by decide) (by decide)), bo4523, bo4606, (by have qa0 : Int32.toInt 1 = 1 := (by decide); omega), (fun R c1 c2 c3 c4 c5 c6 c7 c8 c9 c10 c11 c12 c13 c14 c15 c16 c17 c18 c19 c20 c21 c22 c23 c24 c25 c26 c27 c28 c29 c30 c31 c32 c33 c34 c35 c36 c37 c38 c39 c40 c41 c42 c43 c44 => c8 o4523 o4525 z4527 o4528 o4532 o4596 o4600 o4604 o4605 o4606 r4522 bo4523 ht4524 bo4525 ht4526 ez4527 bo4528 ht4529 r4531 bo4532 ht4533 r4549 r4551 r4595 bo4596 ht4597 r4599 bo4600 ht4601 r4603 bo4604 bo4605 ht4608)⟩
              · have r4609 : o4600.toInt ≠ 0 := gj_neq hc4602 (show Int32.toInt 0 = 0 by decide)
                have bo4600' : gB o4600 1 1 := ⟨by omega, by omega⟩
                refine G_aload_n 3 d_cX9_advance_181 rfl ?_
                refine G_callV (As := []) (wr := []) (gV_ok D I) (ct_3904_Signs_takeWord l hl0 D I q4510 q4511 q4512 p4513 0 o4523 p4516 p4517 f4518 bp4517 bf4518 (by have qa0 : Int32.toInt 0 = 0 := (by decide); have qa1 : Int32.toInt 1 = 1 := (by decide); omega)) d_cX9_advance_182 ⟨w_3_48, w_1_4, w_3_51, by decide, rfl, (Nat.le_of_ble_eq_true rfl), (Nat.le_of_ble_eq_true rfl)⟩ w_3_50 w_p_4 0 rfl rfl [0, 1, 2] [] rfl rfl rfl rfl (by decide) (Nat.le_of_ble_eq_true rfl) (Nat.le_of_ble_eq_true rfl) (Nat.le_of_ble_eq_true rfl) (fun r w hp => ?_) (fun _ _ _ z => z.elim)
                obtain ⟨o4610, o4611, rfl, rfl, bo4610, bo4611, x4612, ht4613⟩ := hp
                rw [show Int32.toInt 0 = 0 from by decide] at x4612
                change G _ _ _ _ _ _ _ _ _ _ _
                refine G_ws (ws' := [(q4510, .inr (14, [.ref q4511, .int o4610, .int 0, .int o4523, .int o4611])), (q4511, .inr (15, [.ref q4512, .int p4517])), (q4512, .inl (I .byte, 8192, .inl f4518))]) (cs' := 0) (sl' := 0) rfl rfl rfl ?_
                refine G_goto 194 d_cX9_advance_185 (by decide +kernel) ?_
                exact G_vret d_cX9_advance_194 rfl (Nat.le_of_ble_eq_true rfl) (Nat.le_of_ble_eq_true rfl) ⟨o4610, 0, o4523, o4611, rfl, rfl, bo4610, (gB_w (gBl (show Int32.toInt 0 = 0 by decide)) (by decide) (by decide)), bo4523, bo4611, (by have qa0 : Int32.toInt 0 = 0 := (by decide); have qa1 : Int32.toInt 1 = 1 := (by decide); omega), (fun R c1 c2 c3 c4 c5 c6 c7 c8 c9 c10 c11 c12 c13 c14 c15 c16 c17 c18 c19 c20 c21 c22 c23 c24 c25 c26 c27 c28 c29 c30 c31 c32 c33 c34 c35 c36 c37 c38 c39 c40 c41 c42 c43 c44 => c9 o4523 o4525 z4527 o4528 o4532 o4596 o4600 o4610 o4611 r4522 bo4523 ht4524 bo4525 ht4526 ez4527 bo4528 ht4529 r4531 bo4532 ht4533 r4549 r4551 r4595 bo4596 ht4597 r4599 bo4600 ht4601 r4609 bo4610 ht4613)⟩
            · have r4614 : o4596.toInt ≠ 0 := gj_neq hc4598 (show Int32.toInt 0 = 0 by decide)
              have bo4596' : gB o4596 1 1 := ⟨by omega, by omega⟩
              refine G_aload_n 3 d_cX9_advance_141 rfl ?_
              refine G_iconst 2 d_cX9_advance_142 (by decide +kernel) ?_
              refine G_bipush 100 d_cX9_advance_143 (by decide +kernel) ?_
              refine G_callV (As := [.int 2, .int 100]) (wr := []) (gV_ok D I) (ct_513_Signs_takeNamed l hl0 D I q4510 q4511 q4512 2 100 p4513 0 o4523 p4516 p4517 f4518 (gB_w (gBl (show Int32.toInt 2 = 2 by decide)) (by decide) (by decide)) bp4517 bf4518 (by have qa0 : Int32.toInt 0 = 0 := (by decide); have qa1 : Int32.toInt 1 = 1 := (by decide); have qa2 : Int32.toInt 2 = 2 := (by decide); have qa3 : Int32.toInt 100 = 100 := (by decide); omega)) d_cX9_advance_145 ⟨w_3_41, w_1_4, w_3_44, by decide, rfl, (Nat.le_of_ble_eq_true rfl), (Nat.le_of_ble_eq_true rfl)⟩ w_3_43 w_p_3 0 rfl rfl [0, 1, 2] [] rfl rfl rfl rfl (by decide) (Nat.le_of_ble_eq_true rfl) (Nat.le_of_ble_eq_true rfl) (Nat.le_of_ble_eq_true rfl) (fun r w hp => ?_) (fun _ _ _ z => z.elim)
              obtain ⟨o4615, o4616, o4617, rfl, rfl, bo4615, bo4616, bo4617, x4618, ht4619⟩ := hp
              change G _ _ _ _ _ _ _ _ _ _ _
              refine G_ws (ws' := [(q4510, .inr (14, [.ref q4511, .int o4615, .int o4616, .int o4523, .int o4617])), (q4511, .inr (15, [.ref q4512, .int p4517])), (q4512, .inl (I .byte, 8192, .inl f4518))]) (cs' := 0) (sl' := 0) rfl rfl rfl ?_
              refine G_goto 194 d_cX9_advance_148 (by decide +kernel) ?_
              exact G_vret d_cX9_advance_194 rfl (Nat.le_of_ble_eq_true rfl) (Nat.le_of_ble_eq_true rfl) ⟨o4615, o4616, o4523, o4617, rfl, rfl, (gB_w bo4615 (by decide) (by decide)), bo4616, bo4523, bo4617, (by have qa0 : Int32.toInt 1 = 1 := (by decide); omega), (fun R c1 c2 c3 c4 c5 c6 c7 c8 c9 c10 c11 c12 c13 c14 c15 c16 c17 c18 c19 c20 c21 c22 c23 c24 c25 c26 c27 c28 c29 c30 c31 c32 c33 c34 c35 c36 c37 c38 c39 c40 c41 c42 c43 c44 => c10 o4523 o4525 z4527 o4528 o4532 o4596 o4615 o4616 o4617 r4522 bo4523 ht4524 bo4525 ht4526 ez4527 bo4528 ht4529 r4531 bo4532 ht4533 r4549 r4551 r4595 bo4596 ht4597 r4614 bo4615 ht4619)⟩
        · have r4620 : o4525.toInt = 45 := gj_eq hc4550 (show Int32.toInt 45 = 45 by decide)
          have bo4525'' : gB o4525 45 45 := ⟨by omega, by omega⟩
          refine G_iload_n 0 d_cX9_advance_99 rfl ?_
          refine G_callS (As := [.int o4528]) (wr := [(q4510, .inr (14, [.ref q4511, .int p4513, .int 0, .int o4523, .int p4516])), (q4511, .inr (15, [.ref q4512, .int p4517])), (q4512, .inl (I .byte, 8192, .inl f4518))]) (gV_ok D I) (ct_247_Signs_isDigit l hl0 D I o4528 ) d_cX9_advance_100 ⟨w_3_24, w_1_4, w_3_26, by decide, rfl, (Nat.le_of_ble_eq_true rfl), (Nat.le_of_ble_eq_true rfl)⟩ w_3_25 [] [0, 1, 2] rfl rfl rfl rfl (by decide) (Nat.le_of_ble_eq_true rfl) (Nat.le_of_ble_eq_true rfl) (Nat.le_of_ble_eq_true rfl) (fun r w hp => ?_) (fun _ _ _ z => z.elim)
          obtain ⟨o4621, rfl, rfl, bo4621, ht4622⟩ := hp
          change G _ _ _ _ _ _ _ (.int o4621 :: _) _ _ _
          refine G_ws (ws' := [(q4510, .inr (14, [.ref q4511, .int p4513, .int 0, .int o4523, .int p4516])), (q4511, .inr (15, [.ref q4512, .int p4517])), (q4512, .inl (I .byte, 8192, .inl f4518))]) (cs' := 0) (sl' := 0) rfl rfl rfl ?_
          refine G_if_eq 128 d_cX9_advance_103 (by decide +kernel) (fun hc4623 => ?_) (fun hc4623 => ?_)
          · have r4624 : o4621.toInt = 0 := gj_eq hc4623 (show Int32.toInt 0 = 0 by decide)
            have bo4621' : gB o4621 0 0 := ⟨by omega, by omega⟩
            refine G_iload_n 1 d_cX9_advance_128 rfl ?_
            refine G_bipush 118 d_cX9_advance_129 (by decide +kernel) ?_
            refine G_icmp_ne 151 d_cX9_advance_131 (by decide +kernel) (fun _ => ?_) (fun hc => absurd (show False by have := gj_eq hc (show Int32.toInt 118 = 118 by decide); omega) not_false)
            refine G_iload_n 1 d_cX9_advance_151 rfl ?_
            refine G_bipush 98 d_cX9_advance_152 (by decide +kernel) ?_
            refine G_icmp_ne 174 d_cX9_advance_154 (by decide +kernel) (fun _ => ?_) (fun hc => absurd (show False by have := gj_eq hc (show Int32.toInt 98 = 98 by decide); omega) not_false)
            refine G_iload_n 1 d_cX9_advance_174 rfl ?_
            refine G_callS (As := [.int o4525]) (wr := [(q4510, .inr (14, [.ref q4511, .int p4513, .int 0, .int o4523, .int p4516])), (q4511, .inr (15, [.ref q4512, .int p4517])), (q4512, .inl (I .byte, 8192, .inl f4518))]) (gV_ok D I) (ct_256_Signs_isLetter l hl0 D I o4525 ) d_cX9_advance_175 ⟨w_3_45, w_1_4, w_3_47, by decide, rfl, (Nat.le_of_ble_eq_true rfl), (Nat.le_of_ble_eq_true rfl)⟩ w_3_46 [] [0, 1, 2] rfl rfl rfl rfl (by decide) (Nat.le_of_ble_eq_true rfl) (Nat.le_of_ble_eq_true rfl) (Nat.le_of_ble_eq_true rfl) (fun r w hp => ?_) (fun _ _ _ z => z.elim)
            obtain ⟨o4625, rfl, rfl, bo4625, ht4626⟩ := hp
            change G _ _ _ _ _ _ _ (.int o4625 :: _) _ _ _
            refine G_ws (ws' := [(q4510, .inr (14, [.ref q4511, .int p4513, .int 0, .int o4523, .int p4516])), (q4511, .inr (15, [.ref q4512, .int p4517])), (q4512, .inl (I .byte, 8192, .inl f4518))]) (cs' := 0) (sl' := 0) rfl rfl rfl ?_
            refine G_if_eq 188 d_cX9_advance_178 (by decide +kernel) (fun hc4627 => ?_) (fun hc4627 => ?_)
            · have r4628 : o4625.toInt = 0 := gj_eq hc4627 (show Int32.toInt 0 = 0 by decide)
              have bo4625' : gB o4625 0 0 := ⟨by omega, by omega⟩
              refine G_aload_n 3 d_cX9_advance_188 rfl ?_
              refine G_iload_n 1 d_cX9_advance_189 rfl ?_
              refine G_iload_n 0 d_cX9_advance_190 rfl ?_
              refine G_callV (As := [.int o4525, .int o4528]) (wr := []) (gV_ok D I) (ct_4473_Signs_takeMark l hl0 D I q4510 q4511 q4512 o4525 o4528 p4513 0 o4523 p4516 p4517 f4518 bp4517 bf4518 (by have qa0 : Int32.toInt 0 = 0 := (by decide); have qa1 : Int32.toInt 1 = 1 := (by decide); omega)) d_cX9_advance_191 ⟨w_3_109, w_1_4, w_3_112, by decide, rfl, (Nat.le_of_ble_eq_true rfl), (Nat.le_of_ble_eq_true rfl)⟩ w_3_111 w_p_6 0 rfl rfl [0, 1, 2] [] rfl rfl rfl rfl (by decide) (Nat.le_of_ble_eq_true rfl) (Nat.le_of_ble_eq_true rfl) (Nat.le_of_ble_eq_true rfl) (fun r w hp => ?_) (fun _ _ _ z => z.elim)
              obtain ⟨o4629, o4630, o4631, rfl, rfl, bo4629, bo4630, bo4631, x4632, ht4633⟩ := hp
              change G _ _ _ _ _ _ _ _ _ _ _
              refine G_ws (ws' := [(q4510, .inr (14, [.ref q4511, .int o4629, .int o4630, .int o4523, .int o4631])), (q4511, .inr (15, [.ref q4512, .int p4517])), (q4512, .inl (I .byte, 8192, .inl f4518))]) (cs' := 0) (sl' := 0) rfl rfl rfl ?_
              exact G_vret d_cX9_advance_194 rfl (Nat.le_of_ble_eq_true rfl) (Nat.le_of_ble_eq_true rfl) ⟨o4629, o4630, o4523, o4631, rfl, rfl, (gB_w bo4629 (by decide) (by decide)), (gB_w bo4630 (by decide) (by decide)), bo4523, bo4631, (by have qa0 : Int32.toInt 1 = 1 := (by decide); omega), (fun R c1 c2 c3 c4 c5 c6 c7 c8 c9 c10 c11 c12 c13 c14 c15 c16 c17 c18 c19 c20 c21 c22 c23 c24 c25 c26 c27 c28 c29 c30 c31 c32 c33 c34 c35 c36 c37 c38 c39 c40 c41 c42 c43 c44 => c11 o4523 o4525 z4527 o4528 o4532 o4621 o4625 o4629 o4630 o4631 r4522 bo4523 ht4524 bo4525 ht4526 ez4527 bo4528 ht4529 r4531 bo4532 ht4533 r4549 r4620 bo4621 ht4622 r4624 bo4625 ht4626 r4628 bo4629 bo4630 ht4633)⟩
            · have r4634 : o4625.toInt ≠ 0 := gj_neq hc4627 (show Int32.toInt 0 = 0 by decide)
              have bo4625' : gB o4625 1 1 := ⟨by omega, by omega⟩
              refine G_aload_n 3 d_cX9_advance_181 rfl ?_
              refine G_callV (As := []) (wr := []) (gV_ok D I) (ct_3904_Signs_takeWord l hl0 D I q4510 q4511 q4512 p4513 0 o4523 p4516 p4517 f4518 bp4517 bf4518 (by have qa0 : Int32.toInt 0 = 0 := (by decide); have qa1 : Int32.toInt 1 = 1 := (by decide); omega)) d_cX9_advance_182 ⟨w_3_48, w_1_4, w_3_51, by decide, rfl, (Nat.le_of_ble_eq_true rfl), (Nat.le_of_ble_eq_true rfl)⟩ w_3_50 w_p_4 0 rfl rfl [0, 1, 2] [] rfl rfl rfl rfl (by decide) (Nat.le_of_ble_eq_true rfl) (Nat.le_of_ble_eq_true rfl) (Nat.le_of_ble_eq_true rfl) (fun r w hp => ?_) (fun _ _ _ z => z.elim)
              obtain ⟨o4635, o4636, rfl, rfl, bo4635, bo4636, x4637, ht4638⟩ := hp
              rw [show Int32.toInt 0 = 0 from by decide] at x4637
              change G _ _ _ _ _ _ _ _ _ _ _
              refine G_ws (ws' := [(q4510, .inr (14, [.ref q4511, .int o4635, .int 0, .int o4523, .int o4636])), (q4511, .inr (15, [.ref q4512, .int p4517])), (q4512, .inl (I .byte, 8192, .inl f4518))]) (cs' := 0) (sl' := 0) rfl rfl rfl ?_
              refine G_goto 194 d_cX9_advance_185 (by decide +kernel) ?_
              exact G_vret d_cX9_advance_194 rfl (Nat.le_of_ble_eq_true rfl) (Nat.le_of_ble_eq_true rfl) ⟨o4635, 0, o4523, o4636, rfl, rfl, bo4635, (gB_w (gBl (show Int32.toInt 0 = 0 by decide)) (by decide) (by decide)), bo4523, bo4636, (by have qa0 : Int32.toInt 0 = 0 := (by decide); have qa1 : Int32.toInt 1 = 1 := (by decide); omega), (fun R c1 c2 c3 c4 c5 c6 c7 c8 c9 c10 c11 c12 c13 c14 c15 c16 c17 c18 c19 c20 c21 c22 c23 c24 c25 c26 c27 c28 c29 c30 c31 c32 c33 c34 c35 c36 c37 c38 c39 c40 c41 c42 c43 c44 => c12 o4523 o4525 z4527 o4528 o4532 o4621 o4625 o4635 o4636 r4522 bo4523 ht4524 bo4525 ht4526 ez4527 bo4528 ht4529 r4531 bo4532 ht4533 r4549 r4620 bo4621 ht4622 r4624 bo4625 ht4626 r4634 bo4635 ht4638)⟩
          · have r4639 : o4621.toInt ≠ 0 := gj_neq hc4623 (show Int32.toInt 0 = 0 by decide)
            have bo4621' : gB o4621 1 1 := ⟨by omega, by omega⟩
            refine G_iload_n 2 d_cX9_advance_106 rfl ?_
            refine G_if_ne 128 d_cX9_advance_107 (by decide +kernel) (fun _ => ?_) (fun hc => absurd hc (by decide))
            refine G_iload_n 1 d_cX9_advance_128 rfl ?_
            refine G_bipush 118 d_cX9_advance_129 (by decide +kernel) ?_
            refine G_icmp_ne 151 d_cX9_advance_131 (by decide +kernel) (fun _ => ?_) (fun hc => absurd (show False by have := gj_eq hc (show Int32.toInt 118 = 118 by decide); omega) not_false)
            refine G_iload_n 1 d_cX9_advance_151 rfl ?_
            refine G_bipush 98 d_cX9_advance_152 (by decide +kernel) ?_
            refine G_icmp_ne 174 d_cX9_advance_154 (by decide +kernel) (fun _ => ?_) (fun hc => absurd (show False by have := gj_eq hc (show Int32.toInt 98 = 98 by decide); omega) not_false)
            refine G_iload_n 1 d_cX9_advance_174 rfl ?_
            refine G_callS (As := [.int o4525]) (wr := [(q4510, .inr (14, [.ref q4511, .int p4513, .int 0, .int o4523, .int p4516])), (q4511, .inr (15, [.ref q4512, .int p4517])), (q4512, .inl (I .byte, 8192, .inl f4518))]) (gV_ok D I) (ct_256_Signs_isLetter l hl0 D I o4525 ) d_cX9_advance_175 ⟨w_3_45, w_1_4, w_3_47, by decide, rfl, (Nat.le_of_ble_eq_true rfl), (Nat.le_of_ble_eq_true rfl)⟩ w_3_46 [] [0, 1, 2] rfl rfl rfl rfl (by decide) (Nat.le_of_ble_eq_true rfl) (Nat.le_of_ble_eq_true rfl) (Nat.le_of_ble_eq_true rfl) (fun r w hp => ?_) (fun _ _ _ z => z.elim)
            obtain ⟨o4640, rfl, rfl, bo4640, ht4641⟩ := hp
            change G _ _ _ _ _ _ _ (.int o4640 :: _) _ _ _
            refine G_ws (ws' := [(q4510, .inr (14, [.ref q4511, .int p4513, .int 0, .int o4523, .int p4516])), (q4511, .inr (15, [.ref q4512, .int p4517])), (q4512, .inl (I .byte, 8192, .inl f4518))]) (cs' := 0) (sl' := 0) rfl rfl rfl ?_
            refine G_if_eq 188 d_cX9_advance_178 (by decide +kernel) (fun hc4642 => ?_) (fun hc4642 => ?_)
            · have r4643 : o4640.toInt = 0 := gj_eq hc4642 (show Int32.toInt 0 = 0 by decide)
              have bo4640' : gB o4640 0 0 := ⟨by omega, by omega⟩
              refine G_aload_n 3 d_cX9_advance_188 rfl ?_
              refine G_iload_n 1 d_cX9_advance_189 rfl ?_
              refine G_iload_n 0 d_cX9_advance_190 rfl ?_
              refine G_callV (As := [.int o4525, .int o4528]) (wr := []) (gV_ok D I) (ct_4473_Signs_takeMark l hl0 D I q4510 q4511 q4512 o4525 o4528 p4513 0 o4523 p4516 p4517 f4518 bp4517 bf4518 (by have qa0 : Int32.toInt 0 = 0 := (by decide); have qa1 : Int32.toInt 1 = 1 := (by decide); omega)) d_cX9_advance_191 ⟨w_3_109, w_1_4, w_3_112, by decide, rfl, (Nat.le_of_ble_eq_true rfl), (Nat.le_of_ble_eq_true rfl)⟩ w_3_111 w_p_6 0 rfl rfl [0, 1, 2] [] rfl rfl rfl rfl (by decide) (Nat.le_of_ble_eq_true rfl) (Nat.le_of_ble_eq_true rfl) (Nat.le_of_ble_eq_true rfl) (fun r w hp => ?_) (fun _ _ _ z => z.elim)
              obtain ⟨o4644, o4645, o4646, rfl, rfl, bo4644, bo4645, bo4646, x4647, ht4648⟩ := hp
              change G _ _ _ _ _ _ _ _ _ _ _
              refine G_ws (ws' := [(q4510, .inr (14, [.ref q4511, .int o4644, .int o4645, .int o4523, .int o4646])), (q4511, .inr (15, [.ref q4512, .int p4517])), (q4512, .inl (I .byte, 8192, .inl f4518))]) (cs' := 0) (sl' := 0) rfl rfl rfl ?_
              exact G_vret d_cX9_advance_194 rfl (Nat.le_of_ble_eq_true rfl) (Nat.le_of_ble_eq_true rfl) ⟨o4644, o4645, o4523, o4646, rfl, rfl, (gB_w bo4644 (by decide) (by decide)), (gB_w bo4645 (by decide) (by decide)), bo4523, bo4646, (by have qa0 : Int32.toInt 1 = 1 := (by decide); omega), (fun R c1 c2 c3 c4 c5 c6 c7 c8 c9 c10 c11 c12 c13 c14 c15 c16 c17 c18 c19 c20 c21 c22 c23 c24 c25 c26 c27 c28 c29 c30 c31 c32 c33 c34 c35 c36 c37 c38 c39 c40 c41 c42 c43 c44 => c13 o4523 o4525 z4527 o4528 o4532 o4621 o4640 o4644 o4645 o4646 r4522 bo4523 ht4524 bo4525 ht4526 ez4527 bo4528 ht4529 r4531 bo4532 ht4533 r4549 r4620 bo4621 ht4622 r4639 bo4640 ht4641 r4643 bo4644 bo4645 ht4648)⟩
            · have r4649 : o4640.toInt ≠ 0 := gj_neq hc4642 (show Int32.toInt 0 = 0 by decide)
              have bo4640' : gB o4640 1 1 := ⟨by omega, by omega⟩
              refine G_aload_n 3 d_cX9_advance_181 rfl ?_
              refine G_callV (As := []) (wr := []) (gV_ok D I) (ct_3904_Signs_takeWord l hl0 D I q4510 q4511 q4512 p4513 0 o4523 p4516 p4517 f4518 bp4517 bf4518 (by have qa0 : Int32.toInt 0 = 0 := (by decide); have qa1 : Int32.toInt 1 = 1 := (by decide); omega)) d_cX9_advance_182 ⟨w_3_48, w_1_4, w_3_51, by decide, rfl, (Nat.le_of_ble_eq_true rfl), (Nat.le_of_ble_eq_true rfl)⟩ w_3_50 w_p_4 0 rfl rfl [0, 1, 2] [] rfl rfl rfl rfl (by decide) (Nat.le_of_ble_eq_true rfl) (Nat.le_of_ble_eq_true rfl) (Nat.le_of_ble_eq_true rfl) (fun r w hp => ?_) (fun _ _ _ z => z.elim)
              obtain ⟨o4650, o4651, rfl, rfl, bo4650, bo4651, x4652, ht4653⟩ := hp
              rw [show Int32.toInt 0 = 0 from by decide] at x4652
              change G _ _ _ _ _ _ _ _ _ _ _
              refine G_ws (ws' := [(q4510, .inr (14, [.ref q4511, .int o4650, .int 0, .int o4523, .int o4651])), (q4511, .inr (15, [.ref q4512, .int p4517])), (q4512, .inl (I .byte, 8192, .inl f4518))]) (cs' := 0) (sl' := 0) rfl rfl rfl ?_
              refine G_goto 194 d_cX9_advance_185 (by decide +kernel) ?_
              exact G_vret d_cX9_advance_194 rfl (Nat.le_of_ble_eq_true rfl) (Nat.le_of_ble_eq_true rfl) ⟨o4650, 0, o4523, o4651, rfl, rfl, bo4650, (gB_w (gBl (show Int32.toInt 0 = 0 by decide)) (by decide) (by decide)), bo4523, bo4651, (by have qa0 : Int32.toInt 0 = 0 := (by decide); have qa1 : Int32.toInt 1 = 1 := (by decide); omega), (fun R c1 c2 c3 c4 c5 c6 c7 c8 c9 c10 c11 c12 c13 c14 c15 c16 c17 c18 c19 c20 c21 c22 c23 c24 c25 c26 c27 c28 c29 c30 c31 c32 c33 c34 c35 c36 c37 c38 c39 c40 c41 c42 c43 c44 => c14 o4523 o4525 z4527 o4528 o4532 o4621 o4640 o4650 o4651 r4522 bo4523 ht4524 bo4525 ht4526 ez4527 bo4528 ht4529 r4531 bo4532 ht4533 r4549 r4620 bo4621 ht4622 r4639 bo4640 ht4641 r4649 bo4650 ht4653)⟩
    · have r4654 : o4525.toInt = (-1) := gj_eq hc4530 (show Int32.toInt (-1) = (-1) by decide)
      have bo4525' : gB o4525 (-1) (-1) := ⟨by omega, by omega⟩
      refine G_aload_n 3 d_cX9_advance_70 rfl ?_
      refine G_iconst 1 d_cX9_advance_71 (by decide +kernel) ?_
      refine G_putf (ws' := [(q4510, .inr (14, [.ref q4511, .int 1, .int 0, .int o4523, .int p4516])), (q4511, .inr (15, [.ref q4512, .int p4517])), (q4512, .inl (I .byte, 8192, .inl f4518))]) 0 1 d_cX9_advance_72 rfl (gk_X9 D I) (Nat.le_of_ble_eq_true rfl) w_1_80 rfl rfl rfl (Nat.le_of_ble_eq_true rfl) rfl ?_
      refine G_aload_n 3 d_cX9_advance_75 rfl ?_
      refine G_aload_n 3 d_cX9_advance_76 rfl ?_
      refine G_getf 0 3 d_cX9_advance_77 rfl (gk_X9 D I) (Nat.le_of_ble_eq_true rfl) w_1_82 rfl ?_
      refine G_putf (ws' := [(q4510, .inr (14, [.ref q4511, .int 1, .int 0, .int o4523, .int o4523])), (q4511, .inr (15, [.ref q4512, .int p4517])), (q4512, .inl (I .byte, 8192, .inl f4518))]) 0 4 d_cX9_advance_80 rfl (gk_X9 D I) (Nat.le_of_ble_eq_true rfl) w_1_83 rfl rfl rfl (Nat.le_of_ble_eq_true rfl) rfl ?_
      refine G_goto 194 d_cX9_advance_83 (by decide +kernel) ?_
      exact G_vret d_cX9_advance_194 rfl (Nat.le_of_ble_eq_true rfl) (Nat.le_of_ble_eq_true rfl) ⟨1, 0, o4523, o4523, rfl, rfl, (gB_w (gBl (show Int32.toInt 1 = 1 by decide)) (by decide) (by decide)), (gB_w (gBl (show Int32.toInt 0 = 0 by decide)) (by decide) (by decide)), bo4523, (gB_w bo4523 (by decide) (by decide)), (by have qa0 : Int32.toInt 0 = 0 := (by decide); have qa1 : Int32.toInt 1 = 1 := (by decide); omega), (fun R c1 c2 c3 c4 c5 c6 c7 c8 c9 c10 c11 c12 c13 c14 c15 c16 c17 c18 c19 c20 c21 c22 c23 c24 c25 c26 c27 c28 c29 c30 c31 c32 c33 c34 c35 c36 c37 c38 c39 c40 c41 c42 c43 c44 => c15 o4523 o4525 z4527 o4528 r4522 bo4523 ht4524 bo4525 ht4526 ez4527 bo4528 ht4529 r4654)⟩
  · have r4655 : p4513.toInt ≠ 2 := gj_neq hc4521 (show Int32.toInt 2 = 2 by decide)
    refine G_aload_n 0 d_cX9_advance_8 rfl ?_
    refine G_getf 0 1 d_cX9_advance_9 rfl (gk_X9 D I) (Nat.le_of_ble_eq_true rfl) w_1_80 rfl ?_
    refine G_iconst 4 d_cX9_advance_12 (by decide +kernel) ?_
    refine G_icmp_ne 20 d_cX9_advance_13 (by decide +kernel) (fun hc4656 => ?_) (fun hc4656 => ?_)
    · have r4657 : p4513.toInt ≠ 4 := gj_neq hc4656 (show Int32.toInt 4 = 4 by decide)
      refine G_iconst 0 d_cX9_advance_20 (by decide +kernel) ?_
      refine G_istore_n (L' := [(1, .int 0), (0, .ref q4510)]) d_cX9_advance_21 (Nat.le_of_ble_eq_true rfl) rfl ?_
      refine G_aload_n 1 d_cX9_advance_22 rfl ?_
      refine G_aload_n 1 d_cX9_advance_23 rfl ?_
      refine G_aload_n 1 d_cX9_advance_24 rfl ?_
      refine G_getf 0 4 d_cX9_advance_25 rfl (gk_X9 D I) (Nat.le_of_ble_eq_true rfl) w_1_83 rfl ?_
      refine G_callV (As := [.int p4516]) (wr := []) (gV_ok D I) (ct_275_Signs_skipBlanks l hl0 D I q4510 q4511 q4512 p4516 p4513 p4514 p4515 p4516 p4517 f4518 bp4517 bf4518 (by have qa0 : Int32.toInt 0 = 0 := (by decide); omega)) d_cX9_advance_28 ⟨w_3_12, w_1_4, w_3_15, by decide, rfl, (Nat.le_of_ble_eq_true rfl), (Nat.le_of_ble_eq_true rfl)⟩ w_3_14 w_p_0 0 rfl rfl [0, 1, 2] [] rfl rfl rfl rfl (by decide) (Nat.le_of_ble_eq_true rfl) (Nat.le_of_ble_eq_true rfl) (Nat.le_of_ble_eq_true rfl) (fun r w hp => ?_) (fun _ _ _ z => z.elim)
      obtain ⟨o4658, rfl, rfl, bo4658, ht4659⟩ := hp
      change G _ _ _ _ _ _ _ (.int o4658 :: _) _ _ _
      refine G_ws (ws' := [(q4510, .inr (14, [.ref q4511, .int p4513, .int p4514, .int p4515, .int p4516])), (q4511, .inr (15, [.ref q4512, .int p4517])), (q4512, .inl (I .byte, 8192, .inl f4518))]) (cs' := 0) (sl' := 0) rfl rfl rfl ?_
      refine G_putf (ws' := [(q4510, .inr (14, [.ref q4511, .int p4513, .int p4514, .int o4658, .int p4516])), (q4511, .inr (15, [.ref q4512, .int p4517])), (q4512, .inl (I .byte, 8192, .inl f4518))]) 0 3 d_cX9_advance_31 rfl (gk_X9 D I) (Nat.le_of_ble_eq_true rfl) w_1_82 rfl rfl rfl (Nat.le_of_ble_eq_true rfl) rfl ?_
      refine G_aload_n 1 d_cX9_advance_34 rfl ?_
      refine G_getf 0 0 d_cX9_advance_35 rfl (gk_X9 D I) (Nat.le_of_ble_eq_true rfl) w_1_79 rfl ?_
      refine G_aload_n 1 d_cX9_advance_38 rfl ?_
      refine G_getf 0 3 d_cX9_advance_39 rfl (gk_X9 D I) (Nat.le_of_ble_eq_true rfl) w_1_82 rfl ?_
      refine G_callV (As := [.int o4658]) (wr := [(q4510, .inr (14, [.ref q4511, .int p4513, .int p4514, .int o4658, .int p4516]))]) (gV_ok D I) (ct_31_Tape_byteAt l hl0 D I q4511 q4512 o4658 p4517 f4518 bp4517 bf4518) d_cX9_advance_42 ⟨w_3_20, w_1_2, w_3_23, by decide, rfl, (Nat.le_of_ble_eq_true rfl), (Nat.le_of_ble_eq_true rfl)⟩ w_3_21 w_3_22 1 rfl rfl [1, 2] [0] rfl rfl rfl rfl (by decide) (Nat.le_of_ble_eq_true rfl) (Nat.le_of_ble_eq_true rfl) (Nat.le_of_ble_eq_true rfl) (fun r w hp => ?_) (fun _ _ _ z => z.elim)
      obtain ⟨o4660, rfl, rfl, bo4660, ht4661⟩ := hp
      change G _ _ _ _ _ _ _ (.int o4660 :: _) _ _ _
      refine G_ws (ws' := [(q4510, .inr (14, [.ref q4511, .int p4513, .int p4514, .int o4658, .int p4516])), (q4511, .inr (15, [.ref q4512, .int p4517])), (q4512, .inl (I .byte, 8192, .inl f4518))]) (cs' := 0) (sl' := 0) rfl rfl rfl ?_
      refine G_istore_n (L' := [(2, .int o4660), (1, .int 0), (0, .ref q4510)]) d_cX9_advance_45 (Nat.le_of_ble_eq_true rfl) rfl ?_
      refine G_aload_n 2 d_cX9_advance_46 rfl ?_
      refine G_getf 0 0 d_cX9_advance_47 rfl (gk_X9 D I) (Nat.le_of_ble_eq_true rfl) w_1_79 rfl ?_
      refine G_aload_n 2 d_cX9_advance_50 rfl ?_
      refine G_getf 0 3 d_cX9_advance_51 rfl (gk_X9 D I) (Nat.le_of_ble_eq_true rfl) w_1_82 rfl ?_
      refine G_iconst 1 d_cX9_advance_54 (by decide +kernel) ?_
      refine G_iadd d_cX9_advance_55 (G_nam fun z4662 hz4662 => ?_)
      have ez4662 : z4662.toInt = o4658.toInt + 1 := by rw [gI_add hz4662 bo4658 (gBl (show Int32.toInt 1 = 1 by decide)) (by decide) (by decide), show Int32.toInt 1 = 1 from by decide]
      have bz4662 : gB z4662 (-2147483647) 8193 := gB_add (gI_add hz4662 bo4658 (gBl (show Int32.toInt 1 = 1 by decide)) (by decide) (by decide)) bo4658 (gBl (show Int32.toInt 1 = 1 by decide)) (by decide) (by decide)
      refine G_callV (As := [.int z4662]) (wr := [(q4510, .inr (14, [.ref q4511, .int p4513, .int p4514, .int o4658, .int p4516]))]) (gV_ok D I) (ct_31_Tape_byteAt l hl0 D I q4511 q4512 z4662 p4517 f4518 bp4517 bf4518) d_cX9_advance_56 ⟨w_3_20, w_1_2, w_3_23, by decide, rfl, (Nat.le_of_ble_eq_true rfl), (Nat.le_of_ble_eq_true rfl)⟩ w_3_21 w_3_22 1 rfl rfl [1, 2] [0] rfl rfl rfl rfl (by decide) (Nat.le_of_ble_eq_true rfl) (Nat.le_of_ble_eq_true rfl) (Nat.le_of_ble_eq_true rfl) (fun r w hp => ?_) (fun _ _ _ z => z.elim)
      obtain ⟨o4663, rfl, rfl, bo4663, ht4664⟩ := hp
      change G _ _ _ _ _ _ _ (.int o4663 :: _) _ _ _
      refine G_ws (ws' := [(q4510, .inr (14, [.ref q4511, .int p4513, .int p4514, .int o4658, .int p4516])), (q4511, .inr (15, [.ref q4512, .int p4517])), (q4512, .inl (I .byte, 8192, .inl f4518))]) (cs' := 0) (sl' := 0) rfl rfl rfl ?_
      refine G_istore_n (L' := [(3, .int o4663), (2, .int o4660), (1, .int 0), (0, .ref q4510)]) d_cX9_advance_59 (Nat.le_of_ble_eq_true rfl) rfl ?_
      refine G_aload_n 3 d_cX9_advance_60 rfl ?_
      refine G_iconst 0 d_cX9_advance_61 (by decide +kernel) ?_
      refine G_putf (ws' := [(q4510, .inr (14, [.ref q4511, .int p4513, .int 0, .int o4658, .int p4516])), (q4511, .inr (15, [.ref q4512, .int p4517])), (q4512, .inl (I .byte, 8192, .inl f4518))]) 0 2 d_cX9_advance_62 rfl (gk_X9 D I) (Nat.le_of_ble_eq_true rfl) w_1_81 rfl rfl rfl (Nat.le_of_ble_eq_true rfl) rfl ?_
      refine G_iload_n 1 d_cX9_advance_65 rfl ?_
      refine G_iconst (-1) d_cX9_advance_66 (by decide +kernel) ?_
      refine G_icmp_ne 86 d_cX9_advance_67 (by decide +kernel) (fun hc4665 => ?_) (fun hc4665 => ?_)
      · have r4666 : o4660.toInt ≠ (-1) := gj_neq hc4665 (show Int32.toInt (-1) = (-1) by decide)
        have bo4660' : gB o4660 0 255 := ⟨by omega, by omega⟩
        refine G_iload_n 1 d_cX9_advance_86 rfl ?_
        refine G_callS (As := [.int o4660]) (wr := [(q4510, .inr (14, [.ref q4511, .int p4513, .int 0, .int o4658, .int p4516])), (q4511, .inr (15, [.ref q4512, .int p4517])), (q4512, .inl (I .byte, 8192, .inl f4518))]) (gV_ok D I) (ct_247_Signs_isDigit l hl0 D I o4660 ) d_cX9_advance_87 ⟨w_3_24, w_1_4, w_3_26, by decide, rfl, (Nat.le_of_ble_eq_true rfl), (Nat.le_of_ble_eq_true rfl)⟩ w_3_25 [] [0, 1, 2] rfl rfl rfl rfl (by decide) (Nat.le_of_ble_eq_true rfl) (Nat.le_of_ble_eq_true rfl) (Nat.le_of_ble_eq_true rfl) (fun r w hp => ?_) (fun _ _ _ z => z.elim)
        obtain ⟨o4667, rfl, rfl, bo4667, ht4668⟩ := hp
        change G _ _ _ _ _ _ _ (.int o4667 :: _) _ _ _
        refine G_ws (ws' := [(q4510, .inr (14, [.ref q4511, .int p4513, .int 0, .int o4658, .int p4516])), (q4511, .inr (15, [.ref q4512, .int p4517])), (q4512, .inl (I .byte, 8192, .inl f4518))]) (cs' := 0) (sl' := 0) rfl rfl rfl ?_
        refine G_if_ne 110 d_cX9_advance_90 (by decide +kernel) (fun hc4669 => ?_) (fun hc4669 => ?_)
        · have r4670 : o4667.toInt ≠ 0 := gj_neq hc4669 (show Int32.toInt 0 = 0 by decide)
          have bo4667' : gB o4667 1 1 := ⟨by omega, by omega⟩
          refine G_aload_n 3 d_cX9_advance_110 rfl ?_
          refine G_iload_n 1 d_cX9_advance_111 rfl ?_
          refine G_bipush 45 d_cX9_advance_112 (by decide +kernel) ?_
          refine G_icmp_ne 121 d_cX9_advance_114 (by decide +kernel) (fun hc4671 => ?_) (fun hc4671 => ?_)
          · have r4672 : o4660.toInt ≠ 45 := gj_neq hc4671 (show Int32.toInt 45 = 45 by decide)
            refine G_iconst 0 d_cX9_advance_121 (by decide +kernel) ?_
            refine G_callV (As := [.int 0]) (wr := []) (gV_ok D I) (ct_474_Signs_takeNumber l hl0 D I q4510 q4511 q4512 0 p4513 0 o4658 p4516 p4517 f4518 (gB_w (gBl (show Int32.toInt 0 = 0 by decide)) (by decide) (by decide)) bp4517 bf4518 (by have qa0 : Int32.toInt 0 = 0 := (by decide); omega)) d_cX9_advance_122 ⟨w_3_27, w_1_4, w_3_30, by decide, rfl, (Nat.le_of_ble_eq_true rfl), (Nat.le_of_ble_eq_true rfl)⟩ w_3_29 w_p_1 0 rfl rfl [0, 1, 2] [] rfl rfl rfl rfl (by decide) (Nat.le_of_ble_eq_true rfl) (Nat.le_of_ble_eq_true rfl) (Nat.le_of_ble_eq_true rfl) (fun r w hp => ?_) (fun _ _ _ z => z.elim)
            obtain ⟨o4673, o4674, o4675, rfl, rfl, bo4673, bo4674, bo4675, x4676, ht4677⟩ := hp
            change G _ _ _ _ _ _ _ _ _ _ _
            refine G_ws (ws' := [(q4510, .inr (14, [.ref q4511, .int o4673, .int o4674, .int o4658, .int o4675])), (q4511, .inr (15, [.ref q4512, .int p4517])), (q4512, .inl (I .byte, 8192, .inl f4518))]) (cs' := 0) (sl' := 0) rfl rfl rfl ?_
            refine G_goto 194 d_cX9_advance_125 (by decide +kernel) ?_
            exact G_vret d_cX9_advance_194 rfl (Nat.le_of_ble_eq_true rfl) (Nat.le_of_ble_eq_true rfl) ⟨o4673, o4674, o4658, o4675, rfl, rfl, (gB_w bo4673 (by decide) (by decide)), bo4674, bo4658, bo4675, (by have qa0 : Int32.toInt 0 = 0 := (by decide); omega), (fun R c1 c2 c3 c4 c5 c6 c7 c8 c9 c10 c11 c12 c13 c14 c15 c16 c17 c18 c19 c20 c21 c22 c23 c24 c25 c26 c27 c28 c29 c30 c31 c32 c33 c34 c35 c36 c37 c38 c39 c40 c41 c42 c43 c44 => c16 o4658 o4660 z4662 o4663 o4667 o4673 o4674 o4675 r4655 r4657 bo4658 ht4659 bo4660 ht4661 ez4662 bo4663 ht4664 r4666 bo4667 ht4668 r4670 r4672 bo4673 ht4677)⟩
          · have r4678 : o4660.toInt = 45 := gj_eq hc4671 (show Int32.toInt 45 = 45 by decide)
            have bo4660'' : gB o4660 45 45 := ⟨by omega, by omega⟩
            refine G_iconst 1 d_cX9_advance_117 (by decide +kernel) ?_
            refine G_goto 122 d_cX9_advance_118 (by decide +kernel) ?_
            refine G_callV (As := [.int 1]) (wr := []) (gV_ok D I) (ct_474_Signs_takeNumber l hl0 D I q4510 q4511 q4512 1 p4513 0 o4658 p4516 p4517 f4518 (gB_w (gBl (show Int32.toInt 1 = 1 by decide)) (by decide) (by decide)) bp4517 bf4518 (by have qa0 : Int32.toInt 0 = 0 := (by decide); have qa1 : Int32.toInt 1 = 1 := (by decide); omega)) d_cX9_advance_122 ⟨w_3_27, w_1_4, w_3_30, by decide, rfl, (Nat.le_of_ble_eq_true rfl), (Nat.le_of_ble_eq_true rfl)⟩ w_3_29 w_p_1 0 rfl rfl [0, 1, 2] [] rfl rfl rfl rfl (by decide) (Nat.le_of_ble_eq_true rfl) (Nat.le_of_ble_eq_true rfl) (Nat.le_of_ble_eq_true rfl) (fun r w hp => ?_) (fun _ _ _ z => z.elim)
            obtain ⟨o4679, o4680, o4681, rfl, rfl, bo4679, bo4680, bo4681, x4682, ht4683⟩ := hp
            change G _ _ _ _ _ _ _ _ _ _ _
            refine G_ws (ws' := [(q4510, .inr (14, [.ref q4511, .int o4679, .int o4680, .int o4658, .int o4681])), (q4511, .inr (15, [.ref q4512, .int p4517])), (q4512, .inl (I .byte, 8192, .inl f4518))]) (cs' := 0) (sl' := 0) rfl rfl rfl ?_
            refine G_goto 194 d_cX9_advance_125 (by decide +kernel) ?_
            exact G_vret d_cX9_advance_194 rfl (Nat.le_of_ble_eq_true rfl) (Nat.le_of_ble_eq_true rfl) ⟨o4679, o4680, o4658, o4681, rfl, rfl, (gB_w bo4679 (by decide) (by decide)), bo4680, bo4658, bo4681, (by have qa0 : Int32.toInt 0 = 0 := (by decide); omega), (fun R c1 c2 c3 c4 c5 c6 c7 c8 c9 c10 c11 c12 c13 c14 c15 c16 c17 c18 c19 c20 c21 c22 c23 c24 c25 c26 c27 c28 c29 c30 c31 c32 c33 c34 c35 c36 c37 c38 c39 c40 c41 c42 c43 c44 => c17 o4658 o4660 z4662 o4663 o4667 o4679 o4680 o4681 r4655 r4657 bo4658 ht4659 bo4660 ht4661 ez4662 bo4663 ht4664 r4666 bo4667 ht4668 r4670 r4678 bo4679 ht4683)⟩
        · have r4684 : o4667.toInt = 0 := gj_eq hc4669 (show Int32.toInt 0 = 0 by decide)
          have bo4667' : gB o4667 0 0 := ⟨by omega, by omega⟩
          refine G_iload_n 1 d_cX9_advance_93 rfl ?_
          refine G_bipush 45 d_cX9_advance_94 (by decide +kernel) ?_
          refine G_icmp_ne 128 d_cX9_advance_96 (by decide +kernel) (fun hc4685 => ?_) (fun hc4685 => ?_)
          · have r4686 : o4660.toInt ≠ 45 := gj_neq hc4685 (show Int32.toInt 45 = 45 by decide)
            refine G_iload_n 1 d_cX9_advance_128 rfl ?_
            refine G_bipush 118 d_cX9_advance_129 (by decide +kernel) ?_
            refine G_icmp_ne 151 d_cX9_advance_131 (by decide +kernel) (fun hc4687 => ?_) (fun hc4687 => ?_)
            · have r4688 : o4660.toInt ≠ 118 := gj_neq hc4687 (show Int32.toInt 118 = 118 by decide)
              refine G_iload_n 1 d_cX9_advance_151 rfl ?_
              refine G_bipush 98 d_cX9_advance_152 (by decide +kernel) ?_
              refine G_icmp_ne 174 d_cX9_advance_154 (by decide +kernel) (fun hc4689 => ?_) (fun hc4689 => ?_)
              · have r4690 : o4660.toInt ≠ 98 := gj_neq hc4689 (show Int32.toInt 98 = 98 by decide)
                refine G_iload_n 1 d_cX9_advance_174 rfl ?_
                refine G_callS (As := [.int o4660]) (wr := [(q4510, .inr (14, [.ref q4511, .int p4513, .int 0, .int o4658, .int p4516])), (q4511, .inr (15, [.ref q4512, .int p4517])), (q4512, .inl (I .byte, 8192, .inl f4518))]) (gV_ok D I) (ct_256_Signs_isLetter l hl0 D I o4660 ) d_cX9_advance_175 ⟨w_3_45, w_1_4, w_3_47, by decide, rfl, (Nat.le_of_ble_eq_true rfl), (Nat.le_of_ble_eq_true rfl)⟩ w_3_46 [] [0, 1, 2] rfl rfl rfl rfl (by decide) (Nat.le_of_ble_eq_true rfl) (Nat.le_of_ble_eq_true rfl) (Nat.le_of_ble_eq_true rfl) (fun r w hp => ?_) (fun _ _ _ z => z.elim)
                obtain ⟨o4691, rfl, rfl, bo4691, ht4692⟩ := hp
                change G _ _ _ _ _ _ _ (.int o4691 :: _) _ _ _
                refine G_ws (ws' := [(q4510, .inr (14, [.ref q4511, .int p4513, .int 0, .int o4658, .int p4516])), (q4511, .inr (15, [.ref q4512, .int p4517])), (q4512, .inl (I .byte, 8192, .inl f4518))]) (cs' := 0) (sl' := 0) rfl rfl rfl ?_
                refine G_if_eq 188 d_cX9_advance_178 (by decide +kernel) (fun hc4693 => ?_) (fun hc4693 => ?_)
                · have r4694 : o4691.toInt = 0 := gj_eq hc4693 (show Int32.toInt 0 = 0 by decide)
                  have bo4691' : gB o4691 0 0 := ⟨by omega, by omega⟩
                  refine G_aload_n 3 d_cX9_advance_188 rfl ?_
                  refine G_iload_n 1 d_cX9_advance_189 rfl ?_
                  refine G_iload_n 0 d_cX9_advance_190 rfl ?_
                  refine G_callV (As := [.int o4660, .int o4663]) (wr := []) (gV_ok D I) (ct_4473_Signs_takeMark l hl0 D I q4510 q4511 q4512 o4660 o4663 p4513 0 o4658 p4516 p4517 f4518 bp4517 bf4518 (by have qa0 : Int32.toInt 0 = 0 := (by decide); omega)) d_cX9_advance_191 ⟨w_3_109, w_1_4, w_3_112, by decide, rfl, (Nat.le_of_ble_eq_true rfl), (Nat.le_of_ble_eq_true rfl)⟩ w_3_111 w_p_6 0 rfl rfl [0, 1, 2] [] rfl rfl rfl rfl (by decide) (Nat.le_of_ble_eq_true rfl) (Nat.le_of_ble_eq_true rfl) (Nat.le_of_ble_eq_true rfl) (fun r w hp => ?_) (fun _ _ _ z => z.elim)
                  obtain ⟨o4695, o4696, o4697, rfl, rfl, bo4695, bo4696, bo4697, x4698, ht4699⟩ := hp
                  change G _ _ _ _ _ _ _ _ _ _ _
                  refine G_ws (ws' := [(q4510, .inr (14, [.ref q4511, .int o4695, .int o4696, .int o4658, .int o4697])), (q4511, .inr (15, [.ref q4512, .int p4517])), (q4512, .inl (I .byte, 8192, .inl f4518))]) (cs' := 0) (sl' := 0) rfl rfl rfl ?_
                  exact G_vret d_cX9_advance_194 rfl (Nat.le_of_ble_eq_true rfl) (Nat.le_of_ble_eq_true rfl) ⟨o4695, o4696, o4658, o4697, rfl, rfl, (gB_w bo4695 (by decide) (by decide)), (gB_w bo4696 (by decide) (by decide)), bo4658, bo4697, (by have qa0 : Int32.toInt 0 = 0 := (by decide); omega), (fun R c1 c2 c3 c4 c5 c6 c7 c8 c9 c10 c11 c12 c13 c14 c15 c16 c17 c18 c19 c20 c21 c22 c23 c24 c25 c26 c27 c28 c29 c30 c31 c32 c33 c34 c35 c36 c37 c38 c39 c40 c41 c42 c43 c44 => c18 o4658 o4660 z4662 o4663 o4667 o4691 o4695 o4696 o4697 r4655 r4657 bo4658 ht4659 bo4660 ht4661 ez4662 bo4663 ht4664 r4666 bo4667 ht4668 r4684 r4686 r4688 r4690 bo4691 ht4692 r4694 bo4695 bo4696 ht4699)⟩
                · have r4700 : o4691.toInt ≠ 0 := gj_neq hc4693 (show Int32.toInt 0 = 0 by decide)
                  have bo4691' : gB o4691 1 1 := ⟨by omega, by omega⟩
                  refine G_aload_n 3 d_cX9_advance_181 rfl ?_
                  refine G_callV (As := []) (wr := []) (gV_ok D I) (ct_3904_Signs_takeWord l hl0 D I q4510 q4511 q4512 p4513 0 o4658 p4516 p4517 f4518 bp4517 bf4518 (by have qa0 : Int32.toInt 0 = 0 := (by decide); omega)) d_cX9_advance_182 ⟨w_3_48, w_1_4, w_3_51, by decide, rfl, (Nat.le_of_ble_eq_true rfl), (Nat.le_of_ble_eq_true rfl)⟩ w_3_50 w_p_4 0 rfl rfl [0, 1, 2] [] rfl rfl rfl rfl (by decide) (Nat.le_of_ble_eq_true rfl) (Nat.le_of_ble_eq_true rfl) (Nat.le_of_ble_eq_true rfl) (fun r w hp => ?_) (fun _ _ _ z => z.elim)
                  obtain ⟨o4701, o4702, rfl, rfl, bo4701, bo4702, x4703, ht4704⟩ := hp
                  rw [show Int32.toInt 0 = 0 from by decide] at x4703
                  change G _ _ _ _ _ _ _ _ _ _ _
                  refine G_ws (ws' := [(q4510, .inr (14, [.ref q4511, .int o4701, .int 0, .int o4658, .int o4702])), (q4511, .inr (15, [.ref q4512, .int p4517])), (q4512, .inl (I .byte, 8192, .inl f4518))]) (cs' := 0) (sl' := 0) rfl rfl rfl ?_
                  refine G_goto 194 d_cX9_advance_185 (by decide +kernel) ?_
                  exact G_vret d_cX9_advance_194 rfl (Nat.le_of_ble_eq_true rfl) (Nat.le_of_ble_eq_true rfl) ⟨o4701, 0, o4658, o4702, rfl, rfl, bo4701, (gB_w (gBl (show Int32.toInt 0 = 0 by decide)) (by decide) (by decide)), bo4658, bo4702, (by have qa0 : Int32.toInt 0 = 0 := (by decide); omega), (fun R c1 c2 c3 c4 c5 c6 c7 c8 c9 c10 c11 c12 c13 c14 c15 c16 c17 c18 c19 c20 c21 c22 c23 c24 c25 c26 c27 c28 c29 c30 c31 c32 c33 c34 c35 c36 c37 c38 c39 c40 c41 c42 c43 c44 => c19 o4658 o4660 z4662 o4663 o4667 o4691 o4701 o4702 r4655 r4657 bo4658 ht4659 bo4660 ht4661 ez4662 bo4663 ht4664 r4666 bo4667 ht4668 r4684 r4686 r4688 r4690 bo4691 ht4692 r4700 bo4701 ht4704)⟩
              · have r4705 : o4660.toInt = 98 := gj_eq hc4689 (show Int32.toInt 98 = 98 by decide)
                have bo4660'' : gB o4660 98 98 := ⟨by omega, by omega⟩
                refine G_iload_n 0 d_cX9_advance_157 rfl ?_
                refine G_callS (As := [.int o4663]) (wr := [(q4510, .inr (14, [.ref q4511, .int p4513, .int 0, .int o4658, .int p4516])), (q4511, .inr (15, [.ref q4512, .int p4517])), (q4512, .inl (I .byte, 8192, .inl f4518))]) (gV_ok D I) (ct_247_Signs_isDigit l hl0 D I o4663 ) d_cX9_advance_158 ⟨w_3_24, w_1_4, w_3_26, by decide, rfl, (Nat.le_of_ble_eq_true rfl), (Nat.le_of_ble_eq_true rfl)⟩ w_3_25 [] [0, 1, 2] rfl rfl rfl rfl (by decide) (Nat.le_of_ble_eq_true rfl) (Nat.le_of_ble_eq_true rfl) (Nat.le_of_ble_eq_true rfl) (fun r w hp => ?_) (fun _ _ _ z => z.elim)
                obtain ⟨o4706, rfl, rfl, bo4706, ht4707⟩ := hp
                change G _ _ _ _ _ _ _ (.int o4706 :: _) _ _ _
                refine G_ws (ws' := [(q4510, .inr (14, [.ref q4511, .int p4513, .int 0, .int o4658, .int p4516])), (q4511, .inr (15, [.ref q4512, .int p4517])), (q4512, .inl (I .byte, 8192, .inl f4518))]) (cs' := 0) (sl' := 0) rfl rfl rfl ?_
                refine G_if_eq 174 d_cX9_advance_161 (by decide +kernel) (fun hc4708 => ?_) (fun hc4708 => ?_)
                · have r4709 : o4706.toInt = 0 := gj_eq hc4708 (show Int32.toInt 0 = 0 by decide)
                  have bo4706' : gB o4706 0 0 := ⟨by omega, by omega⟩
                  refine G_iload_n 1 d_cX9_advance_174 rfl ?_
                  refine G_callS (As := [.int o4660]) (wr := [(q4510, .inr (14, [.ref q4511, .int p4513, .int 0, .int o4658, .int p4516])), (q4511, .inr (15, [.ref q4512, .int p4517])), (q4512, .inl (I .byte, 8192, .inl f4518))]) (gV_ok D I) (ct_256_Signs_isLetter l hl0 D I o4660 ) d_cX9_advance_175 ⟨w_3_45, w_1_4, w_3_47, by decide, rfl, (Nat.le_of_ble_eq_true rfl), (Nat.le_of_ble_eq_true rfl)⟩ w_3_46 [] [0, 1, 2] rfl rfl rfl rfl (by decide) (Nat.le_of_ble_eq_true rfl) (Nat.le_of_ble_eq_true rfl) (Nat.le_of_ble_eq_true rfl) (fun r w hp => ?_) (fun _ _ _ z => z.elim)
                  obtain ⟨o4710, rfl, rfl, bo4710, ht4711⟩ := hp
                  change G _ _ _ _ _ _ _ (.int o4710 :: _) _ _ _
                  refine G_ws (ws' := [(q4510, .inr (14, [.ref q4511, .int p4513, .int 0, .int o4658, .int p4516])), (q4511, .inr (15, [.ref q4512, .int p4517])), (q4512, .inl (I .byte, 8192, .inl f4518))]) (cs' := 0) (sl' := 0) rfl rfl rfl ?_
                  refine G_if_eq 188 d_cX9_advance_178 (by decide +kernel) (fun hc4712 => ?_) (fun hc4712 => ?_)
                  · have r4713 : o4710.toInt = 0 := gj_eq hc4712 (show Int32.toInt 0 = 0 by decide)
                    have bo4710' : gB o4710 0 0 := ⟨by omega, by omega⟩
                    refine G_aload_n 3 d_cX9_advance_188 rfl ?_
                    refine G_iload_n 1 d_cX9_advance_189 rfl ?_
                    refine G_iload_n 0 d_cX9_advance_190 rfl ?_
                    refine G_callV (As := [.int o4660, .int o4663]) (wr := []) (gV_ok D I) (ct_4473_Signs_takeMark l hl0 D I q4510 q4511 q4512 o4660 o4663 p4513 0 o4658 p4516 p4517 f4518 bp4517 bf4518 (by have qa0 : Int32.toInt 0 = 0 := (by decide); omega)) d_cX9_advance_191 ⟨w_3_109, w_1_4, w_3_112, by decide, rfl, (Nat.le_of_ble_eq_true rfl), (Nat.le_of_ble_eq_true rfl)⟩ w_3_111 w_p_6 0 rfl rfl [0, 1, 2] [] rfl rfl rfl rfl (by decide) (Nat.le_of_ble_eq_true rfl) (Nat.le_of_ble_eq_true rfl) (Nat.le_of_ble_eq_true rfl) (fun r w hp => ?_) (fun _ _ _ z => z.elim)
                    obtain ⟨o4714, o4715, o4716, rfl, rfl, bo4714, bo4715, bo4716, x4717, ht4718⟩ := hp
                    change G _ _ _ _ _ _ _ _ _ _ _
                    refine G_ws (ws' := [(q4510, .inr (14, [.ref q4511, .int o4714, .int o4715, .int o4658, .int o4716])), (q4511, .inr (15, [.ref q4512, .int p4517])), (q4512, .inl (I .byte, 8192, .inl f4518))]) (cs' := 0) (sl' := 0) rfl rfl rfl ?_
                    exact G_vret d_cX9_advance_194 rfl (Nat.le_of_ble_eq_true rfl) (Nat.le_of_ble_eq_true rfl) ⟨o4714, o4715, o4658, o4716, rfl, rfl, (gB_w bo4714 (by decide) (by decide)), (gB_w bo4715 (by decide) (by decide)), bo4658, bo4716, (by have qa0 : Int32.toInt 0 = 0 := (by decide); omega), (fun R c1 c2 c3 c4 c5 c6 c7 c8 c9 c10 c11 c12 c13 c14 c15 c16 c17 c18 c19 c20 c21 c22 c23 c24 c25 c26 c27 c28 c29 c30 c31 c32 c33 c34 c35 c36 c37 c38 c39 c40 c41 c42 c43 c44 => c20 o4658 o4660 z4662 o4663 o4667 o4706 o4710 o4714 o4715 o4716 r4655 r4657 bo4658 ht4659 bo4660 ht4661 ez4662 bo4663 ht4664 r4666 bo4667 ht4668 r4684 r4686 r4688 r4705 bo4706 ht4707 r4709 bo4710 ht4711 r4713 bo4714 bo4715 ht4718)⟩
                  · have r4719 : o4710.toInt ≠ 0 := gj_neq hc4712 (show Int32.toInt 0 = 0 by decide)
                    have bo4710' : gB o4710 1 1 := ⟨by omega, by omega⟩
                    refine G_aload_n 3 d_cX9_advance_181 rfl ?_
                    refine G_callV (As := []) (wr := []) (gV_ok D I) (ct_3904_Signs_takeWord l hl0 D I q4510 q4511 q4512 p4513 0 o4658 p4516 p4517 f4518 bp4517 bf4518 (by have qa0 : Int32.toInt 0 = 0 := (by decide); omega)) d_cX9_advance_182 ⟨w_3_48, w_1_4, w_3_51, by decide, rfl, (Nat.le_of_ble_eq_true rfl), (Nat.le_of_ble_eq_true rfl)⟩ w_3_50 w_p_4 0 rfl rfl [0, 1, 2] [] rfl rfl rfl rfl (by decide) (Nat.le_of_ble_eq_true rfl) (Nat.le_of_ble_eq_true rfl) (Nat.le_of_ble_eq_true rfl) (fun r w hp => ?_) (fun _ _ _ z => z.elim)
                    obtain ⟨o4720, o4721, rfl, rfl, bo4720, bo4721, x4722, ht4723⟩ := hp
                    rw [show Int32.toInt 0 = 0 from by decide] at x4722
                    change G _ _ _ _ _ _ _ _ _ _ _
                    refine G_ws (ws' := [(q4510, .inr (14, [.ref q4511, .int o4720, .int 0, .int o4658, .int o4721])), (q4511, .inr (15, [.ref q4512, .int p4517])), (q4512, .inl (I .byte, 8192, .inl f4518))]) (cs' := 0) (sl' := 0) rfl rfl rfl ?_
                    refine G_goto 194 d_cX9_advance_185 (by decide +kernel) ?_
                    exact G_vret d_cX9_advance_194 rfl (Nat.le_of_ble_eq_true rfl) (Nat.le_of_ble_eq_true rfl) ⟨o4720, 0, o4658, o4721, rfl, rfl, bo4720, (gB_w (gBl (show Int32.toInt 0 = 0 by decide)) (by decide) (by decide)), bo4658, bo4721, (by have qa0 : Int32.toInt 0 = 0 := (by decide); omega), (fun R c1 c2 c3 c4 c5 c6 c7 c8 c9 c10 c11 c12 c13 c14 c15 c16 c17 c18 c19 c20 c21 c22 c23 c24 c25 c26 c27 c28 c29 c30 c31 c32 c33 c34 c35 c36 c37 c38 c39 c40 c41 c42 c43 c44 => c21 o4658 o4660 z4662 o4663 o4667 o4706 o4710 o4720 o4721 r4655 r4657 bo4658 ht4659 bo4660 ht4661 ez4662 bo4663 ht4664 r4666 bo4667 ht4668 r4684 r4686 r4688 r4705 bo4706 ht4707 r4709 bo4710 ht4711 r4719 bo4720 ht4723)⟩
                · have r4724 : o4706.toInt ≠ 0 := gj_neq hc4708 (show Int32.toInt 0 = 0 by decide)
                  have bo4706' : gB o4706 1 1 := ⟨by omega, by omega⟩
                  refine G_aload_n 3 d_cX9_advance_164 rfl ?_
                  refine G_iconst 3 d_cX9_advance_165 (by decide +kernel) ?_
                  refine G_bipush 40 d_cX9_advance_166 (by decide +kernel) ?_
                  refine G_callV (As := [.int 3, .int 40]) (wr := []) (gV_ok D I) (ct_513_Signs_takeNamed l hl0 D I q4510 q4511 q4512 3 40 p4513 0 o4658 p4516 p4517 f4518 (gB_w (gBl (show Int32.toInt 3 = 3 by decide)) (by decide) (by decide)) bp4517 bf4518 (by have qa0 : Int32.toInt 0 = 0 := (by decide); have qa1 : Int32.toInt 3 = 3 := (by decide); have qa2 : Int32.toInt 40 = 40 := (by decide); omega)) d_cX9_advance_168 ⟨w_3_41, w_1_4, w_3_44, by decide, rfl, (Nat.le_of_ble_eq_true rfl), (Nat.le_of_ble_eq_true rfl)⟩ w_3_43 w_p_3 0 rfl rfl [0, 1, 2] [] rfl rfl rfl rfl (by decide) (Nat.le_of_ble_eq_true rfl) (Nat.le_of_ble_eq_true rfl) (Nat.le_of_ble_eq_true rfl) (fun r w hp => ?_) (fun _ _ _ z => z.elim)
                  obtain ⟨o4725, o4726, o4727, rfl, rfl, bo4725, bo4726, bo4727, x4728, ht4729⟩ := hp
                  change G _ _ _ _ _ _ _ _ _ _ _
                  refine G_ws (ws' := [(q4510, .inr (14, [.ref q4511, .int o4725, .int o4726, .int o4658, .int o4727])), (q4511, .inr (15, [.ref q4512, .int p4517])), (q4512, .inl (I .byte, 8192, .inl f4518))]) (cs' := 0) (sl' := 0) rfl rfl rfl ?_
                  refine G_goto 194 d_cX9_advance_171 (by decide +kernel) ?_
                  exact G_vret d_cX9_advance_194 rfl (Nat.le_of_ble_eq_true rfl) (Nat.le_of_ble_eq_true rfl) ⟨o4725, o4726, o4658, o4727, rfl, rfl, (gB_w bo4725 (by decide) (by decide)), bo4726, bo4658, bo4727, (by have qa0 : Int32.toInt 0 = 0 := (by decide); omega), (fun R c1 c2 c3 c4 c5 c6 c7 c8 c9 c10 c11 c12 c13 c14 c15 c16 c17 c18 c19 c20 c21 c22 c23 c24 c25 c26 c27 c28 c29 c30 c31 c32 c33 c34 c35 c36 c37 c38 c39 c40 c41 c42 c43 c44 => c22 o4658 o4660 z4662 o4663 o4667 o4706 o4725 o4726 o4727 r4655 r4657 bo4658 ht4659 bo4660 ht4661 ez4662 bo4663 ht4664 r4666 bo4667 ht4668 r4684 r4686 r4688 r4705 bo4706 ht4707 r4724 bo4725 ht4729)⟩
            · have r4730 : o4660.toInt = 118 := gj_eq hc4687 (show Int32.toInt 118 = 118 by decide)
              have bo4660'' : gB o4660 118 118 := ⟨by omega, by omega⟩
              refine G_iload_n 0 d_cX9_advance_134 rfl ?_
              refine G_callS (As := [.int o4663]) (wr := [(q4510, .inr (14, [.ref q4511, .int p4513, .int 0, .int o4658, .int p4516])), (q4511, .inr (15, [.ref q4512, .int p4517])), (q4512, .inl (I .byte, 8192, .inl f4518))]) (gV_ok D I) (ct_247_Signs_isDigit l hl0 D I o4663 ) d_cX9_advance_135 ⟨w_3_24, w_1_4, w_3_26, by decide, rfl, (Nat.le_of_ble_eq_true rfl), (Nat.le_of_ble_eq_true rfl)⟩ w_3_25 [] [0, 1, 2] rfl rfl rfl rfl (by decide) (Nat.le_of_ble_eq_true rfl) (Nat.le_of_ble_eq_true rfl) (Nat.le_of_ble_eq_true rfl) (fun r w hp => ?_) (fun _ _ _ z => z.elim)
              obtain ⟨o4731, rfl, rfl, bo4731, ht4732⟩ := hp
              change G _ _ _ _ _ _ _ (.int o4731 :: _) _ _ _
              refine G_ws (ws' := [(q4510, .inr (14, [.ref q4511, .int p4513, .int 0, .int o4658, .int p4516])), (q4511, .inr (15, [.ref q4512, .int p4517])), (q4512, .inl (I .byte, 8192, .inl f4518))]) (cs' := 0) (sl' := 0) rfl rfl rfl ?_
              refine G_if_eq 151 d_cX9_advance_138 (by decide +kernel) (fun hc4733 => ?_) (fun hc4733 => ?_)
              · have r4734 : o4731.toInt = 0 := gj_eq hc4733 (show Int32.toInt 0 = 0 by decide)
                have bo4731' : gB o4731 0 0 := ⟨by omega, by omega⟩
                refine G_iload_n 1 d_cX9_advance_151 rfl ?_
                refine G_bipush 98 d_cX9_advance_152 (by decide +kernel) ?_
                refine G_icmp_ne 174 d_cX9_advance_154 (by decide +kernel) (fun _ => ?_) (fun hc => absurd (show False by have := gj_eq hc (show Int32.toInt 98 = 98 by decide); omega) not_false)
                refine G_iload_n 1 d_cX9_advance_174 rfl ?_
                refine G_callS (As := [.int o4660]) (wr := [(q4510, .inr (14, [.ref q4511, .int p4513, .int 0, .int o4658, .int p4516])), (q4511, .inr (15, [.ref q4512, .int p4517])), (q4512, .inl (I .byte, 8192, .inl f4518))]) (gV_ok D I) (ct_256_Signs_isLetter l hl0 D I o4660 ) d_cX9_advance_175 ⟨w_3_45, w_1_4, w_3_47, by decide, rfl, (Nat.le_of_ble_eq_true rfl), (Nat.le_of_ble_eq_true rfl)⟩ w_3_46 [] [0, 1, 2] rfl rfl rfl rfl (by decide) (Nat.le_of_ble_eq_true rfl) (Nat.le_of_ble_eq_true rfl) (Nat.le_of_ble_eq_true rfl) (fun r w hp => ?_) (fun _ _ _ z => z.elim)
                obtain ⟨o4735, rfl, rfl, bo4735, ht4736⟩ := hp
                change G _ _ _ _ _ _ _ (.int o4735 :: _) _ _ _
                refine G_ws (ws' := [(q4510, .inr (14, [.ref q4511, .int p4513, .int 0, .int o4658, .int p4516])), (q4511, .inr (15, [.ref q4512, .int p4517])), (q4512, .inl (I .byte, 8192, .inl f4518))]) (cs' := 0) (sl' := 0) rfl rfl rfl ?_
                refine G_if_eq 188 d_cX9_advance_178 (by decide +kernel) (fun hc4737 => ?_) (fun hc4737 => ?_)
                · have r4738 : o4735.toInt = 0 := gj_eq hc4737 (show Int32.toInt 0 = 0 by decide)
                  have bo4735' : gB o4735 0 0 := ⟨by omega, by omega⟩
                  refine G_aload_n 3 d_cX9_advance_188 rfl ?_
                  refine G_iload_n 1 d_cX9_advance_189 rfl ?_
                  refine G_iload_n 0 d_cX9_advance_190 rfl ?_
                  refine G_callV (As := [.int o4660, .int o4663]) (wr := []) (gV_ok D I) (ct_4473_Signs_takeMark l hl0 D I q4510 q4511 q4512 o4660 o4663 p4513 0 o4658 p4516 p4517 f4518 bp4517 bf4518 (by have qa0 : Int32.toInt 0 = 0 := (by decide); omega)) d_cX9_advance_191 ⟨w_3_109, w_1_4, w_3_112, by decide, rfl, (Nat.le_of_ble_eq_true rfl), (Nat.le_of_ble_eq_true rfl)⟩ w_3_111 w_p_6 0 rfl rfl [0, 1, 2] [] rfl rfl rfl rfl (by decide) (Nat.le_of_ble_eq_true rfl) (Nat.le_of_ble_eq_true rfl) (Nat.le_of_ble_eq_true rfl) (fun r w hp => ?_) (fun _ _ _ z => z.elim)
                  obtain ⟨o4739, o4740, o4741, rfl, rfl, bo4739, bo4740, bo4741, x4742, ht4743⟩ := hp
                  change G _ _ _ _ _ _ _ _ _ _ _
                  refine G_ws (ws' := [(q4510, .inr (14, [.ref q4511, .int o4739, .int o4740, .int o4658, .int o4741])), (q4511, .inr (15, [.ref q4512, .int p4517])), (q4512, .inl (I .byte, 8192, .inl f4518))]) (cs' := 0) (sl' := 0) rfl rfl rfl ?_
                  exact G_vret d_cX9_advance_194 rfl (Nat.le_of_ble_eq_true rfl) (Nat.le_of_ble_eq_true rfl) ⟨o4739, o4740, o4658, o4741, rfl, rfl, (gB_w bo4739 (by decide) (by decide)), (gB_w bo4740 (by decide) (by decide)), bo4658, bo4741, (by have qa0 : Int32.toInt 0 = 0 := (by decide); omega), (fun R c1 c2 c3 c4 c5 c6 c7 c8 c9 c10 c11 c12 c13 c14 c15 c16 c17 c18 c19 c20 c21 c22 c23 c24 c25 c26 c27 c28 c29 c30 c31 c32 c33 c34 c35 c36 c37 c38 c39 c40 c41 c42 c43 c44 => c23 o4658 o4660 z4662 o4663 o4667 o4731 o4735 o4739 o4740 o4741 r4655 r4657 bo4658 ht4659 bo4660 ht4661 ez4662 bo4663 ht4664 r4666 bo4667 ht4668 r4684 r4686 r4730 bo4731 ht4732 r4734 bo4735 ht4736 r4738 bo4739 bo4740 ht4743)⟩
                · have r4744 : o4735.toInt ≠ 0 := gj_neq hc4737 (show Int32.toInt 0 = 0 by decide)
                  have bo4735' : gB o4735 1 1 := ⟨by omega, by omega⟩
                  refine G_aload_n 3 d_cX9_advance_181 rfl ?_
                  refine G_callV (As := []) (wr := []) (gV_ok D I) (ct_3904_Signs_takeWord l hl0 D I q4510 q4511 q4512 p4513 0 o4658 p4516 p4517 f4518 bp4517 bf4518 (by have qa0 : Int32.toInt 0 = 0 := (by decide); omega)) d_cX9_advance_182 ⟨w_3_48, w_1_4, w_3_51, by decide, rfl, (Nat.le_of_ble_eq_true rfl), (Nat.le_of_ble_eq_true rfl)⟩ w_3_50 w_p_4 0 rfl rfl [0, 1, 2] [] rfl rfl rfl rfl (by decide) (Nat.le_of_ble_eq_true rfl) (Nat.le_of_ble_eq_true rfl) (Nat.le_of_ble_eq_true rfl) (fun r w hp => ?_) (fun _ _ _ z => z.elim)
                  obtain ⟨o4745, o4746, rfl, rfl, bo4745, bo4746, x4747, ht4748⟩ := hp
                  rw [show Int32.toInt 0 = 0 from by decide] at x4747
                  change G _ _ _ _ _ _ _ _ _ _ _
                  refine G_ws (ws' := [(q4510, .inr (14, [.ref q4511, .int o4745, .int 0, .int o4658, .int o4746])), (q4511, .inr (15, [.ref q4512, .int p4517])), (q4512, .inl (I .byte, 8192, .inl f4518))]) (cs' := 0) (sl' := 0) rfl rfl rfl ?_
                  refine G_goto 194 d_cX9_advance_185 (by decide +kernel) ?_
                  exact G_vret d_cX9_advance_194 rfl (Nat.le_of_ble_eq_true rfl) (Nat.le_of_ble_eq_true rfl) ⟨o4745, 0, o4658, o4746, rfl, rfl, bo4745, (gB_w (gBl (show Int32.toInt 0 = 0 by decide)) (by decide) (by decide)), bo4658, bo4746, (by have qa0 : Int32.toInt 0 = 0 := (by decide); omega), (fun R c1 c2 c3 c4 c5 c6 c7 c8 c9 c10 c11 c12 c13 c14 c15 c16 c17 c18 c19 c20 c21 c22 c23 c24 c25 c26 c27 c28 c29 c30 c31 c32 c33 c34 c35 c36 c37 c38 c39 c40 c41 c42 c43 c44 => c24 o4658 o4660 z4662 o4663 o4667 o4731 o4735 o4745 o4746 r4655 r4657 bo4658 ht4659 bo4660 ht4661 ez4662 bo4663 ht4664 r4666 bo4667 ht4668 r4684 r4686 r4730 bo4731 ht4732 r4734 bo4735 ht4736 r4744 bo4745 ht4748)⟩
              · have r4749 : o4731.toInt ≠ 0 := gj_neq hc4733 (show Int32.toInt 0 = 0 by decide)
                have bo4731' : gB o4731 1 1 := ⟨by omega, by omega⟩
                refine G_aload_n 3 d_cX9_advance_141 rfl ?_
                refine G_iconst 2 d_cX9_advance_142 (by decide +kernel) ?_
                refine G_bipush 100 d_cX9_advance_143 (by decide +kernel) ?_
                refine G_callV (As := [.int 2, .int 100]) (wr := []) (gV_ok D I) (ct_513_Signs_takeNamed l hl0 D I q4510 q4511 q4512 2 100 p4513 0 o4658 p4516 p4517 f4518 (gB_w (gBl (show Int32.toInt 2 = 2 by decide)) (by decide) (by decide)) bp4517 bf4518 (by have qa0 : Int32.toInt 0 = 0 := (by decide); have qa1 : Int32.toInt 2 = 2 := (by decide); have qa2 : Int32.toInt 100 = 100 := (by decide); omega)) d_cX9_advance_145 ⟨w_3_41, w_1_4, w_3_44, by decide, rfl, (Nat.le_of_ble_eq_true rfl), (Nat.le_of_ble_eq_true rfl)⟩ w_3_43 w_p_3 0 rfl rfl [0, 1, 2] [] rfl rfl rfl rfl (by decide) (Nat.le_of_ble_eq_true rfl) (Nat.le_of_ble_eq_true rfl) (Nat.le_of_ble_eq_true rfl) (fun r w hp => ?_) (fun _ _ _ z => z.elim)
                obtain ⟨o4750, o4751, o4752, rfl, rfl, bo4750, bo4751, bo4752, x4753, ht4754⟩ := hp
                change G _ _ _ _ _ _ _ _ _ _ _
                refine G_ws (ws' := [(q4510, .inr (14, [.ref q4511, .int o4750, .int o4751, .int o4658, .int o4752])), (q4511, .inr (15, [.ref q4512, .int p4517])), (q4512, .inl (I .byte, 8192, .inl f4518))]) (cs' := 0) (sl' := 0) rfl rfl rfl ?_
                refine G_goto 194 d_cX9_advance_148 (by decide +kernel) ?_
                exact G_vret d_cX9_advance_194 rfl (Nat.le_of_ble_eq_true rfl) (Nat.le_of_ble_eq_true rfl) ⟨o4750, o4751, o4658, o4752, rfl, rfl, (gB_w bo4750 (by decide) (by decide)), bo4751, bo4658, bo4752, (by have qa0 : Int32.toInt 0 = 0 := (by decide); omega), (fun R c1 c2 c3 c4 c5 c6 c7 c8 c9 c10 c11 c12 c13 c14 c15 c16 c17 c18 c19 c20 c21 c22 c23 c24 c25 c26 c27 c28 c29 c30 c31 c32 c33 c34 c35 c36 c37 c38 c39 c40 c41 c42 c43 c44 => c25 o4658 o4660 z4662 o4663 o4667 o4731 o4750 o4751 o4752 r4655 r4657 bo4658 ht4659 bo4660 ht4661 ez4662 bo4663 ht4664 r4666 bo4667 ht4668 r4684 r4686 r4730 bo4731 ht4732 r4749 bo4750 ht4754)⟩
          · have r4755 : o4660.toInt = 45 := gj_eq hc4685 (show Int32.toInt 45 = 45 by decide)
            have bo4660'' : gB o4660 45 45 := ⟨by omega, by omega⟩
            refine G_iload_n 0 d_cX9_advance_99 rfl ?_
            refine G_callS (As := [.int o4663]) (wr := [(q4510, .inr (14, [.ref q4511, .int p4513, .int 0, .int o4658, .int p4516])), (q4511, .inr (15, [.ref q4512, .int p4517])), (q4512, .inl (I .byte, 8192, .inl f4518))]) (gV_ok D I) (ct_247_Signs_isDigit l hl0 D I o4663 ) d_cX9_advance_100 ⟨w_3_24, w_1_4, w_3_26, by decide, rfl, (Nat.le_of_ble_eq_true rfl), (Nat.le_of_ble_eq_true rfl)⟩ w_3_25 [] [0, 1, 2] rfl rfl rfl rfl (by decide) (Nat.le_of_ble_eq_true rfl) (Nat.le_of_ble_eq_true rfl) (Nat.le_of_ble_eq_true rfl) (fun r w hp => ?_) (fun _ _ _ z => z.elim)
            obtain ⟨o4756, rfl, rfl, bo4756, ht4757⟩ := hp
            change G _ _ _ _ _ _ _ (.int o4756 :: _) _ _ _
            refine G_ws (ws' := [(q4510, .inr (14, [.ref q4511, .int p4513, .int 0, .int o4658, .int p4516])), (q4511, .inr (15, [.ref q4512, .int p4517])), (q4512, .inl (I .byte, 8192, .inl f4518))]) (cs' := 0) (sl' := 0) rfl rfl rfl ?_
            refine G_if_eq 128 d_cX9_advance_103 (by decide +kernel) (fun hc4758 => ?_) (fun hc4758 => ?_)
            · have r4759 : o4756.toInt = 0 := gj_eq hc4758 (show Int32.toInt 0 = 0 by decide)
              have bo4756' : gB o4756 0 0 := ⟨by omega, by omega⟩
              refine G_iload_n 1 d_cX9_advance_128 rfl ?_
              refine G_bipush 118 d_cX9_advance_129 (by decide +kernel) ?_
              refine G_icmp_ne 151 d_cX9_advance_131 (by decide +kernel) (fun _ => ?_) (fun hc => absurd (show False by have := gj_eq hc (show Int32.toInt 118 = 118 by decide); omega) not_false)
              refine G_iload_n 1 d_cX9_advance_151 rfl ?_
              refine G_bipush 98 d_cX9_advance_152 (by decide +kernel) ?_
              refine G_icmp_ne 174 d_cX9_advance_154 (by decide +kernel) (fun _ => ?_) (fun hc => absurd (show False by have := gj_eq hc (show Int32.toInt 98 = 98 by decide); omega) not_false)
              refine G_iload_n 1 d_cX9_advance_174 rfl ?_
              refine G_callS (As := [.int o4660]) (wr := [(q4510, .inr (14, [.ref q4511, .int p4513, .int 0, .int o4658, .int p4516])), (q4511, .inr (15, [.ref q4512, .int p4517])), (q4512, .inl (I .byte, 8192, .inl f4518))]) (gV_ok D I) (ct_256_Signs_isLetter l hl0 D I o4660 ) d_cX9_advance_175 ⟨w_3_45, w_1_4, w_3_47, by decide, rfl, (Nat.le_of_ble_eq_true rfl), (Nat.le_of_ble_eq_true rfl)⟩ w_3_46 [] [0, 1, 2] rfl rfl rfl rfl (by decide) (Nat.le_of_ble_eq_true rfl) (Nat.le_of_ble_eq_true rfl) (Nat.le_of_ble_eq_true rfl) (fun r w hp => ?_) (fun _ _ _ z => z.elim)
              obtain ⟨o4760, rfl, rfl, bo4760, ht4761⟩ := hp
              change G _ _ _ _ _ _ _ (.int o4760 :: _) _ _ _
              refine G_ws (ws' := [(q4510, .inr (14, [.ref q4511, .int p4513, .int 0, .int o4658, .int p4516])), (q4511, .inr (15, [.ref q4512, .int p4517])), (q4512, .inl (I .byte, 8192, .inl f4518))]) (cs' := 0) (sl' := 0) rfl rfl rfl ?_
              refine G_if_eq 188 d_cX9_advance_178 (by decide +kernel) (fun hc4762 => ?_) (fun hc4762 => ?_)
              · have r4763 : o4760.toInt = 0 := gj_eq hc4762 (show Int32.toInt 0 = 0 by decide)
                have bo4760' : gB o4760 0 0 := ⟨by omega, by omega⟩
                refine G_aload_n 3 d_cX9_advance_188 rfl ?_
                refine G_iload_n 1 d_cX9_advance_189 rfl ?_
                refine G_iload_n 0 d_cX9_advance_190 rfl ?_
                refine G_callV (As := [.int o4660, .int o4663]) (wr := []) (gV_ok D I) (ct_4473_Signs_takeMark l hl0 D I q4510 q4511 q4512 o4660 o4663 p4513 0 o4658 p4516 p4517 f4518 bp4517 bf4518 (by have qa0 : Int32.toInt 0 = 0 := (by decide); omega)) d_cX9_advance_191 ⟨w_3_109, w_1_4, w_3_112, by decide, rfl, (Nat.le_of_ble_eq_true rfl), (Nat.le_of_ble_eq_true rfl)⟩ w_3_111 w_p_6 0 rfl rfl [0, 1, 2] [] rfl rfl rfl rfl (by decide) (Nat.le_of_ble_eq_true rfl) (Nat.le_of_ble_eq_true rfl) (Nat.le_of_ble_eq_true rfl) (fun r w hp => ?_) (fun _ _ _ z => z.elim)
                obtain ⟨o4764, o4765, o4766, rfl, rfl, bo4764, bo4765, bo4766, x4767, ht4768⟩ := hp
                change G _ _ _ _ _ _ _ _ _ _ _
                refine G_ws (ws' := [(q4510, .inr (14, [.ref q4511, .int o4764, .int o4765, .int o4658, .int o4766])), (q4511, .inr (15, [.ref q4512, .int p4517])), (q4512, .inl (I .byte, 8192, .inl f4518))]) (cs' := 0) (sl' := 0) rfl rfl rfl ?_
                exact G_vret d_cX9_advance_194 rfl (Nat.le_of_ble_eq_true rfl) (Nat.le_of_ble_eq_true rfl) ⟨o4764, o4765, o4658, o4766, rfl, rfl, (gB_w bo4764 (by decide) (by decide)), (gB_w bo4765 (by decide) (by decide)), bo4658, bo4766, (by have qa0 : Int32.toInt 0 = 0 := (by decide); omega), (fun R c1 c2 c3 c4 c5 c6 c7 c8 c9 c10 c11 c12 c13 c14 c15 c16 c17 c18 c19 c20 c21 c22 c23 c24 c25 c26 c27 c28 c29 c30 c31 c32 c33 c34 c35 c36 c37 c38 c39 c40 c41 c42 c43 c44 => c26 o4658 o4660 z4662 o4663 o4667 o4756 o4760 o4764 o4765 o4766 r4655 r4657 bo4658 ht4659 bo4660 ht4661 ez4662 bo4663 ht4664 r4666 bo4667 ht4668 r4684 r4755 bo4756 ht4757 r4759 bo4760 ht4761 r4763 bo4764 bo4765 ht4768)⟩
              · have r4769 : o4760.toInt ≠ 0 := gj_neq hc4762 (show Int32.toInt 0 = 0 by decide)
                have bo4760' : gB o4760 1 1 := ⟨by omega, by omega⟩
                refine G_aload_n 3 d_cX9_advance_181 rfl ?_
                refine G_callV (As := []) (wr := []) (gV_ok D I) (ct_3904_Signs_takeWord l hl0 D I q4510 q4511 q4512 p4513 0 o4658 p4516 p4517 f4518 bp4517 bf4518 (by have qa0 : Int32.toInt 0 = 0 := (by decide); omega)) d_cX9_advance_182 ⟨w_3_48, w_1_4, w_3_51, by decide, rfl, (Nat.le_of_ble_eq_true rfl), (Nat.le_of_ble_eq_true rfl)⟩ w_3_50 w_p_4 0 rfl rfl [0, 1, 2] [] rfl rfl rfl rfl (by decide) (Nat.le_of_ble_eq_true rfl) (Nat.le_of_ble_eq_true rfl) (Nat.le_of_ble_eq_true rfl) (fun r w hp => ?_) (fun _ _ _ z => z.elim)
                obtain ⟨o4770, o4771, rfl, rfl, bo4770, bo4771, x4772, ht4773⟩ := hp
                rw [show Int32.toInt 0 = 0 from by decide] at x4772
                change G _ _ _ _ _ _ _ _ _ _ _
                refine G_ws (ws' := [(q4510, .inr (14, [.ref q4511, .int o4770, .int 0, .int o4658, .int o4771])), (q4511, .inr (15, [.ref q4512, .int p4517])), (q4512, .inl (I .byte, 8192, .inl f4518))]) (cs' := 0) (sl' := 0) rfl rfl rfl ?_
                refine G_goto 194 d_cX9_advance_185 (by decide +kernel) ?_
                exact G_vret d_cX9_advance_194 rfl (Nat.le_of_ble_eq_true rfl) (Nat.le_of_ble_eq_true rfl) ⟨o4770, 0, o4658, o4771, rfl, rfl, bo4770, (gB_w (gBl (show Int32.toInt 0 = 0 by decide)) (by decide) (by decide)), bo4658, bo4771, (by have qa0 : Int32.toInt 0 = 0 := (by decide); omega), (fun R c1 c2 c3 c4 c5 c6 c7 c8 c9 c10 c11 c12 c13 c14 c15 c16 c17 c18 c19 c20 c21 c22 c23 c24 c25 c26 c27 c28 c29 c30 c31 c32 c33 c34 c35 c36 c37 c38 c39 c40 c41 c42 c43 c44 => c27 o4658 o4660 z4662 o4663 o4667 o4756 o4760 o4770 o4771 r4655 r4657 bo4658 ht4659 bo4660 ht4661 ez4662 bo4663 ht4664 r4666 bo4667 ht4668 r4684 r4755 bo4756 ht4757 r4759 bo4760 ht4761 r4769 bo4770 ht4773)⟩
            · have r4774 : o4756.toInt ≠ 0 := gj_neq hc4758 (show Int32.toInt 0 = 0 by decide)
              have bo4756' : gB o4756 1 1 := ⟨by omega, by omega⟩
              refine G_iload_n 2 d_cX9_advance_106 rfl ?_
              refine G_if_ne 128 d_cX9_advance_107 (by decide +kernel) (fun hc => absurd hc (by decide)) (fun _ => ?_)
              refine G_aload_n 3 d_cX9_advance_110 rfl ?_
              refine G_iload_n 1 d_cX9_advance_111 rfl ?_
              refine G_bipush 45 d_cX9_advance_112 (by decide +kernel) ?_
              refine G_icmp_ne 121 d_cX9_advance_114 (by decide +kernel) (fun hc => absurd (show False by have := gj_neq hc (show Int32.toInt 45 = 45 by decide); omega) not_false) (fun _ => ?_)
              refine G_iconst 1 d_cX9_advance_117 (by decide +kernel) ?_
              refine G_goto 122 d_cX9_advance_118 (by decide +kernel) ?_
              refine G_callV (As := [.int 1]) (wr := []) (gV_ok D I) (ct_474_Signs_takeNumber l hl0 D I q4510 q4511 q4512 1 p4513 0 o4658 p4516 p4517 f4518 (gB_w (gBl (show Int32.toInt 1 = 1 by decide)) (by decide) (by decide)) bp4517 bf4518 (by have qa0 : Int32.toInt 0 = 0 := (by decide); have qa1 : Int32.toInt 1 = 1 := (by decide); omega)) d_cX9_advance_122 ⟨w_3_27, w_1_4, w_3_30, by decide, rfl, (Nat.le_of_ble_eq_true rfl), (Nat.le_of_ble_eq_true rfl)⟩ w_3_29 w_p_1 0 rfl rfl [0, 1, 2] [] rfl rfl rfl rfl (by decide) (Nat.le_of_ble_eq_true rfl) (Nat.le_of_ble_eq_true rfl) (Nat.le_of_ble_eq_true rfl) (fun r w hp => ?_) (fun _ _ _ z => z.elim)
              obtain ⟨o4775, o4776, o4777, rfl, rfl, bo4775, bo4776, bo4777, x4778, ht4779⟩ := hp
              change G _ _ _ _ _ _ _ _ _ _ _
              refine G_ws (ws' := [(q4510, .inr (14, [.ref q4511, .int o4775, .int o4776, .int o4658, .int o4777])), (q4511, .inr (15, [.ref q4512, .int p4517])), (q4512, .inl (I .byte, 8192, .inl f4518))]) (cs' := 0) (sl' := 0) rfl rfl rfl ?_
              refine G_goto 194 d_cX9_advance_125 (by decide +kernel) ?_
              exact G_vret d_cX9_advance_194 rfl (Nat.le_of_ble_eq_true rfl) (Nat.le_of_ble_eq_true rfl) ⟨o4775, o4776, o4658, o4777, rfl, rfl, (gB_w bo4775 (by decide) (by decide)), bo4776, bo4658, bo4777, (by have qa0 : Int32.toInt 0 = 0 := (by decide); omega), (fun R c1 c2 c3 c4 c5 c6 c7 c8 c9 c10 c11 c12 c13 c14 c15 c16 c17 c18 c19 c20 c21 c22 c23 c24 c25 c26 c27 c28 c29 c30 c31 c32 c33 c34 c35 c36 c37 c38 c39 c40 c41 c42 c43 c44 => c28 o4658 o4660 z4662 o4663 o4667 o4756 o4775 o4776 o4777 r4655 r4657 bo4658 ht4659 bo4660 ht4661 ez4662 bo4663 ht4664 r4666 bo4667 ht4668 r4684 r4755 bo4756 ht4757 r4774 bo4775 ht4779)⟩
      · have r4780 : o4660.toInt = (-1) := gj_eq hc4665 (show Int32.toInt (-1) = (-1) by decide)
        have bo4660' : gB o4660 (-1) (-1) := ⟨by omega, by omega⟩
        refine G_aload_n 3 d_cX9_advance_70 rfl ?_
        refine G_iconst 1 d_cX9_advance_71 (by decide +kernel) ?_
        refine G_putf (ws' := [(q4510, .inr (14, [.ref q4511, .int 1, .int 0, .int o4658, .int p4516])), (q4511, .inr (15, [.ref q4512, .int p4517])), (q4512, .inl (I .byte, 8192, .inl f4518))]) 0 1 d_cX9_advance_72 rfl (gk_X9 D I) (Nat.le_of_ble_eq_true rfl) w_1_80 rfl rfl rfl (Nat.le_of_ble_eq_true rfl) rfl ?_
        refine G_aload_n 3 d_cX9_advance_75 rfl ?_
        refine G_aload_n 3 d_cX9_advance_76 rfl ?_
        refine G_getf 0 3 d_cX9_advance_77 rfl (gk_X9 D I) (Nat.le_of_ble_eq_true rfl) w_1_82 rfl ?_
        refine G_putf (ws' := [(q4510, .inr (14, [.ref q4511, .int 1, .int 0, .int o4658, .int o4658])), (q4511, .inr (15, [.ref q4512, .int p4517])), (q4512, .inl (I .byte, 8192, .inl f4518))]) 0 4 d_cX9_advance_80 rfl (gk_X9 D I) (Nat.le_of_ble_eq_true rfl) w_1_83 rfl rfl rfl (Nat.le_of_ble_eq_true rfl) rfl ?_
        refine G_goto 194 d_cX9_advance_83 (by decide +kernel) ?_
        exact G_vret d_cX9_advance_194 rfl (Nat.le_of_ble_eq_true rfl) (Nat.le_of_ble_eq_true rfl) ⟨1, 0, o4658, o4658, rfl, rfl, (gB_w (gBl (show Int32.toInt 1 = 1 by decide)) (by decide) (by decide)), (gB_w (gBl (show Int32.toInt 0 = 0 by decide)) (by decide) (by decide)), bo4658, (gB_w bo4658 (by decide) (by decide)), (by have qa0 : Int32.toInt 0 = 0 := (by decide); have qa1 : Int32.toInt 1 = 1 := (by decide); omega), (fun R c1 c2 c3 c4 c5 c6 c7 c8 c9 c10 c11 c12 c13 c14 c15 c16 c17 c18 c19 c20 c21 c22 c23 c24 c25 c26 c27 c28 c29 c30 c31 c32 c33 c34 c35 c36 c37 c38 c39 c40 c41 c42 c43 c44 => c29 o4658 o4660 z4662 o4663 r4655 r4657 bo4658 ht4659 bo4660 ht4661 ez4662 bo4663 ht4664 r4780)⟩
    · have r4781 : p4513.toInt = 4 := gj_eq hc4656 (show Int32.toInt 4 = 4 by decide)
      have bp4513' : gB p4513 4 4 := ⟨by omega, by omega⟩
      refine G_iconst 1 d_cX9_advance_16 (by decide +kernel) ?_
      refine G_goto 21 d_cX9_advance_17 (by decide +kernel) ?_
      refine G_istore_n (L' := [(1, .int 1), (0, .ref q4510)]) d_cX9_advance_21 (Nat.le_of_ble_eq_true rfl) rfl ?_
      refine G_aload_n 1 d_cX9_advance_22 rfl ?_
      refine G_aload_n 1 d_cX9_advance_23 rfl ?_
      refine G_aload_n 1 d_cX9_advance_24 rfl ?_
      refine G_getf 0 4 d_cX9_advance_25 rfl (gk_X9 D I) (Nat.le_of_ble_eq_true rfl) w_1_83 rfl ?_
      refine G_callV (As := [.int p4516]) (wr := []) (gV_ok D I) (ct_275_Signs_skipBlanks l hl0 D I q4510 q4511 q4512 p4516 p4513 p4514 p4515 p4516 p4517 f4518 bp4517 bf4518 (by have qa0 : Int32.toInt 1 = 1 := (by decide); omega)) d_cX9_advance_28 ⟨w_3_12, w_1_4, w_3_15, by decide, rfl, (Nat.le_of_ble_eq_true rfl), (Nat.le_of_ble_eq_true rfl)⟩ w_3_14 w_p_0 0 rfl rfl [0, 1, 2] [] rfl rfl rfl rfl (by decide) (Nat.le_of_ble_eq_true rfl) (Nat.le_of_ble_eq_true rfl) (Nat.le_of_ble_eq_true rfl) (fun r w hp => ?_) (fun _ _ _ z => z.elim)
      obtain ⟨o4782, rfl, rfl, bo4782, ht4783⟩ := hp
      change G _ _ _ _ _ _ _ (.int o4782 :: _) _ _ _
      refine G_ws (ws' := [(q4510, .inr (14, [.ref q4511, .int p4513, .int p4514, .int p4515, .int p4516])), (q4511, .inr (15, [.ref q4512, .int p4517])), (q4512, .inl (I .byte, 8192, .inl f4518))]) (cs' := 0) (sl' := 0) rfl rfl rfl ?_
      refine G_putf (ws' := [(q4510, .inr (14, [.ref q4511, .int p4513, .int p4514, .int o4782, .int p4516])), (q4511, .inr (15, [.ref q4512, .int p4517])), (q4512, .inl (I .byte, 8192, .inl f4518))]) 0 3 d_cX9_advance_31 rfl (gk_X9 D I) (Nat.le_of_ble_eq_true rfl) w_1_82 rfl rfl rfl (Nat.le_of_ble_eq_true rfl) rfl ?_
      refine G_aload_n 1 d_cX9_advance_34 rfl ?_
      refine G_getf 0 0 d_cX9_advance_35 rfl (gk_X9 D I) (Nat.le_of_ble_eq_true rfl) w_1_79 rfl ?_
      refine G_aload_n 1 d_cX9_advance_38 rfl ?_
      refine G_getf 0 3 d_cX9_advance_39 rfl (gk_X9 D I) (Nat.le_of_ble_eq_true rfl) w_1_82 rfl ?_
      refine G_callV (As := [.int o4782]) (wr := [(q4510, .inr (14, [.ref q4511, .int p4513, .int p4514, .int o4782, .int p4516]))]) (gV_ok D I) (ct_31_Tape_byteAt l hl0 D I q4511 q4512 o4782 p4517 f4518 bp4517 bf4518) d_cX9_advance_42 ⟨w_3_20, w_1_2, w_3_23, by decide, rfl, (Nat.le_of_ble_eq_true rfl), (Nat.le_of_ble_eq_true rfl)⟩ w_3_21 w_3_22 1 rfl rfl [1, 2] [0] rfl rfl rfl rfl (by decide) (Nat.le_of_ble_eq_true rfl) (Nat.le_of_ble_eq_true rfl) (Nat.le_of_ble_eq_true rfl) (fun r w hp => ?_) (fun _ _ _ z => z.elim)
      obtain ⟨o4784, rfl, rfl, bo4784, ht4785⟩ := hp
      change G _ _ _ _ _ _ _ (.int o4784 :: _) _ _ _
      refine G_ws (ws' := [(q4510, .inr (14, [.ref q4511, .int p4513, .int p4514, .int o4782, .int p4516])), (q4511, .inr (15, [.ref q4512, .int p4517])), (q4512, .inl (I .byte, 8192, .inl f4518))]) (cs' := 0) (sl' := 0) rfl rfl rfl ?_
      refine G_istore_n (L' := [(2, .int o4784), (1, .int 1), (0, .ref q4510)]) d_cX9_advance_45 (Nat.le_of_ble_eq_true rfl) rfl ?_
      refine G_aload_n 2 d_cX9_advance_46 rfl ?_
      refine G_getf 0 0 d_cX9_advance_47 rfl (gk_X9 D I) (Nat.le_of_ble_eq_true rfl) w_1_79 rfl ?_
      refine G_aload_n 2 d_cX9_advance_50 rfl ?_
      refine G_getf 0 3 d_cX9_advance_51 rfl (gk_X9 D I) (Nat.le_of_ble_eq_true rfl) w_1_82 rfl ?_
      refine G_iconst 1 d_cX9_advance_54 (by decide +kernel) ?_
      refine G_iadd d_cX9_advance_55 (G_nam fun z4786 hz4786 => ?_)
      have ez4786 : z4786.toInt = o4782.toInt + 1 := by rw [gI_add hz4786 bo4782 (gBl (show Int32.toInt 1 = 1 by decide)) (by decide) (by decide), show Int32.toInt 1 = 1 from by decide]
      have bz4786 : gB z4786 (-2147483647) 8193 := gB_add (gI_add hz4786 bo4782 (gBl (show Int32.toInt 1 = 1 by decide)) (by decide) (by decide)) bo4782 (gBl (show Int32.toInt 1 = 1 by decide)) (by decide) (by decide)
      refine G_callV (As := [.int z4786]) (wr := [(q4510, .inr (14, [.ref q4511, .int p4513, .int p4514, .int o4782, .int p4516]))]) (gV_ok D I) (ct_31_Tape_byteAt l hl0 D I q4511 q4512 z4786 p4517 f4518 bp4517 bf4518) d_cX9_advance_56 ⟨w_3_20, w_1_2, w_3_23, by decide, rfl, (Nat.le_of_ble_eq_true rfl), (Nat.le_of_ble_eq_true rfl)⟩ w_3_21 w_3_22 1 rfl rfl [1, 2] [0] rfl rfl rfl rfl (by decide) (Nat.le_of_ble_eq_true rfl) (Nat.le_of_ble_eq_true rfl) (Nat.le_of_ble_eq_true rfl) (fun r w hp => ?_) (fun _ _ _ z => z.elim)
      obtain ⟨o4787, rfl, rfl, bo4787, ht4788⟩ := hp
      change G _ _ _ _ _ _ _ (.int o4787 :: _) _ _ _
      refine G_ws (ws' := [(q4510, .inr (14, [.ref q4511, .int p4513, .int p4514, .int o4782, .int p4516])), (q4511, .inr (15, [.ref q4512, .int p4517])), (q4512, .inl (I .byte, 8192, .inl f4518))]) (cs' := 0) (sl' := 0) rfl rfl rfl ?_
      refine G_istore_n (L' := [(3, .int o4787), (2, .int o4784), (1, .int 1), (0, .ref q4510)]) d_cX9_advance_59 (Nat.le_of_ble_eq_true rfl) rfl ?_
      refine G_aload_n 3 d_cX9_advance_60 rfl ?_
      refine G_iconst 0 d_cX9_advance_61 (by decide +kernel) ?_
      refine G_putf (ws' := [(q4510, .inr (14, [.ref q4511, .int p4513, .int 0, .int o4782, .int p4516])), (q4511, .inr (15, [.ref q4512, .int p4517])), (q4512, .inl (I .byte, 8192, .inl f4518))]) 0 2 d_cX9_advance_62 rfl (gk_X9 D I) (Nat.le_of_ble_eq_true rfl) w_1_81 rfl rfl rfl (Nat.le_of_ble_eq_true rfl) rfl ?_
      refine G_iload_n 1 d_cX9_advance_65 rfl ?_
      refine G_iconst (-1) d_cX9_advance_66 (by decide +kernel) ?_
      refine G_icmp_ne 86 d_cX9_advance_67 (by decide +kernel) (fun hc4789 => ?_) (fun hc4789 => ?_)
      · have r4790 : o4784.toInt ≠ (-1) := gj_neq hc4789 (show Int32.toInt (-1) = (-1) by decide)
        have bo4784' : gB o4784 0 255 := ⟨by omega, by omega⟩
        refine G_iload_n 1 d_cX9_advance_86 rfl ?_
        refine G_callS (As := [.int o4784]) (wr := [(q4510, .inr (14, [.ref q4511, .int p4513, .int 0, .int o4782, .int p4516])), (q4511, .inr (15, [.ref q4512, .int p4517])), (q4512, .inl (I .byte, 8192, .inl f4518))]) (gV_ok D I) (ct_247_Signs_isDigit l hl0 D I o4784 ) d_cX9_advance_87 ⟨w_3_24, w_1_4, w_3_26, by decide, rfl, (Nat.le_of_ble_eq_true rfl), (Nat.le_of_ble_eq_true rfl)⟩ w_3_25 [] [0, 1, 2] rfl rfl rfl rfl (by decide) (Nat.le_of_ble_eq_true rfl) (Nat.le_of_ble_eq_true rfl) (Nat.le_of_ble_eq_true rfl) (fun r w hp => ?_) (fun _ _ _ z => z.elim)
        obtain ⟨o4791, rfl, rfl, bo4791, ht4792⟩ := hp
        change G _ _ _ _ _ _ _ (.int o4791 :: _) _ _ _
        refine G_ws (ws' := [(q4510, .inr (14, [.ref q4511, .int p4513, .int 0, .int o4782, .int p4516])), (q4511, .inr (15, [.ref q4512, .int p4517])), (q4512, .inl (I .byte, 8192, .inl f4518))]) (cs' := 0) (sl' := 0) rfl rfl rfl ?_
        refine G_if_ne 110 d_cX9_advance_90 (by decide +kernel) (fun hc4793 => ?_) (fun hc4793 => ?_)
        · have r4794 : o4791.toInt ≠ 0 := gj_neq hc4793 (show Int32.toInt 0 = 0 by decide)
          have bo4791' : gB o4791 1 1 := ⟨by omega, by omega⟩
          refine G_aload_n 3 d_cX9_advance_110 rfl ?_
          refine G_iload_n 1 d_cX9_advance_111 rfl ?_
          refine G_bipush 45 d_cX9_advance_112 (by decide +kernel) ?_
          refine G_icmp_ne 121 d_cX9_advance_114 (by decide +kernel) (fun hc4795 => ?_) (fun hc4795 => ?_)
          · have r4796 : o4784.toInt ≠ 45 := gj_neq hc4795 (show Int32.toInt 45 = 45 by decide)
            refine G_iconst 0 d_cX9_advance_121 (by decide +kernel) ?_
            refine G_callV (As := [.int 0]) (wr := []) (gV_ok D I) (ct_474_Signs_takeNumber l hl0 D I q4510 q4511 q4512 0 p4513 0 o4782 p4516 p4517 f4518 (gB_w (gBl (show Int32.toInt 0 = 0 by decide)) (by decide) (by decide)) bp4517 bf4518 (by have qa0 : Int32.toInt 0 = 0 := (by decide); have qa1 : Int32.toInt 1 = 1 := (by decide); omega)) d_cX9_advance_122 ⟨w_3_27, w_1_4, w_3_30, by decide, rfl, (Nat.le_of_ble_eq_true rfl), (Nat.le_of_ble_eq_true rfl)⟩ w_3_29 w_p_1 0 rfl rfl [0, 1, 2] [] rfl rfl rfl rfl (by decide) (Nat.le_of_ble_eq_true rfl) (Nat.le_of_ble_eq_true rfl) (Nat.le_of_ble_eq_true rfl) (fun r w hp => ?_) (fun _ _ _ z => z.elim)
            obtain ⟨o4797, o4798, o4799, rfl, rfl, bo4797, bo4798, bo4799, x4800, ht4801⟩ := hp
            change G _ _ _ _ _ _ _ _ _ _ _
            refine G_ws (ws' := [(q4510, .inr (14, [.ref q4511, .int o4797, .int o4798, .int o4782, .int o4799])), (q4511, .inr (15, [.ref q4512, .int p4517])), (q4512, .inl (I .byte, 8192, .inl f4518))]) (cs' := 0) (sl' := 0) rfl rfl rfl ?_
            refine G_goto 194 d_cX9_advance_125 (by decide +kernel) ?_
            exact G_vret d_cX9_advance_194 rfl (Nat.le_of_ble_eq_true rfl) (Nat.le_of_ble_eq_true rfl) ⟨o4797, o4798, o4782, o4799, rfl, rfl, (gB_w bo4797 (by decide) (by decide)), bo4798, bo4782, bo4799, (by have qa0 : Int32.toInt 1 = 1 := (by decide); omega), (fun R c1 c2 c3 c4 c5 c6 c7 c8 c9 c10 c11 c12 c13 c14 c15 c16 c17 c18 c19 c20 c21 c22 c23 c24 c25 c26 c27 c28 c29 c30 c31 c32 c33 c34 c35 c36 c37 c38 c39 c40 c41 c42 c43 c44 => c30 o4782 o4784 z4786 o4787 o4791 o4797 o4798 o4799 r4655 r4781 bo4782 ht4783 bo4784 ht4785 ez4786 bo4787 ht4788 r4790 bo4791 ht4792 r4794 r4796 bo4797 ht4801)⟩
          · have r4802 : o4784.toInt = 45 := gj_eq hc4795 (show Int32.toInt 45 = 45 by decide)
            have bo4784'' : gB o4784 45 45 := ⟨by omega, by omega⟩
            refine G_iconst 1 d_cX9_advance_117 (by decide +kernel) ?_
            refine G_goto 122 d_cX9_advance_118 (by decide +kernel) ?_
            refine G_callV (As := [.int 1]) (wr := []) (gV_ok D I) (ct_474_Signs_takeNumber l hl0 D I q4510 q4511 q4512 1 p4513 0 o4782 p4516 p4517 f4518 (gB_w (gBl (show Int32.toInt 1 = 1 by decide)) (by decide) (by decide)) bp4517 bf4518 (by have qa0 : Int32.toInt 0 = 0 := (by decide); have qa1 : Int32.toInt 1 = 1 := (by decide); omega)) d_cX9_advance_122 ⟨w_3_27, w_1_4, w_3_30, by decide, rfl, (Nat.le_of_ble_eq_true rfl), (Nat.le_of_ble_eq_true rfl)⟩ w_3_29 w_p_1 0 rfl rfl [0, 1, 2] [] rfl rfl rfl rfl (by decide) (Nat.le_of_ble_eq_true rfl) (Nat.le_of_ble_eq_true rfl) (Nat.le_of_ble_eq_true rfl) (fun r w hp => ?_) (fun _ _ _ z => z.elim)
            obtain ⟨o4803, o4804, o4805, rfl, rfl, bo4803, bo4804, bo4805, x4806, ht4807⟩ := hp
            change G _ _ _ _ _ _ _ _ _ _ _
            refine G_ws (ws' := [(q4510, .inr (14, [.ref q4511, .int o4803, .int o4804, .int o4782, .int o4805])), (q4511, .inr (15, [.ref q4512, .int p4517])), (q4512, .inl (I .byte, 8192, .inl f4518))]) (cs' := 0) (sl' := 0) rfl rfl rfl ?_
            refine G_goto 194 d_cX9_advance_125 (by decide +kernel) ?_
            exact G_vret d_cX9_advance_194 rfl (Nat.le_of_ble_eq_true rfl) (Nat.le_of_ble_eq_true rfl) ⟨o4803, o4804, o4782, o4805, rfl, rfl, (gB_w bo4803 (by decide) (by decide)), bo4804, bo4782, bo4805, (by have qa0 : Int32.toInt 1 = 1 := (by decide); omega), (fun R c1 c2 c3 c4 c5 c6 c7 c8 c9 c10 c11 c12 c13 c14 c15 c16 c17 c18 c19 c20 c21 c22 c23 c24 c25 c26 c27 c28 c29 c30 c31 c32 c33 c34 c35 c36 c37 c38 c39 c40 c41 c42 c43 c44 => c31 o4782 o4784 z4786 o4787 o4791 o4803 o4804 o4805 r4655 r4781 bo4782 ht4783 bo4784 ht4785 ez4786 bo4787 ht4788 r4790 bo4791 ht4792 r4794 r4802 bo4803 ht4807)⟩
        · have r4808 : o4791.toInt = 0 := gj_eq hc4793 (show Int32.toInt 0 = 0 by decide)
          have bo4791' : gB o4791 0 0 := ⟨by omega, by omega⟩
          refine G_iload_n 1 d_cX9_advance_93 rfl ?_
          refine G_bipush 45 d_cX9_advance_94 (by decide +kernel) ?_
          refine G_icmp_ne 128 d_cX9_advance_96 (by decide +kernel) (fun hc4809 => ?_) (fun hc4809 => ?_)
          · have r4810 : o4784.toInt ≠ 45 := gj_neq hc4809 (show Int32.toInt 45 = 45 by decide)
            refine G_iload_n 1 d_cX9_advance_128 rfl ?_
            refine G_bipush 118 d_cX9_advance_129 (by decide +kernel) ?_
            refine G_icmp_ne 151 d_cX9_advance_131 (by decide +kernel) (fun hc4811 => ?_) (fun hc4811 => ?_)
            · have r4812 : o4784.toInt ≠ 118 := gj_neq hc4811 (show Int32.toInt 118 = 118 by decide)
              refine G_iload_n 1 d_cX9_advance_151 rfl ?_
              refine G_bipush 98 d_cX9_advance_152 (by decide +kernel) ?_
              refine G_icmp_ne 174 d_cX9_advance_154 (by decide +kernel) (fun hc4813 => ?_) (fun hc4813 => ?_)
              · have r4814 : o4784.toInt ≠ 98 := gj_neq hc4813 (show Int32.toInt 98 = 98 by decide)
                refine G_iload_n 1 d_cX9_advance_174 rfl ?_
                refine G_callS (As := [.int o4784]) (wr := [(q4510, .inr (14, [.ref q4511, .int p4513, .int 0, .int o4782, .int p4516])), (q4511, .inr (15, [.ref q4512, .int p4517])), (q4512, .inl (I .byte, 8192, .inl f4518))]) (gV_ok D I) (ct_256_Signs_isLetter l hl0 D I o4784 ) d_cX9_advance_175 ⟨w_3_45, w_1_4, w_3_47, by decide, rfl, (Nat.le_of_ble_eq_true rfl), (Nat.le_of_ble_eq_true rfl)⟩ w_3_46 [] [0, 1, 2] rfl rfl rfl rfl (by decide) (Nat.le_of_ble_eq_true rfl) (Nat.le_of_ble_eq_true rfl) (Nat.le_of_ble_eq_true rfl) (fun r w hp => ?_) (fun _ _ _ z => z.elim)
                obtain ⟨o4815, rfl, rfl, bo4815, ht4816⟩ := hp
                change G _ _ _ _ _ _ _ (.int o4815 :: _) _ _ _
                refine G_ws (ws' := [(q4510, .inr (14, [.ref q4511, .int p4513, .int 0, .int o4782, .int p4516])), (q4511, .inr (15, [.ref q4512, .int p4517])), (q4512, .inl (I .byte, 8192, .inl f4518))]) (cs' := 0) (sl' := 0) rfl rfl rfl ?_
                refine G_if_eq 188 d_cX9_advance_178 (by decide +kernel) (fun hc4817 => ?_) (fun hc4817 => ?_)
                · have r4818 : o4815.toInt = 0 := gj_eq hc4817 (show Int32.toInt 0 = 0 by decide)
                  have bo4815' : gB o4815 0 0 := ⟨by omega, by omega⟩
                  refine G_aload_n 3 d_cX9_advance_188 rfl ?_
                  refine G_iload_n 1 d_cX9_advance_189 rfl ?_
                  refine G_iload_n 0 d_cX9_advance_190 rfl ?_
                  refine G_callV (As := [.int o4784, .int o4787]) (wr := []) (gV_ok D I) (ct_4473_Signs_takeMark l hl0 D I q4510 q4511 q4512 o4784 o4787 p4513 0 o4782 p4516 p4517 f4518 bp4517 bf4518 (by have qa0 : Int32.toInt 0 = 0 := (by decide); have qa1 : Int32.toInt 1 = 1 := (by decide); omega)) d_cX9_advance_191 ⟨w_3_109, w_1_4, w_3_112, by decide, rfl, (Nat.le_of_ble_eq_true rfl), (Nat.le_of_ble_eq_true rfl)⟩ w_3_111 w_p_6 0 rfl rfl [0, 1, 2] [] rfl rfl rfl rfl (by decide) (Nat.le_of_ble_eq_true rfl) (Nat.le_of_ble_eq_true rfl) (Nat.le_of_ble_eq_true rfl) (fun r w hp => ?_) (fun _ _ _ z => z.elim)
                  obtain ⟨o4819, o4820, o4821, rfl, rfl, bo4819, bo4820, bo4821, x4822, ht4823⟩ := hp
                  change G _ _ _ _ _ _ _ _ _ _ _
                  refine G_ws (ws' := [(q4510, .inr (14, [.ref q4511, .int o4819, .int o4820, .int o4782, .int o4821])), (q4511, .inr (15, [.ref q4512, .int p4517])), (q4512, .inl (I .byte, 8192, .inl f4518))]) (cs' := 0) (sl' := 0) rfl rfl rfl ?_
                  exact G_vret d_cX9_advance_194 rfl (Nat.le_of_ble_eq_true rfl) (Nat.le_of_ble_eq_true rfl) ⟨o4819, o4820, o4782, o4821, rfl, rfl, (gB_w bo4819 (by decide) (by decide)), (gB_w bo4820 (by decide) (by decide)), bo4782, bo4821, (by have qa0 : Int32.toInt 1 = 1 := (by decide); omega), (fun R c1 c2 c3 c4 c5 c6 c7 c8 c9 c10 c11 c12 c13 c14 c15 c16 c17 c18 c19 c20 c21 c22 c23 c24 c25 c26 c27 c28 c29 c30 c31 c32 c33 c34 c35 c36 c37 c38 c39 c40 c41 c42 c43 c44 => c32 o4782 o4784 z4786 o4787 o4791 o4815 o4819 o4820 o4821 r4655 r4781 bo4782 ht4783 bo4784 ht4785 ez4786 bo4787 ht4788 r4790 bo4791 ht4792 r4808 r4810 r4812 r4814 bo4815 ht4816 r4818 bo4819 bo4820 ht4823)⟩
                · have r4824 : o4815.toInt ≠ 0 := gj_neq hc4817 (show Int32.toInt 0 = 0 by decide)
                  have bo4815' : gB o4815 1 1 := ⟨by omega, by omega⟩
                  refine G_aload_n 3 d_cX9_advance_181 rfl ?_
                  refine G_callV (As := []) (wr := []) (gV_ok D I) (ct_3904_Signs_takeWord l hl0 D I q4510 q4511 q4512 p4513 0 o4782 p4516 p4517 f4518 bp4517 bf4518 (by have qa0 : Int32.toInt 0 = 0 := (by decide); have qa1 : Int32.toInt 1 = 1 := (by decide); omega)) d_cX9_advance_182 ⟨w_3_48, w_1_4, w_3_51, by decide, rfl, (Nat.le_of_ble_eq_true rfl), (Nat.le_of_ble_eq_true rfl)⟩ w_3_50 w_p_4 0 rfl rfl [0, 1, 2] [] rfl rfl rfl rfl (by decide) (Nat.le_of_ble_eq_true rfl) (Nat.le_of_ble_eq_true rfl) (Nat.le_of_ble_eq_true rfl) (fun r w hp => ?_) (fun _ _ _ z => z.elim)
                  obtain ⟨o4825, o4826, rfl, rfl, bo4825, bo4826, x4827, ht4828⟩ := hp
                  rw [show Int32.toInt 0 = 0 from by decide] at x4827
                  change G _ _ _ _ _ _ _ _ _ _ _
                  refine G_ws (ws' := [(q4510, .inr (14, [.ref q4511, .int o4825, .int 0, .int o4782, .int o4826])), (q4511, .inr (15, [.ref q4512, .int p4517])), (q4512, .inl (I .byte, 8192, .inl f4518))]) (cs' := 0) (sl' := 0) rfl rfl rfl ?_
                  refine G_goto 194 d_cX9_advance_185 (by decide +kernel) ?_
                  exact G_vret d_cX9_advance_194 rfl (Nat.le_of_ble_eq_true rfl) (Nat.le_of_ble_eq_true rfl) ⟨o4825, 0, o4782, o4826, rfl, rfl, bo4825, (gB_w (gBl (show Int32.toInt 0 = 0 by decide)) (by decide) (by decide)), bo4782, bo4826, (by have qa0 : Int32.toInt 0 = 0 := (by decide); have qa1 : Int32.toInt 1 = 1 := (by decide); omega), (fun R c1 c2 c3 c4 c5 c6 c7 c8 c9 c10 c11 c12 c13 c14 c15 c16 c17 c18 c19 c20 c21 c22 c23 c24 c25 c26 c27 c28 c29 c30 c31 c32 c33 c34 c35 c36 c37 c38 c39 c40 c41 c42 c43 c44 => c33 o4782 o4784 z4786 o4787 o4791 o4815 o4825 o4826 r4655 r4781 bo4782 ht4783 bo4784 ht4785 ez4786 bo4787 ht4788 r4790 bo4791 ht4792 r4808 r4810 r4812 r4814 bo4815 ht4816 r4824 bo4825 ht4828)⟩
              · have r4829 : o4784.toInt = 98 := gj_eq hc4813 (show Int32.toInt 98 = 98 by decide)
                have bo4784'' : gB o4784 98 98 := ⟨by omega, by omega⟩
                refine G_iload_n 0 d_cX9_advance_157 rfl ?_
                refine G_callS (As := [.int o4787]) (wr := [(q4510, .inr (14, [.ref q4511, .int p4513, .int 0, .int o4782, .int p4516])), (q4511, .inr (15, [.ref q4512, .int p4517])), (q4512, .inl (I .byte, 8192, .inl f4518))]) (gV_ok D I) (ct_247_Signs_isDigit l hl0 D I o4787 ) d_cX9_advance_158 ⟨w_3_24, w_1_4, w_3_26, by decide, rfl, (Nat.le_of_ble_eq_true rfl), (Nat.le_of_ble_eq_true rfl)⟩ w_3_25 [] [0, 1, 2] rfl rfl rfl rfl (by decide) (Nat.le_of_ble_eq_true rfl) (Nat.le_of_ble_eq_true rfl) (Nat.le_of_ble_eq_true rfl) (fun r w hp => ?_) (fun _ _ _ z => z.elim)
                obtain ⟨o4830, rfl, rfl, bo4830, ht4831⟩ := hp
                change G _ _ _ _ _ _ _ (.int o4830 :: _) _ _ _
                refine G_ws (ws' := [(q4510, .inr (14, [.ref q4511, .int p4513, .int 0, .int o4782, .int p4516])), (q4511, .inr (15, [.ref q4512, .int p4517])), (q4512, .inl (I .byte, 8192, .inl f4518))]) (cs' := 0) (sl' := 0) rfl rfl rfl ?_
                refine G_if_eq 174 d_cX9_advance_161 (by decide +kernel) (fun hc4832 => ?_) (fun hc4832 => ?_)
                · have r4833 : o4830.toInt = 0 := gj_eq hc4832 (show Int32.toInt 0 = 0 by decide)
                  have bo4830' : gB o4830 0 0 := ⟨by omega, by omega⟩
                  refine G_iload_n 1 d_cX9_advance_174 rfl ?_
                  refine G_callS (As := [.int o4784]) (wr := [(q4510, .inr (14, [.ref q4511, .int p4513, .int 0, .int o4782, .int p4516])), (q4511, .inr (15, [.ref q4512, .int p4517])), (q4512, .inl (I .byte, 8192, .inl f4518))]) (gV_ok D I) (ct_256_Signs_isLetter l hl0 D I o4784 ) d_cX9_advance_175 ⟨w_3_45, w_1_4, w_3_47, by decide, rfl, (Nat.le_of_ble_eq_true rfl), (Nat.le_of_ble_eq_true rfl)⟩ w_3_46 [] [0, 1, 2] rfl rfl rfl rfl (by decide) (Nat.le_of_ble_eq_true rfl) (Nat.le_of_ble_eq_true rfl) (Nat.le_of_ble_eq_true rfl) (fun r w hp => ?_) (fun _ _ _ z => z.elim)
                  obtain ⟨o4834, rfl, rfl, bo4834, ht4835⟩ := hp
                  change G _ _ _ _ _ _ _ (.int o4834 :: _) _ _ _
                  refine G_ws (ws' := [(q4510, .inr (14, [.ref q4511, .int p4513, .int 0, .int o4782, .int p4516])), (q4511, .inr (15, [.ref q4512, .int p4517])), (q4512, .inl (I .byte, 8192, .inl f4518))]) (cs' := 0) (sl' := 0) rfl rfl rfl ?_
                  refine G_if_eq 188 d_cX9_advance_178 (by decide +kernel) (fun hc4836 => ?_) (fun hc4836 => ?_)
                  · have r4837 : o4834.toInt = 0 := gj_eq hc4836 (show Int32.toInt 0 = 0 by decide)
                    have bo4834' : gB o4834 0 0 := ⟨by omega, by omega⟩
                    refine G_aload_n 3 d_cX9_advance_188 rfl ?_
                    refine G_iload_n 1 d_cX9_advance_189 rfl ?_
                    refine G_iload_n 0 d_cX9_advance_190 rfl ?_
                    refine G_callV (As := [.int o4784, .int o4787]) (wr := []) (gV_ok D I) (ct_4473_Signs_takeMark l hl0 D I q4510 q4511 q4512 o4784 o4787 p4513 0 o4782 p4516 p4517 f4518 bp4517 bf4518 (by have qa0 : Int32.toInt 0 = 0 := (by decide); have qa1 : Int32.toInt 1 = 1 := (by decide); omega)) d_cX9_advance_191 ⟨w_3_109, w_1_4, w_3_112, by decide, rfl, (Nat.le_of_ble_eq_true rfl), (Nat.le_of_ble_eq_true rfl)⟩ w_3_111 w_p_6 0 rfl rfl [0, 1, 2] [] rfl rfl rfl rfl (by decide) (Nat.le_of_ble_eq_true rfl) (Nat.le_of_ble_eq_true rfl) (Nat.le_of_ble_eq_true rfl) (fun r w hp => ?_) (fun _ _ _ z => z.elim)
                    obtain ⟨o4838, o4839, o4840, rfl, rfl, bo4838, bo4839, bo4840, x4841, ht4842⟩ := hp
                    change G _ _ _ _ _ _ _ _ _ _ _
                    refine G_ws (ws' := [(q4510, .inr (14, [.ref q4511, .int o4838, .int o4839, .int o4782, .int o4840])), (q4511, .inr (15, [.ref q4512, .int p4517])), (q4512, .inl (I .byte, 8192, .inl f4518))]) (cs' := 0) (sl' := 0) rfl rfl rfl ?_
                    exact G_vret d_cX9_advance_194 rfl (Nat.le_of_ble_eq_true rfl) (Nat.le_of_ble_eq_true rfl) ⟨o4838, o4839, o4782, o4840, rfl, rfl, (gB_w bo4838 (by decide) (by decide)), (gB_w bo4839 (by decide) (by decide)), bo4782, bo4840, (by have qa0 : Int32.toInt 1 = 1 := (by decide); omega), (fun R c1 c2 c3 c4 c5 c6 c7 c8 c9 c10 c11 c12 c13 c14 c15 c16 c17 c18 c19 c20 c21 c22 c23 c24 c25 c26 c27 c28 c29 c30 c31 c32 c33 c34 c35 c36 c37 c38 c39 c40 c41 c42 c43 c44 => c34 o4782 o4784 z4786 o4787 o4791 o4830 o4834 o4838 o4839 o4840 r4655 r4781 bo4782 ht4783 bo4784 ht4785 ez4786 bo4787 ht4788 r4790 bo4791 ht4792 r4808 r4810 r4812 r4829 bo4830 ht4831 r4833 bo4834 ht4835 r4837 bo4838 bo4839 ht4842)⟩
                  · have r4843 : o4834.toInt ≠ 0 := gj_neq hc4836 (show Int32.toInt 0 = 0 by decide)
                    have bo4834' : gB o4834 1 1 := ⟨by omega, by omega⟩
                    refine G_aload_n 3 d_cX9_advance_181 rfl ?_
                    refine G_callV (As := []) (wr := []) (gV_ok D I) (ct_3904_Signs_takeWord l hl0 D I q4510 q4511 q4512 p4513 0 o4782 p4516 p4517 f4518 bp4517 bf4518 (by have qa0 : Int32.toInt 0 = 0 := (by decide); have qa1 : Int32.toInt 1 = 1 := (by decide); omega)) d_cX9_advance_182 ⟨w_3_48, w_1_4, w_3_51, by decide, rfl, (Nat.le_of_ble_eq_true rfl), (Nat.le_of_ble_eq_true rfl)⟩ w_3_50 w_p_4 0 rfl rfl [0, 1, 2] [] rfl rfl rfl rfl (by decide) (Nat.le_of_ble_eq_true rfl) (Nat.le_of_ble_eq_true rfl) (Nat.le_of_ble_eq_true rfl) (fun r w hp => ?_) (fun _ _ _ z => z.elim)
                    obtain ⟨o4844, o4845, rfl, rfl, bo4844, bo4845, x4846, ht4847⟩ := hp
                    rw [show Int32.toInt 0 = 0 from by decide] at x4846
                    change G _ _ _ _ _ _ _ _ _ _ _
                    refine G_ws (ws' := [(q4510, .inr (14, [.ref q4511, .int o4844, .int 0, .int o4782, .int o4845])), (q4511, .inr (15, [.ref q4512, .int p4517])), (q4512, .inl (I .byte, 8192, .inl f4518))]) (cs' := 0) (sl' := 0) rfl rfl rfl ?_
                    refine G_goto 194 d_cX9_advance_185 (by decide +kernel) ?_
                    exact G_vret d_cX9_advance_194 rfl (Nat.le_of_ble_eq_true rfl) (Nat.le_of_ble_eq_true rfl) ⟨o4844, 0, o4782, o4845, rfl, rfl, bo4844, (gB_w (gBl (show Int32.toInt 0 = 0 by decide)) (by decide) (by decide)), bo4782, bo4845, (by have qa0 : Int32.toInt 0 = 0 := (by decide); have qa1 : Int32.toInt 1 = 1 := (by decide); omega), (fun R c1 c2 c3 c4 c5 c6 c7 c8 c9 c10 c11 c12 c13 c14 c15 c16 c17 c18 c19 c20 c21 c22 c23 c24 c25 c26 c27 c28 c29 c30 c31 c32 c33 c34 c35 c36 c37 c38 c39 c40 c41 c42 c43 c44 => c35 o4782 o4784 z4786 o4787 o4791 o4830 o4834 o4844 o4845 r4655 r4781 bo4782 ht4783 bo4784 ht4785 ez4786 bo4787 ht4788 r4790 bo4791 ht4792 r4808 r4810 r4812 r4829 bo4830 ht4831 r4833 bo4834 ht4835 r4843 bo4844 ht4847)⟩
                · have r4848 : o4830.toInt ≠ 0 := gj_neq hc4832 (show Int32.toInt 0 = 0 by decide)
                  have bo4830' : gB o4830 1 1 := ⟨by omega, by omega⟩
                  refine G_aload_n 3 d_cX9_advance_164 rfl ?_
                  refine G_iconst 3 d_cX9_advance_165 (by decide +kernel) ?_
                  refine G_bipush 40 d_cX9_advance_166 (by decide +kernel) ?_
                  refine G_callV (As := [.int 3, .int 40]) (wr := []) (gV_ok D I) (ct_513_Signs_takeNamed l hl0 D I q4510 q4511 q4512 3 40 p4513 0 o4782 p4516 p4517 f4518 (gB_w (gBl (show Int32.toInt 3 = 3 by decide)) (by decide) (by decide)) bp4517 bf4518 (by have qa0 : Int32.toInt 0 = 0 := (by decide); have qa1 : Int32.toInt 1 = 1 := (by decide); have qa2 : Int32.toInt 3 = 3 := (by decide); have qa3 : Int32.toInt 40 = 40 := (by decide); omega)) d_cX9_advance_168 ⟨w_3_41, w_1_4, w_3_44, by decide, rfl, (Nat.le_of_ble_eq_true rfl), (Nat.le_of_ble_eq_true rfl)⟩ w_3_43 w_p_3 0 rfl rfl [0, 1, 2] [] rfl rfl rfl rfl (by decide) (Nat.le_of_ble_eq_true rfl) (Nat.le_of_ble_eq_true rfl) (Nat.le_of_ble_eq_true rfl) (fun r w hp => ?_) (fun _ _ _ z => z.elim)
                  obtain ⟨o4849, o4850, o4851, rfl, rfl, bo4849, bo4850, bo4851, x4852, ht4853⟩ := hp
                  change G _ _ _ _ _ _ _ _ _ _ _
                  refine G_ws (ws' := [(q4510, .inr (14, [.ref q4511, .int o4849, .int o4850, .int o4782, .int o4851])), (q4511, .inr (15, [.ref q4512, .int p4517])), (q4512, .inl (I .byte, 8192, .inl f4518))]) (cs' := 0) (sl' := 0) rfl rfl rfl ?_
                  refine G_goto 194 d_cX9_advance_171 (by decide +kernel) ?_
                  exact G_vret d_cX9_advance_194 rfl (Nat.le_of_ble_eq_true rfl) (Nat.le_of_ble_eq_true rfl) ⟨o4849, o4850, o4782, o4851, rfl, rfl, (gB_w bo4849 (by decide) (by decide)), bo4850, bo4782, bo4851, (by have qa0 : Int32.toInt 1 = 1 := (by decide); omega), (fun R c1 c2 c3 c4 c5 c6 c7 c8 c9 c10 c11 c12 c13 c14 c15 c16 c17 c18 c19 c20 c21 c22 c23 c24 c25 c26 c27 c28 c29 c30 c31 c32 c33 c34 c35 c36 c37 c38 c39 c40 c41 c42 c43 c44 => c36 o4782 o4784 z4786 o4787 o4791 o4830 o4849 o4850 o4851 r4655 r4781 bo4782 ht4783 bo4784 ht4785 ez4786 bo4787 ht4788 r4790 bo4791 ht4792 r4808 r4810 r4812 r4829 bo4830 ht4831 r4848 bo4849 ht4853)⟩
            · have r4854 : o4784.toInt = 118 := gj_eq hc4811 (show Int32.toInt 118 = 118 by decide)
              have bo4784'' : gB o4784 118 118 := ⟨by omega, by omega⟩
              refine G_iload_n 0 d_cX9_advance_134 rfl ?_
              refine G_callS (As := [.int o4787]) (wr := [(q4510, .inr (14, [.ref q4511, .int p4513, .int 0, .int o4782, .int p4516])), (q4511, .inr (15, [.ref q4512, .int p4517])), (q4512, .inl (I .byte, 8192, .inl f4518))]) (gV_ok D I) (ct_247_Signs_isDigit l hl0 D I o4787 ) d_cX9_advance_135 ⟨w_3_24, w_1_4, w_3_26, by decide, rfl, (Nat.le_of_ble_eq_true rfl), (Nat.le_of_ble_eq_true rfl)⟩ w_3_25 [] [0, 1, 2] rfl rfl rfl rfl (by decide) (Nat.le_of_ble_eq_true rfl) (Nat.le_of_ble_eq_true rfl) (Nat.le_of_ble_eq_true rfl) (fun r w hp => ?_) (fun _ _ _ z => z.elim)
              obtain ⟨o4855, rfl, rfl, bo4855, ht4856⟩ := hp
              change G _ _ _ _ _ _ _ (.int o4855 :: _) _ _ _
              refine G_ws (ws' := [(q4510, .inr (14, [.ref q4511, .int p4513, .int 0, .int o4782, .int p4516])), (q4511, .inr (15, [.ref q4512, .int p4517])), (q4512, .inl (I .byte, 8192, .inl f4518))]) (cs' := 0) (sl' := 0) rfl rfl rfl ?_
              refine G_if_eq 151 d_cX9_advance_138 (by decide +kernel) (fun hc4857 => ?_) (fun hc4857 => ?_)
              · have r4858 : o4855.toInt = 0 := gj_eq hc4857 (show Int32.toInt 0 = 0 by decide)
                have bo4855' : gB o4855 0 0 := ⟨by omega, by omega⟩
                refine G_iload_n 1 d_cX9_advance_151 rfl ?_
                refine G_bipush 98 d_cX9_advance_152 (by decide +kernel) ?_
                refine G_icmp_ne 174 d_cX9_advance_154 (by decide +kernel) (fun _ => ?_) (fun hc => absurd (show False by have := gj_eq hc (show Int32.toInt 98 = 98 by decide); omega) not_false)
                refine G_iload_n 1 d_cX9_advance_174 rfl ?_
                refine G_callS (As := [.int o4784]) (wr := [(q4510, .inr (14, [.ref q4511, .int p4513, .int 0, .int o4782, .int p4516])), (q4511, .inr (15, [.ref q4512, .int p4517])), (q4512, .inl (I .byte, 8192, .inl f4518))]) (gV_ok D I) (ct_256_Signs_isLetter l hl0 D I o4784 ) d_cX9_advance_175 ⟨w_3_45, w_1_4, w_3_47, by decide, rfl, (Nat.le_of_ble_eq_true rfl), (Nat.le_of_ble_eq_true rfl)⟩ w_3_46 [] [0, 1, 2] rfl rfl rfl rfl (by decide) (Nat.le_of_ble_eq_true rfl) (Nat.le_of_ble_eq_true rfl) (Nat.le_of_ble_eq_true rfl) (fun r w hp => ?_) (fun _ _ _ z => z.elim)
                obtain ⟨o4859, rfl, rfl, bo4859, ht4860⟩ := hp
                change G _ _ _ _ _ _ _ (.int o4859 :: _) _ _ _
                refine G_ws (ws' := [(q4510, .inr (14, [.ref q4511, .int p4513, .int 0, .int o4782, .int p4516])), (q4511, .inr (15, [.ref q4512, .int p4517])), (q4512, .inl (I .byte, 8192, .inl f4518))]) (cs' := 0) (sl' := 0) rfl rfl rfl ?_
                refine G_if_eq 188 d_cX9_advance_178 (by decide +kernel) (fun hc4861 => ?_) (fun hc4861 => ?_)
                · have r4862 : o4859.toInt = 0 := gj_eq hc4861 (show Int32.toInt 0 = 0 by decide)
                  have bo4859' : gB o4859 0 0 := ⟨by omega, by omega⟩
                  refine G_aload_n 3 d_cX9_advance_188 rfl ?_
                  refine G_iload_n 1 d_cX9_advance_189 rfl ?_
                  refine G_iload_n 0 d_cX9_advance_190 rfl ?_
                  refine G_callV (As := [.int o4784, .int o4787]) (wr := []) (gV_ok D I) (ct_4473_Signs_takeMark l hl0 D I q4510 q4511 q4512 o4784 o4787 p4513 0 o4782 p4516 p4517 f4518 bp4517 bf4518 (by have qa0 : Int32.toInt 0 = 0 := (by decide); have qa1 : Int32.toInt 1 = 1 := (by decide); omega)) d_cX9_advance_191 ⟨w_3_109, w_1_4, w_3_112, by decide, rfl, (Nat.le_of_ble_eq_true rfl), (Nat.le_of_ble_eq_true rfl)⟩ w_3_111 w_p_6 0 rfl rfl [0, 1, 2] [] rfl rfl rfl rfl (by decide) (Nat.le_of_ble_eq_true rfl) (Nat.le_of_ble_eq_true rfl) (Nat.le_of_ble_eq_true rfl) (fun r w hp => ?_) (fun _ _ _ z => z.elim)
                  obtain ⟨o4863, o4864, o4865, rfl, rfl, bo4863, bo4864, bo4865, x4866, ht4867⟩ := hp
                  change G _ _ _ _ _ _ _ _ _ _ _
                  refine G_ws (ws' := [(q4510, .inr (14, [.ref q4511, .int o4863, .int o4864, .int o4782, .int o4865])), (q4511, .inr (15, [.ref q4512, .int p4517])), (q4512, .inl (I .byte, 8192, .inl f4518))]) (cs' := 0) (sl' := 0) rfl rfl rfl ?_
                  exact G_vret d_cX9_advance_194 rfl (Nat.le_of_ble_eq_true rfl) (Nat.le_of_ble_eq_true rfl) ⟨o4863, o4864, o4782, o4865, rfl, rfl, (gB_w bo4863 (by decide) (by decide)), (gB_w bo4864 (by decide) (by decide)), bo4782, bo4865, (by have qa0 : Int32.toInt 1 = 1 := (by decide); omega), (fun R c1 c2 c3 c4 c5 c6 c7 c8 c9 c10 c11 c12 c13 c14 c15 c16 c17 c18 c19 c20 c21 c22 c23 c24 c25 c26 c27 c28 c29 c30 c31 c32 c33 c34 c35 c36 c37 c38 c39 c40 c41 c42 c43 c44 => c37 o4782 o4784 z4786 o4787 o4791 o4855 o4859 o4863 o4864 o4865 r4655 r4781 bo4782 ht4783 bo4784 ht4785 ez4786 bo4787 ht4788 r4790 bo4791 ht4792 r4808 r4810 r4854 bo4855 ht4856 r4858 bo4859 ht4860 r4862 bo4863 bo4864 ht4867)⟩
                · have r4868 : o4859.toInt ≠ 0 := gj_neq hc4861 (show Int32.toInt 0 = 0 by decide)
                  have bo4859' : gB o4859 1 1 := ⟨by omega, by omega⟩
                  refine G_aload_n 3 d_cX9_advance_181 rfl ?_
                  refine G_callV (As := []) (wr := []) (gV_ok D I) (ct_3904_Signs_takeWord l hl0 D I q4510 q4511 q4512 p4513 0 o4782 p4516 p4517 f4518 bp4517 bf4518 (by have qa0 : Int32.toInt 0 = 0 := (by decide); have qa1 : Int32.toInt 1 = 1 := (by decide); omega)) d_cX9_advance_182 ⟨w_3_48, w_1_4, w_3_51, by decide, rfl, (Nat.le_of_ble_eq_true rfl), (Nat.le_of_ble_eq_true rfl)⟩ w_3_50 w_p_4 0 rfl rfl [0, 1, 2] [] rfl rfl rfl rfl (by decide) (Nat.le_of_ble_eq_true rfl) (Nat.le_of_ble_eq_true rfl) (Nat.le_of_ble_eq_true rfl) (fun r w hp => ?_) (fun _ _ _ z => z.elim)
                  obtain ⟨o4869, o4870, rfl, rfl, bo4869, bo4870, x4871, ht4872⟩ := hp
                  rw [show Int32.toInt 0 = 0 from by decide] at x4871
                  change G _ _ _ _ _ _ _ _ _ _ _
                  refine G_ws (ws' := [(q4510, .inr (14, [.ref q4511, .int o4869, .int 0, .int o4782, .int o4870])), (q4511, .inr (15, [.ref q4512, .int p4517])), (q4512, .inl (I .byte, 8192, .inl f4518))]) (cs' := 0) (sl' := 0) rfl rfl rfl ?_
                  refine G_goto 194 d_cX9_advance_185 (by decide +kernel) ?_
                  exact G_vret d_cX9_advance_194 rfl (Nat.le_of_ble_eq_true rfl) (Nat.le_of_ble_eq_true rfl) ⟨o4869, 0, o4782, o4870, rfl, rfl, bo4869, (gB_w (gBl (show Int32.toInt 0 = 0 by decide)) (by decide) (by decide)), bo4782, bo4870, (by have qa0 : Int32.toInt 0 = 0 := (by decide); have qa1 : Int32.toInt 1 = 1 := (by decide); omega), (fun R c1 c2 c3 c4 c5 c6 c7 c8 c9 c10 c11 c12 c13 c14 c15 c16 c17 c18 c19 c20 c21 c22 c23 c24 c25 c26 c27 c28 c29 c30 c31 c32 c33 c34 c35 c36 c37 c38 c39 c40 c41 c42 c43 c44 => c38 o4782 o4784 z4786 o4787 o4791 o4855 o4859 o4869 o4870 r4655 r4781 bo4782 ht4783 bo4784 ht4785 ez4786 bo4787 ht4788 r4790 bo4791 ht4792 r4808 r4810 r4854 bo4855 ht4856 r4858 bo4859 ht4860 r4868 bo4869 ht4872)⟩
              · have r4873 : o4855.toInt ≠ 0 := gj_neq hc4857 (show Int32.toInt 0 = 0 by decide)
                have bo4855' : gB o4855 1 1 := ⟨by omega, by omega⟩
                refine G_aload_n 3 d_cX9_advance_141 rfl ?_
                refine G_iconst 2 d_cX9_advance_142 (by decide +kernel) ?_
                refine G_bipush 100 d_cX9_advance_143 (by decide +kernel) ?_
                refine G_callV (As := [.int 2, .int 100]) (wr := []) (gV_ok D I) (ct_513_Signs_takeNamed l hl0 D I q4510 q4511 q4512 2 100 p4513 0 o4782 p4516 p4517 f4518 (gB_w (gBl (show Int32.toInt 2 = 2 by decide)) (by decide) (by decide)) bp4517 bf4518 (by have qa0 : Int32.toInt 0 = 0 := (by decide); have qa1 : Int32.toInt 1 = 1 := (by decide); have qa2 : Int32.toInt 2 = 2 := (by decide); have qa3 : Int32.toInt 100 = 100 := (by decide); omega)) d_cX9_advance_145 ⟨w_3_41, w_1_4, w_3_44, by decide, rfl, (Nat.le_of_ble_eq_true rfl), (Nat.le_of_ble_eq_true rfl)⟩ w_3_43 w_p_3 0 rfl rfl [0, 1, 2] [] rfl rfl rfl rfl (by decide) (Nat.le_of_ble_eq_true rfl) (Nat.le_of_ble_eq_true rfl) (Nat.le_of_ble_eq_true rfl) (fun r w hp => ?_) (fun _ _ _ z => z.elim)
                obtain ⟨o4874, o4875, o4876, rfl, rfl, bo4874, bo4875, bo4876, x4877, ht4878⟩ := hp
                change G _ _ _ _ _ _ _ _ _ _ _
                refine G_ws (ws' := [(q4510, .inr (14, [.ref q4511, .int o4874, .int o4875, .int o4782, .int o4876])), (q4511, .inr (15, [.ref q4512, .int p4517])), (q4512, .inl (I .byte, 8192, .inl f4518))]) (cs' := 0) (sl' := 0) rfl rfl rfl ?_
                refine G_goto 194 d_cX9_advance_148 (by decide +kernel) ?_
                exact G_vret d_cX9_advance_194 rfl (Nat.le_of_ble_eq_true rfl) (Nat.le_of_ble_eq_true rfl) ⟨o4874, o4875, o4782, o4876, rfl, rfl, (gB_w bo4874 (by decide) (by decide)), bo4875, bo4782, bo4876, (by have qa0 : Int32.toInt 1 = 1 := (by decide); omega), (fun R c1 c2 c3 c4 c5 c6 c7 c8 c9 c10 c11 c12 c13 c14 c15 c16 c17 c18 c19 c20 c21 c22 c23 c24 c25 c26 c27 c28 c29 c30 c31 c32 c33 c34 c35 c36 c37 c38 c39 c40 c41 c42 c43 c44 => c39 o4782 o4784 z4786 o4787 o4791 o4855 o4874 o4875 o4876 r4655 r4781 bo4782 ht4783 bo4784 ht4785 ez4786 bo4787 ht4788 r4790 bo4791 ht4792 r4808 r4810 r4854 bo4855 ht4856 r4873 bo4874 ht4878)⟩
          · have r4879 : o4784.toInt = 45 := gj_eq hc4809 (show Int32.toInt 45 = 45 by decide)
            have bo4784'' : gB o4784 45 45 := ⟨by omega, by omega⟩
            refine G_iload_n 0 d_cX9_advance_99 rfl ?_
            refine G_callS (As := [.int o4787]) (wr := [(q4510, .inr (14, [.ref q4511, .int p4513, .int 0, .int o4782, .int p4516])), (q4511, .inr (15, [.ref q4512, .int p4517])), (q4512, .inl (I .byte, 8192, .inl f4518))]) (gV_ok D I) (ct_247_Signs_isDigit l hl0 D I o4787 ) d_cX9_advance_100 ⟨w_3_24, w_1_4, w_3_26, by decide, rfl, (Nat.le_of_ble_eq_true rfl), (Nat.le_of_ble_eq_true rfl)⟩ w_3_25 [] [0, 1, 2] rfl rfl rfl rfl (by decide) (Nat.le_of_ble_eq_true rfl) (Nat.le_of_ble_eq_true rfl) (Nat.le_of_ble_eq_true rfl) (fun r w hp => ?_) (fun _ _ _ z => z.elim)
            obtain ⟨o4880, rfl, rfl, bo4880, ht4881⟩ := hp
            change G _ _ _ _ _ _ _ (.int o4880 :: _) _ _ _
            refine G_ws (ws' := [(q4510, .inr (14, [.ref q4511, .int p4513, .int 0, .int o4782, .int p4516])), (q4511, .inr (15, [.ref q4512, .int p4517])), (q4512, .inl (I .byte, 8192, .inl f4518))]) (cs' := 0) (sl' := 0) rfl rfl rfl ?_
            refine G_if_eq 128 d_cX9_advance_103 (by decide +kernel) (fun hc4882 => ?_) (fun hc4882 => ?_)
            · have r4883 : o4880.toInt = 0 := gj_eq hc4882 (show Int32.toInt 0 = 0 by decide)
              have bo4880' : gB o4880 0 0 := ⟨by omega, by omega⟩
              refine G_iload_n 1 d_cX9_advance_128 rfl ?_
              refine G_bipush 118 d_cX9_advance_129 (by decide +kernel) ?_
              refine G_icmp_ne 151 d_cX9_advance_131 (by decide +kernel) (fun _ => ?_) (fun hc => absurd (show False by have := gj_eq hc (show Int32.toInt 118 = 118 by decide); omega) not_false)
              refine G_iload_n 1 d_cX9_advance_151 rfl ?_
              refine G_bipush 98 d_cX9_advance_152 (by decide +kernel) ?_
              refine G_icmp_ne 174 d_cX9_advance_154 (by decide +kernel) (fun _ => ?_) (fun hc => absurd (show False by have := gj_eq hc (show Int32.toInt 98 = 98 by decide); omega) not_false)
              refine G_iload_n 1 d_cX9_advance_174 rfl ?_
              refine G_callS (As := [.int o4784]) (wr := [(q4510, .inr (14, [.ref q4511, .int p4513, .int 0, .int o4782, .int p4516])), (q4511, .inr (15, [.ref q4512, .int p4517])), (q4512, .inl (I .byte, 8192, .inl f4518))]) (gV_ok D I) (ct_256_Signs_isLetter l hl0 D I o4784 ) d_cX9_advance_175 ⟨w_3_45, w_1_4, w_3_47, by decide, rfl, (Nat.le_of_ble_eq_true rfl), (Nat.le_of_ble_eq_true rfl)⟩ w_3_46 [] [0, 1, 2] rfl rfl rfl rfl (by decide) (Nat.le_of_ble_eq_true rfl) (Nat.le_of_ble_eq_true rfl) (Nat.le_of_ble_eq_true rfl) (fun r w hp => ?_) (fun _ _ _ z => z.elim)
              obtain ⟨o4884, rfl, rfl, bo4884, ht4885⟩ := hp
              change G _ _ _ _ _ _ _ (.int o4884 :: _) _ _ _
              refine G_ws (ws' := [(q4510, .inr (14, [.ref q4511, .int p4513, .int 0, .int o4782, .int p4516])), (q4511, .inr (15, [.ref q4512, .int p4517])), (q4512, .inl (I .byte, 8192, .inl f4518))]) (cs' := 0) (sl' := 0) rfl rfl rfl ?_
              refine G_if_eq 188 d_cX9_advance_178 (by decide +kernel) (fun hc4886 => ?_) (fun hc4886 => ?_)
              · have r4887 : o4884.toInt = 0 := gj_eq hc4886 (show Int32.toInt 0 = 0 by decide)
                have bo4884' : gB o4884 0 0 := ⟨by omega, by omega⟩
                refine G_aload_n 3 d_cX9_advance_188 rfl ?_
                refine G_iload_n 1 d_cX9_advance_189 rfl ?_
                refine G_iload_n 0 d_cX9_advance_190 rfl ?_
                refine G_callV (As := [.int o4784, .int o4787]) (wr := []) (gV_ok D I) (ct_4473_Signs_takeMark l hl0 D I q4510 q4511 q4512 o4784 o4787 p4513 0 o4782 p4516 p4517 f4518 bp4517 bf4518 (by have qa0 : Int32.toInt 0 = 0 := (by decide); have qa1 : Int32.toInt 1 = 1 := (by decide); omega)) d_cX9_advance_191 ⟨w_3_109, w_1_4, w_3_112, by decide, rfl, (Nat.le_of_ble_eq_true rfl), (Nat.le_of_ble_eq_true rfl)⟩ w_3_111 w_p_6 0 rfl rfl [0, 1, 2] [] rfl rfl rfl rfl (by decide) (Nat.le_of_ble_eq_true rfl) (Nat.le_of_ble_eq_true rfl) (Nat.le_of_ble_eq_true rfl) (fun r w hp => ?_) (fun _ _ _ z => z.elim)
                obtain ⟨o4888, o4889, o4890, rfl, rfl, bo4888, bo4889, bo4890, x4891, ht4892⟩ := hp
                change G _ _ _ _ _ _ _ _ _ _ _
                refine G_ws (ws' := [(q4510, .inr (14, [.ref q4511, .int o4888, .int o4889, .int o4782, .int o4890])), (q4511, .inr (15, [.ref q4512, .int p4517])), (q4512, .inl (I .byte, 8192, .inl f4518))]) (cs' := 0) (sl' := 0) rfl rfl rfl ?_
                exact G_vret d_cX9_advance_194 rfl (Nat.le_of_ble_eq_true rfl) (Nat.le_of_ble_eq_true rfl) ⟨o4888, o4889, o4782, o4890, rfl, rfl, (gB_w bo4888 (by decide) (by decide)), (gB_w bo4889 (by decide) (by decide)), bo4782, bo4890, (by have qa0 : Int32.toInt 1 = 1 := (by decide); omega), (fun R c1 c2 c3 c4 c5 c6 c7 c8 c9 c10 c11 c12 c13 c14 c15 c16 c17 c18 c19 c20 c21 c22 c23 c24 c25 c26 c27 c28 c29 c30 c31 c32 c33 c34 c35 c36 c37 c38 c39 c40 c41 c42 c43 c44 => c40 o4782 o4784 z4786 o4787 o4791 o4880 o4884 o4888 o4889 o4890 r4655 r4781 bo4782 ht4783 bo4784 ht4785 ez4786 bo4787 ht4788 r4790 bo4791 ht4792 r4808 r4879 bo4880 ht4881 r4883 bo4884 ht4885 r4887 bo4888 bo4889 ht4892)⟩
              · have r4893 : o4884.toInt ≠ 0 := gj_neq hc4886 (show Int32.toInt 0 = 0 by decide)
                have bo4884' : gB o4884 1 1 := ⟨by omega, by omega⟩
                refine G_aload_n 3 d_cX9_advance_181 rfl ?_
                refine G_callV (As := []) (wr := []) (gV_ok D I) (ct_3904_Signs_takeWord l hl0 D I q4510 q4511 q4512 p4513 0 o4782 p4516 p4517 f4518 bp4517 bf4518 (by have qa0 : Int32.toInt 0 = 0 := (by decide); have qa1 : Int32.toInt 1 = 1 := (by decide); omega)) d_cX9_advance_182 ⟨w_3_48, w_1_4, w_3_51, by decide, rfl, (Nat.le_of_ble_eq_true rfl), (Nat.le_of_ble_eq_true rfl)⟩ w_3_50 w_p_4 0 rfl rfl [0, 1, 2] [] rfl rfl rfl rfl (by decide) (Nat.le_of_ble_eq_true rfl) (Nat.le_of_ble_eq_true rfl) (Nat.le_of_ble_eq_true rfl) (fun r w hp => ?_) (fun _ _ _ z => z.elim)
                obtain ⟨o4894, o4895, rfl, rfl, bo4894, bo4895, x4896, ht4897⟩ := hp
                rw [show Int32.toInt 0 = 0 from by decide] at x4896
                change G _ _ _ _ _ _ _ _ _ _ _
                refine G_ws (ws' := [(q4510, .inr (14, [.ref q4511, .int o4894, .int 0, .int o4782, .int o4895])), (q4511, .inr (15, [.ref q4512, .int p4517])), (q4512, .inl (I .byte, 8192, .inl f4518))]) (cs' := 0) (sl' := 0) rfl rfl rfl ?_
                refine G_goto 194 d_cX9_advance_185 (by decide +kernel) ?_
                exact G_vret d_cX9_advance_194 rfl (Nat.le_of_ble_eq_true rfl) (Nat.le_of_ble_eq_true rfl) ⟨o4894, 0, o4782, o4895, rfl, rfl, bo4894, (gB_w (gBl (show Int32.toInt 0 = 0 by decide)) (by decide) (by decide)), bo4782, bo4895, (by have qa0 : Int32.toInt 0 = 0 := (by decide); have qa1 : Int32.toInt 1 = 1 := (by decide); omega), (fun R c1 c2 c3 c4 c5 c6 c7 c8 c9 c10 c11 c12 c13 c14 c15 c16 c17 c18 c19 c20 c21 c22 c23 c24 c25 c26 c27 c28 c29 c30 c31 c32 c33 c34 c35 c36 c37 c38 c39 c40 c41 c42 c43 c44 => c41 o4782 o4784 z4786 o4787 o4791 o4880 o4884 o4894 o4895 r4655 r4781 bo4782 ht4783 bo4784 ht4785 ez4786 bo4787 ht4788 r4790 bo4791 ht4792 r4808 r4879 bo4880 ht4881 r4883 bo4884 ht4885 r4893 bo4894 ht4897)⟩
            · have r4898 : o4880.toInt ≠ 0 := gj_neq hc4882 (show Int32.toInt 0 = 0 by decide)
              have bo4880' : gB o4880 1 1 := ⟨by omega, by omega⟩
              refine G_iload_n 2 d_cX9_advance_106 rfl ?_
              refine G_if_ne 128 d_cX9_advance_107 (by decide +kernel) (fun _ => ?_) (fun hc => absurd hc (by decide))
              refine G_iload_n 1 d_cX9_advance_128 rfl ?_
              refine G_bipush 118 d_cX9_advance_129 (by decide +kernel) ?_
              refine G_icmp_ne 151 d_cX9_advance_131 (by decide +kernel) (fun _ => ?_) (fun hc => absurd (show False by have := gj_eq hc (show Int32.toInt 118 = 118 by decide); omega) not_false)
              refine G_iload_n 1 d_cX9_advance_151 rfl ?_
              refine G_bipush 98 d_cX9_advance_152 (by decide +kernel) ?_
              refine G_icmp_ne 174 d_cX9_advance_154 (by decide +kernel) (fun _ => ?_) (fun hc => absurd (show False by have := gj_eq hc (show Int32.toInt 98 = 98 by decide); omega) not_false)
              refine G_iload_n 1 d_cX9_advance_174 rfl ?_
              refine G_callS (As := [.int o4784]) (wr := [(q4510, .inr (14, [.ref q4511, .int p4513, .int 0, .int o4782, .int p4516])), (q4511, .inr (15, [.ref q4512, .int p4517])), (q4512, .inl (I .byte, 8192, .inl f4518))]) (gV_ok D I) (ct_256_Signs_isLetter l hl0 D I o4784 ) d_cX9_advance_175 ⟨w_3_45, w_1_4, w_3_47, by decide, rfl, (Nat.le_of_ble_eq_true rfl), (Nat.le_of_ble_eq_true rfl)⟩ w_3_46 [] [0, 1, 2] rfl rfl rfl rfl (by decide) (Nat.le_of_ble_eq_true rfl) (Nat.le_of_ble_eq_true rfl) (Nat.le_of_ble_eq_true rfl) (fun r w hp => ?_) (fun _ _ _ z => z.elim)
              obtain ⟨o4899, rfl, rfl, bo4899, ht4900⟩ := hp
              change G _ _ _ _ _ _ _ (.int o4899 :: _) _ _ _
              refine G_ws (ws' := [(q4510, .inr (14, [.ref q4511, .int p4513, .int 0, .int o4782, .int p4516])), (q4511, .inr (15, [.ref q4512, .int p4517])), (q4512, .inl (I .byte, 8192, .inl f4518))]) (cs' := 0) (sl' := 0) rfl rfl rfl ?_
              refine G_if_eq 188 d_cX9_advance_178 (by decide +kernel) (fun hc4901 => ?_) (fun hc4901 => ?_)
              · have r4902 : o4899.toInt = 0 := gj_eq hc4901 (show Int32.toInt 0 = 0 by decide)
                have bo4899' : gB o4899 0 0 := ⟨by omega, by omega⟩
                refine G_aload_n 3 d_cX9_advance_188 rfl ?_
                refine G_iload_n 1 d_cX9_advance_189 rfl ?_
                refine G_iload_n 0 d_cX9_advance_190 rfl ?_
                refine G_callV (As := [.int o4784, .int o4787]) (wr := []) (gV_ok D I) (ct_4473_Signs_takeMark l hl0 D I q4510 q4511 q4512 o4784 o4787 p4513 0 o4782 p4516 p4517 f4518 bp4517 bf4518 (by have qa0 : Int32.toInt 0 = 0 := (by decide); have qa1 : Int32.toInt 1 = 1 := (by decide); omega)) d_cX9_advance_191 ⟨w_3_109, w_1_4, w_3_112, by decide, rfl, (Nat.le_of_ble_eq_true rfl), (Nat.le_of_ble_eq_true rfl)⟩ w_3_111 w_p_6 0 rfl rfl [0, 1, 2] [] rfl rfl rfl rfl (by decide) (Nat.le_of_ble_eq_true rfl) (Nat.le_of_ble_eq_true rfl) (Nat.le_of_ble_eq_true rfl) (fun r w hp => ?_) (fun _ _ _ z => z.elim)
                obtain ⟨o4903, o4904, o4905, rfl, rfl, bo4903, bo4904, bo4905, x4906, ht4907⟩ := hp
                change G _ _ _ _ _ _ _ _ _ _ _
                refine G_ws (ws' := [(q4510, .inr (14, [.ref q4511, .int o4903, .int o4904, .int o4782, .int o4905])), (q4511, .inr (15, [.ref q4512, .int p4517])), (q4512, .inl (I .byte, 8192, .inl f4518))]) (cs' := 0) (sl' := 0) rfl rfl rfl ?_
                exact G_vret d_cX9_advance_194 rfl (Nat.le_of_ble_eq_true rfl) (Nat.le_of_ble_eq_true rfl) ⟨o4903, o4904, o4782, o4905, rfl, rfl, (gB_w bo4903 (by decide) (by decide)), (gB_w bo4904 (by decide) (by decide)), bo4782, bo4905, (by have qa0 : Int32.toInt 1 = 1 := (by decide); omega), (fun R c1 c2 c3 c4 c5 c6 c7 c8 c9 c10 c11 c12 c13 c14 c15 c16 c17 c18 c19 c20 c21 c22 c23 c24 c25 c26 c27 c28 c29 c30 c31 c32 c33 c34 c35 c36 c37 c38 c39 c40 c41 c42 c43 c44 => c42 o4782 o4784 z4786 o4787 o4791 o4880 o4899 o4903 o4904 o4905 r4655 r4781 bo4782 ht4783 bo4784 ht4785 ez4786 bo4787 ht4788 r4790 bo4791 ht4792 r4808 r4879 bo4880 ht4881 r4898 bo4899 ht4900 r4902 bo4903 bo4904 ht4907)⟩
              · have r4908 : o4899.toInt ≠ 0 := gj_neq hc4901 (show Int32.toInt 0 = 0 by decide)
                have bo4899' : gB o4899 1 1 := ⟨by omega, by omega⟩
                refine G_aload_n 3 d_cX9_advance_181 rfl ?_
                refine G_callV (As := []) (wr := []) (gV_ok D I) (ct_3904_Signs_takeWord l hl0 D I q4510 q4511 q4512 p4513 0 o4782 p4516 p4517 f4518 bp4517 bf4518 (by have qa0 : Int32.toInt 0 = 0 := (by decide); have qa1 : Int32.toInt 1 = 1 := (by decide); omega)) d_cX9_advance_182 ⟨w_3_48, w_1_4, w_3_51, by decide, rfl, (Nat.le_of_ble_eq_true rfl), (Nat.le_of_ble_eq_true rfl)⟩ w_3_50 w_p_4 0 rfl rfl [0, 1, 2] [] rfl rfl rfl rfl (by decide) (Nat.le_of_ble_eq_true rfl) (Nat.le_of_ble_eq_true rfl) (Nat.le_of_ble_eq_true rfl) (fun r w hp => ?_) (fun _ _ _ z => z.elim)
                obtain ⟨o4909, o4910, rfl, rfl, bo4909, bo4910, x4911, ht4912⟩ := hp
                rw [show Int32.toInt 0 = 0 from by decide] at x4911
                change G _ _ _ _ _ _ _ _ _ _ _
                refine G_ws (ws' := [(q4510, .inr (14, [.ref q4511, .int o4909, .int 0, .int o4782, .int o4910])), (q4511, .inr (15, [.ref q4512, .int p4517])), (q4512, .inl (I .byte, 8192, .inl f4518))]) (cs' := 0) (sl' := 0) rfl rfl rfl ?_
                refine G_goto 194 d_cX9_advance_185 (by decide +kernel) ?_
                exact G_vret d_cX9_advance_194 rfl (Nat.le_of_ble_eq_true rfl) (Nat.le_of_ble_eq_true rfl) ⟨o4909, 0, o4782, o4910, rfl, rfl, bo4909, (gB_w (gBl (show Int32.toInt 0 = 0 by decide)) (by decide) (by decide)), bo4782, bo4910, (by have qa0 : Int32.toInt 0 = 0 := (by decide); have qa1 : Int32.toInt 1 = 1 := (by decide); omega), (fun R c1 c2 c3 c4 c5 c6 c7 c8 c9 c10 c11 c12 c13 c14 c15 c16 c17 c18 c19 c20 c21 c22 c23 c24 c25 c26 c27 c28 c29 c30 c31 c32 c33 c34 c35 c36 c37 c38 c39 c40 c41 c42 c43 c44 => c43 o4782 o4784 z4786 o4787 o4791 o4880 o4899 o4909 o4910 r4655 r4781 bo4782 ht4783 bo4784 ht4785 ez4786 bo4787 ht4788 r4790 bo4791 ht4792 r4808 r4879 bo4880 ht4881 r4898 bo4899 ht4900 r4908 bo4909 ht4912)⟩
      · have r4913 : o4784.toInt = (-1) := gj_eq hc4789 (show Int32.toInt (-1) = (-1) by decide)
        have bo4784' : gB o4784 (-1) (-1) := ⟨by omega, by omega⟩
        refine G_aload_n 3 d_cX9_advance_70 rfl ?_
        refine G_iconst 1 d_cX9_advance_71 (by decide +kernel) ?_
        refine G_putf (ws' := [(q4510, .inr (14, [.ref q4511, .int 1, .int 0, .int o4782, .int p4516])), (q4511, .inr (15, [.ref q4512, .int p4517])), (q4512, .inl (I .byte, 8192, .inl f4518))]) 0 1 d_cX9_advance_72 rfl (gk_X9 D I) (Nat.le_of_ble_eq_true rfl) w_1_80 rfl rfl rfl (Nat.le_of_ble_eq_true rfl) rfl ?_
        refine G_aload_n 3 d_cX9_advance_75 rfl ?_
        refine G_aload_n 3 d_cX9_advance_76 rfl ?_
        refine G_getf 0 3 d_cX9_advance_77 rfl (gk_X9 D I) (Nat.le_of_ble_eq_true rfl) w_1_82 rfl ?_
        refine G_putf (ws' := [(q4510, .inr (14, [.ref q4511, .int 1, .int 0, .int o4782, .int o4782])), (q4511, .inr (15, [.ref q4512, .int p4517])), (q4512, .inl (I .byte, 8192, .inl f4518))]) 0 4 d_cX9_advance_80 rfl (gk_X9 D I) (Nat.le_of_ble_eq_true rfl) w_1_83 rfl rfl rfl (Nat.le_of_ble_eq_true rfl) rfl ?_
        refine G_goto 194 d_cX9_advance_83 (by decide +kernel) ?_
        exact G_vret d_cX9_advance_194 rfl (Nat.le_of_ble_eq_true rfl) (Nat.le_of_ble_eq_true rfl) ⟨1, 0, o4782, o4782, rfl, rfl, (gB_w (gBl (show Int32.toInt 1 = 1 by decide)) (by decide) (by decide)), (gB_w (gBl (show Int32.toInt 0 = 0 by decide)) (by decide) (by decide)), bo4782, (gB_w bo4782 (by decide) (by decide)), (by have qa0 : Int32.toInt 0 = 0 := (by decide); have qa1 : Int32.toInt 1 = 1 := (by decide); omega), (fun R c1 c2 c3 c4 c5 c6 c7 c8 c9 c10 c11 c12 c13 c14 c15 c16 c17 c18 c19 c20 c21 c22 c23 c24 c25 c26 c27 c28 c29 c30 c31 c32 c33 c34 c35 c36 c37 c38 c39 c40 c41 c42 c43 c44 => c44 o4782 o4784 z4786 o4787 r4655 r4781 bo4782 ht4783 bo4784 ht4785 ez4786 bo4787 ht4788 r4913)⟩
/- tr_Signs_open: Signs_kind, Signs_value, Signs_place, Signs_behind -/
def tr_Signs_open (Tape_size : Int32) (Tape_bytes : Nat → Int32) (o1 : Int32) (o2 : Int32) (o3 : Int32) (o4 : Int32) : Prop := ∀ R : (Int32) → (Int32) → (Int32) → (Int32) → Prop,
  (∀ (x1 : Int32) (x2 : Int32) (x3 : Int32) (x4 : Int32), gB x1 0 12 → gB x3 (-2147483648) 8192 → tr_Signs_advance (0 : Int32) (0 : Int32) Tape_size Tape_bytes x1 x2 x3 x4 → R x1 x2 x3 x4) →
  R o1 o2 o3 o4
