theorem d_cX9_opOf_0 : decode cX9_opOf 0 = .ok (.iconst 0, 1) := by decide +kernel
theorem d_cX9_opOf_1 : decode cX9_opOf 1 = .ok (.istore_n 2, 1) := by decide +kernel
theorem d_cX9_opOf_2 : decode cX9_opOf 2 = .ok (.iload_n 2, 1) := by decide +kernel
theorem d_cX9_opOf_3 : decode cX9_opOf 3 = .ok (.bipush 14, 2) := by decide +kernel
theorem d_cX9_opOf_5 : decode cX9_opOf 5 = .ok (.if_icmp .ge 37, 3) := by decide +kernel
theorem d_cX9_opOf_42 : decode cX9_opOf 42 = .ok (.iconst (-1), 1) := by decide +kernel
theorem d_cX9_opOf_43 : decode cX9_opOf 43 = .ok (.ireturn, 1) := by decide +kernel
theorem d_cX9_opOf_8 : decode cX9_opOf 8 = .ok (.ldc 108, 2) := by decide +kernel
theorem d_cX9_opOf_10 : decode cX9_opOf 10 = .ok (.iconst 2, 1) := by decide +kernel
theorem d_cX9_opOf_11 : decode cX9_opOf 11 = .ok (.iload_n 2, 1) := by decide +kernel
theorem d_cX9_opOf_12 : decode cX9_opOf 12 = .ok (.imul, 1) := by decide +kernel
theorem d_cX9_opOf_13 : decode cX9_opOf 13 = .ok (.invokevirtual 100, 3) := by decide +kernel
theorem d_cX9_opOf_16 : decode cX9_opOf 16 = .ok (.iload_n 0, 1) := by decide +kernel
theorem d_cX9_opOf_17 : decode cX9_opOf 17 = .ok (.if_icmp .ne 19, 3) := by decide +kernel
theorem d_cX9_opOf_36 : decode cX9_opOf 36 = .ok (.iinc 2 1, 3) := by decide +kernel
theorem d_cX9_opOf_39 : decode cX9_opOf 39 = .ok (.goto (-37), 3) := by decide +kernel
theorem d_cX9_opOf_20 : decode cX9_opOf 20 = .ok (.ldc 108, 2) := by decide +kernel
theorem d_cX9_opOf_22 : decode cX9_opOf 22 = .ok (.iconst 2, 1) := by decide +kernel
theorem d_cX9_opOf_23 : decode cX9_opOf 23 = .ok (.iload_n 2, 1) := by decide +kernel
theorem d_cX9_opOf_24 : decode cX9_opOf 24 = .ok (.imul, 1) := by decide +kernel
theorem d_cX9_opOf_25 : decode cX9_opOf 25 = .ok (.iconst 1, 1) := by decide +kernel
theorem d_cX9_opOf_26 : decode cX9_opOf 26 = .ok (.iadd, 1) := by decide +kernel
theorem d_cX9_opOf_27 : decode cX9_opOf 27 = .ok (.invokevirtual 100, 3) := by decide +kernel
theorem d_cX9_opOf_30 : decode cX9_opOf 30 = .ok (.iload_n 1, 1) := by decide +kernel
theorem d_cX9_opOf_31 : decode cX9_opOf 31 = .ok (.if_icmp .ne 5, 3) := by decide +kernel
theorem d_cX9_opOf_34 : decode cX9_opOf 34 = .ok (.iload_n 2, 1) := by decide +kernel
theorem d_cX9_opOf_35 : decode cX9_opOf 35 = .ok (.ireturn, 1) := by decide +kernel
theorem d_cX9_takeMark_0 : decode cX9_takeMark 0 = .ok (.iload_n 1, 1) := by decide +kernel
theorem d_cX9_takeMark_1 : decode cX9_takeMark 1 = .ok (.iload_n 2, 1) := by decide +kernel
theorem d_cX9_takeMark_2 : decode cX9_takeMark 2 = .ok (.invokestatic 104, 3) := by decide +kernel
theorem w_3_113 : (Jvm.Cond.methodLink "SpillForge$Signs" (104 : Nat) ({ cls := "SpillForge$Signs", name := "opOf", desc := "(II)I" } : Jvm.MethodName)) ∈ gw := gw_3 113 rfl rfl
theorem w_3_115 : (Jvm.Cond.code ({ cls := "SpillForge$Signs", name := "opOf", desc := "(II)I" } : Jvm.MethodName) prog_11_method_14_code (3 : Nat) (Option.some Jvm.ClassFile.FieldType.int)) ∈ gw := gw_3 115 rfl rfl
theorem w_3_114 : (Jvm.Cond.static ({ cls := "SpillForge$Signs", name := "opOf", desc := "(II)I" } : Jvm.MethodName)) ∈ gw := gw_3 114 rfl rfl
theorem d_cX9_takeMark_5 : decode cX9_takeMark 5 = .ok (.istore_n 3, 1) := by decide +kernel
theorem d_cX9_takeMark_6 : decode cX9_takeMark 6 = .ok (.aload_n 0, 1) := by decide +kernel
theorem d_cX9_takeMark_7 : decode cX9_takeMark 7 = .ok (.aload_n 0, 1) := by decide +kernel
theorem d_cX9_takeMark_8 : decode cX9_takeMark 8 = .ok (.getfield 22, 3) := by decide +kernel
theorem d_cX9_takeMark_11 : decode cX9_takeMark 11 = .ok (.iconst 2, 1) := by decide +kernel
theorem d_cX9_takeMark_12 : decode cX9_takeMark 12 = .ok (.iadd, 1) := by decide +kernel
theorem d_cX9_takeMark_13 : decode cX9_takeMark 13 = .ok (.putfield 25, 3) := by decide +kernel
theorem d_cX9_takeMark_16 : decode cX9_takeMark 16 = .ok (.iload_n 3, 1) := by decide +kernel
theorem d_cX9_takeMark_17 : decode cX9_takeMark 17 = .ok (.iconst (-1), 1) := by decide +kernel
theorem d_cX9_takeMark_18 : decode cX9_takeMark 18 = .ok (.if_icmp .eq 9, 3) := by decide +kernel
theorem d_cX9_takeMark_27 : decode cX9_takeMark 27 = .ok (.iload_n 1, 1) := by decide +kernel
theorem d_cX9_takeMark_28 : decode cX9_takeMark 28 = .ok (.bipush 32, 2) := by decide +kernel
theorem d_cX9_takeMark_30 : decode cX9_takeMark 30 = .ok (.invokestatic 104, 3) := by decide +kernel
theorem d_cX9_takeMark_33 : decode cX9_takeMark 33 = .ok (.istore_n 3, 1) := by decide +kernel
theorem d_cX9_takeMark_34 : decode cX9_takeMark 34 = .ok (.aload_n 0, 1) := by decide +kernel
theorem d_cX9_takeMark_35 : decode cX9_takeMark 35 = .ok (.aload_n 0, 1) := by decide +kernel
theorem d_cX9_takeMark_36 : decode cX9_takeMark 36 = .ok (.getfield 22, 3) := by decide +kernel
theorem d_cX9_takeMark_39 : decode cX9_takeMark 39 = .ok (.iconst 1, 1) := by decide +kernel
theorem d_cX9_takeMark_40 : decode cX9_takeMark 40 = .ok (.iadd, 1) := by decide +kernel
theorem d_cX9_takeMark_41 : decode cX9_takeMark 41 = .ok (.putfield 25, 3) := by decide +kernel
theorem d_cX9_takeMark_44 : decode cX9_takeMark 44 = .ok (.aload_n 0, 1) := by decide +kernel
theorem d_cX9_takeMark_45 : decode cX9_takeMark 45 = .ok (.iload_n 3, 1) := by decide +kernel
theorem d_cX9_takeMark_46 : decode cX9_takeMark 46 = .ok (.putfield 19, 3) := by decide +kernel
theorem d_cX9_takeMark_49 : decode cX9_takeMark 49 = .ok (.aload_n 0, 1) := by decide +kernel
theorem d_cX9_takeMark_50 : decode cX9_takeMark 50 = .ok (.iload_n 3, 1) := by decide +kernel
theorem d_cX9_takeMark_51 : decode cX9_takeMark 51 = .ok (.iconst (-1), 1) := by decide +kernel
theorem d_cX9_takeMark_52 : decode cX9_takeMark 52 = .ok (.if_icmp .eq 7, 3) := by decide +kernel
theorem d_cX9_takeMark_59 : decode cX9_takeMark 59 = .ok (.iload_n 1, 1) := by decide +kernel
theorem d_cX9_takeMark_60 : decode cX9_takeMark 60 = .ok (.bipush 58, 2) := by decide +kernel
theorem d_cX9_takeMark_62 : decode cX9_takeMark 62 = .ok (.if_icmp .ne 8, 3) := by decide +kernel
theorem d_cX9_takeMark_70 : decode cX9_takeMark 70 = .ok (.iload_n 1, 1) := by decide +kernel
theorem d_cX9_takeMark_71 : decode cX9_takeMark 71 = .ok (.bipush 61, 2) := by decide +kernel
theorem d_cX9_takeMark_73 : decode cX9_takeMark 73 = .ok (.if_icmp .ne 8, 3) := by decide +kernel
theorem d_cX9_takeMark_81 : decode cX9_takeMark 81 = .ok (.iconst 0, 1) := by decide +kernel
theorem d_cX9_takeMark_82 : decode cX9_takeMark 82 = .ok (.putfield 15, 3) := by decide +kernel
theorem d_cX9_takeMark_85 : decode cX9_takeMark 85 = .ok (.return_, 1) := by decide +kernel
theorem d_cX9_takeMark_76 : decode cX9_takeMark 76 = .ok (.bipush 7, 2) := by decide +kernel
theorem d_cX9_takeMark_78 : decode cX9_takeMark 78 = .ok (.goto 4, 3) := by decide +kernel
theorem d_cX9_takeMark_65 : decode cX9_takeMark 65 = .ok (.bipush 6, 2) := by decide +kernel
theorem d_cX9_takeMark_67 : decode cX9_takeMark 67 = .ok (.goto 15, 3) := by decide +kernel
theorem d_cX9_takeMark_55 : decode cX9_takeMark 55 = .ok (.iconst 5, 1) := by decide +kernel
theorem d_cX9_takeMark_56 : decode cX9_takeMark 56 = .ok (.goto 26, 3) := by decide +kernel
theorem d_cX9_takeMark_21 : decode cX9_takeMark 21 = .ok (.iload_n 2, 1) := by decide +kernel
theorem d_cX9_takeMark_22 : decode cX9_takeMark 22 = .ok (.bipush 32, 2) := by decide +kernel
theorem d_cX9_takeMark_24 : decode cX9_takeMark 24 = .ok (.if_icmp .ne 20, 3) := by decide +kernel
theorem d_cX9_advance_0 : decode cX9_advance 0 = .ok (.aload_n 0, 1) := by decide +kernel
theorem d_cX9_advance_1 : decode cX9_advance 1 = .ok (.getfield 15, 3) := by decide +kernel
theorem d_cX9_advance_4 : decode cX9_advance 4 = .ok (.iconst 2, 1) := by decide +kernel
theorem d_cX9_advance_5 : decode cX9_advance 5 = .ok (.if_icmp .eq 11, 3) := by decide +kernel
theorem d_cX9_advance_16 : decode cX9_advance 16 = .ok (.iconst 1, 1) := by decide +kernel
theorem d_cX9_advance_17 : decode cX9_advance 17 = .ok (.goto 4, 3) := by decide +kernel
theorem d_cX9_advance_21 : decode cX9_advance 21 = .ok (.istore_n 1, 1) := by decide +kernel
theorem d_cX9_advance_22 : decode cX9_advance 22 = .ok (.aload_n 0, 1) := by decide +kernel
theorem d_cX9_advance_23 : decode cX9_advance 23 = .ok (.aload_n 0, 1) := by decide +kernel
theorem d_cX9_advance_24 : decode cX9_advance 24 = .ok (.aload_n 0, 1) := by decide +kernel
theorem d_cX9_advance_25 : decode cX9_advance 25 = .ok (.getfield 25, 3) := by decide +kernel
theorem d_cX9_advance_28 : decode cX9_advance 28 = .ok (.invokevirtual 31, 3) := by decide +kernel
theorem w_3_12 : (Jvm.Cond.methodLink "SpillForge$Signs" (31 : Nat) ({ cls := "SpillForge$Signs", name := "skipBlanks", desc := "(I)I" } : Jvm.MethodName)) ∈ gw := gw_3 12 rfl rfl
theorem w_3_15 : (Jvm.Cond.code ({ cls := "SpillForge$Signs", name := "skipBlanks", desc := "(I)I" } : Jvm.MethodName) prog_11_method_7_code (5 : Nat) (Option.some Jvm.ClassFile.FieldType.int)) ∈ gw := gw_3 15 rfl rfl
theorem w_3_14 : (Jvm.Cond.instanceMethod ({ cls := "SpillForge$Signs", name := "skipBlanks", desc := "(I)I" } : Jvm.MethodName)) ∈ gw := gw_3 14 rfl rfl
theorem w_p_0 : Cond.selects "SpillForge$Signs" ⟨"SpillForge$Signs", "skipBlanks", "(I)I"⟩ ⟨"SpillForge$Signs", "skipBlanks", "(I)I"⟩ ∈ gw := gw_p _ 0 rfl rfl rfl
theorem d_cX9_advance_31 : decode cX9_advance 31 = .ok (.putfield 22, 3) := by decide +kernel
theorem d_cX9_advance_34 : decode cX9_advance 34 = .ok (.aload_n 0, 1) := by decide +kernel
theorem d_cX9_advance_35 : decode cX9_advance 35 = .ok (.getfield 9, 3) := by decide +kernel
theorem d_cX9_advance_38 : decode cX9_advance 38 = .ok (.aload_n 0, 1) := by decide +kernel
theorem d_cX9_advance_39 : decode cX9_advance 39 = .ok (.getfield 22, 3) := by decide +kernel
theorem d_cX9_advance_42 : decode cX9_advance 42 = .ok (.invokevirtual 35, 3) := by decide +kernel
theorem d_cX9_advance_45 : decode cX9_advance 45 = .ok (.istore_n 2, 1) := by decide +kernel
theorem d_cX9_advance_46 : decode cX9_advance 46 = .ok (.aload_n 0, 1) := by decide +kernel
theorem d_cX9_advance_47 : decode cX9_advance 47 = .ok (.getfield 9, 3) := by decide +kernel
theorem d_cX9_advance_50 : decode cX9_advance 50 = .ok (.aload_n 0, 1) := by decide +kernel
theorem d_cX9_advance_51 : decode cX9_advance 51 = .ok (.getfield 22, 3) := by decide +kernel
theorem d_cX9_advance_54 : decode cX9_advance 54 = .ok (.iconst 1, 1) := by decide +kernel
theorem d_cX9_advance_55 : decode cX9_advance 55 = .ok (.iadd, 1) := by decide +kernel
theorem d_cX9_advance_56 : decode cX9_advance 56 = .ok (.invokevirtual 35, 3) := by decide +kernel
theorem d_cX9_advance_59 : decode cX9_advance 59 = .ok (.istore_n 3, 1) := by decide +kernel
theorem d_cX9_advance_60 : decode cX9_advance 60 = .ok (.aload_n 0, 1) := by decide +kernel
theorem d_cX9_advance_61 : decode cX9_advance 61 = .ok (.iconst 0, 1) := by decide +kernel
theorem d_cX9_advance_62 : decode cX9_advance 62 = .ok (.putfield 19, 3) := by decide +kernel
theorem d_cX9_advance_65 : decode cX9_advance 65 = .ok (.iload_n 2, 1) := by decide +kernel
theorem d_cX9_advance_66 : decode cX9_advance 66 = .ok (.iconst (-1), 1) := by decide +kernel
theorem d_cX9_advance_67 : decode cX9_advance 67 = .ok (.if_icmp .ne 19, 3) := by decide +kernel
theorem d_cX9_advance_70 : decode cX9_advance 70 = .ok (.aload_n 0, 1) := by decide +kernel
theorem d_cX9_advance_71 : decode cX9_advance 71 = .ok (.iconst 1, 1) := by decide +kernel
theorem d_cX9_advance_72 : decode cX9_advance 72 = .ok (.putfield 15, 3) := by decide +kernel
theorem d_cX9_advance_75 : decode cX9_advance 75 = .ok (.aload_n 0, 1) := by decide +kernel
theorem d_cX9_advance_76 : decode cX9_advance 76 = .ok (.aload_n 0, 1) := by decide +kernel
theorem d_cX9_advance_77 : decode cX9_advance 77 = .ok (.getfield 22, 3) := by decide +kernel
theorem d_cX9_advance_80 : decode cX9_advance 80 = .ok (.putfield 25, 3) := by decide +kernel
theorem d_cX9_advance_83 : decode cX9_advance 83 = .ok (.goto 111, 3) := by decide +kernel
theorem d_cX9_advance_194 : decode cX9_advance 194 = .ok (.return_, 1) := by decide +kernel
theorem d_cX9_advance_86 : decode cX9_advance 86 = .ok (.iload_n 2, 1) := by decide +kernel
theorem d_cX9_advance_87 : decode cX9_advance 87 = .ok (.invokestatic 40, 3) := by decide +kernel
theorem d_cX9_advance_90 : decode cX9_advance 90 = .ok (.ifCond .ne 20, 3) := by decide +kernel
theorem d_cX9_advance_93 : decode cX9_advance 93 = .ok (.iload_n 2, 1) := by decide +kernel
theorem d_cX9_advance_94 : decode cX9_advance 94 = .ok (.bipush 45, 2) := by decide +kernel
theorem d_cX9_advance_96 : decode cX9_advance 96 = .ok (.if_icmp .ne 32, 3) := by decide +kernel
theorem d_cX9_advance_128 : decode cX9_advance 128 = .ok (.iload_n 2, 1) := by decide +kernel
theorem d_cX9_advance_129 : decode cX9_advance 129 = .ok (.bipush 118, 2) := by decide +kernel
theorem d_cX9_advance_131 : decode cX9_advance 131 = .ok (.if_icmp .ne 20, 3) := by decide +kernel
theorem d_cX9_advance_151 : decode cX9_advance 151 = .ok (.iload_n 2, 1) := by decide +kernel
theorem d_cX9_advance_152 : decode cX9_advance 152 = .ok (.bipush 98, 2) := by decide +kernel
theorem d_cX9_advance_154 : decode cX9_advance 154 = .ok (.if_icmp .ne 20, 3) := by decide +kernel
theorem d_cX9_advance_174 : decode cX9_advance 174 = .ok (.iload_n 2, 1) := by decide +kernel
theorem d_cX9_advance_175 : decode cX9_advance 175 = .ok (.invokestatic 52, 3) := by decide +kernel
theorem d_cX9_advance_178 : decode cX9_advance 178 = .ok (.ifCond .eq 10, 3) := by decide +kernel
theorem d_cX9_advance_188 : decode cX9_advance 188 = .ok (.aload_n 0, 1) := by decide +kernel
theorem d_cX9_advance_189 : decode cX9_advance 189 = .ok (.iload_n 2, 1) := by decide +kernel
theorem d_cX9_advance_190 : decode cX9_advance 190 = .ok (.iload_n 3, 1) := by decide +kernel
theorem d_cX9_advance_191 : decode cX9_advance 191 = .ok (.invokevirtual 58, 3) := by decide +kernel
theorem w_3_109 : (Jvm.Cond.methodLink "SpillForge$Signs" (58 : Nat) ({ cls := "SpillForge$Signs", name := "takeMark", desc := "(II)V" } : Jvm.MethodName)) ∈ gw := gw_3 109 rfl rfl
theorem w_3_112 : (Jvm.Cond.code ({ cls := "SpillForge$Signs", name := "takeMark", desc := "(II)V" } : Jvm.MethodName) prog_11_method_13_code (4 : Nat) (Option.none : Option Jvm.ClassFile.FieldType)) ∈ gw := gw_3 112 rfl rfl
theorem w_3_111 : (Jvm.Cond.instanceMethod ({ cls := "SpillForge$Signs", name := "takeMark", desc := "(II)V" } : Jvm.MethodName)) ∈ gw := gw_3 111 rfl rfl
theorem w_p_6 : Cond.selects "SpillForge$Signs" ⟨"SpillForge$Signs", "takeMark", "(II)V"⟩ ⟨"SpillForge$Signs", "takeMark", "(II)V"⟩ ∈ gw := gw_p _ 6 rfl rfl rfl
theorem d_cX9_advance_99 : decode cX9_advance 99 = .ok (.iload_n 3, 1) := by decide +kernel
theorem d_cX9_advance_100 : decode cX9_advance 100 = .ok (.invokestatic 40, 3) := by decide +kernel
theorem d_cX9_advance_103 : decode cX9_advance 103 = .ok (.ifCond .eq 25, 3) := by decide +kernel
theorem d_cX9_advance_181 : decode cX9_advance 181 = .ok (.aload_n 0, 1) := by decide +kernel
theorem d_cX9_advance_182 : decode cX9_advance 182 = .ok (.invokevirtual 55, 3) := by decide +kernel
theorem w_3_48 : (Jvm.Cond.methodLink "SpillForge$Signs" (55 : Nat) ({ cls := "SpillForge$Signs", name := "takeWord", desc := "()V" } : Jvm.MethodName)) ∈ gw := gw_3 48 rfl rfl
theorem w_3_51 : (Jvm.Cond.code ({ cls := "SpillForge$Signs", name := "takeWord", desc := "()V" } : Jvm.MethodName) prog_11_method_11_code (2 : Nat) (Option.none : Option Jvm.ClassFile.FieldType)) ∈ gw := gw_3 51 rfl rfl
theorem w_3_50 : (Jvm.Cond.instanceMethod ({ cls := "SpillForge$Signs", name := "takeWord", desc := "()V" } : Jvm.MethodName)) ∈ gw := gw_3 50 rfl rfl
theorem w_p_4 : Cond.selects "SpillForge$Signs" ⟨"SpillForge$Signs", "takeWord", "()V"⟩ ⟨"SpillForge$Signs", "takeWord", "()V"⟩ ∈ gw := gw_p _ 4 rfl rfl rfl
theorem d_cX9_advance_185 : decode cX9_advance 185 = .ok (.goto 9, 3) := by decide +kernel
theorem d_cX9_advance_157 : decode cX9_advance 157 = .ok (.iload_n 3, 1) := by decide +kernel
theorem d_cX9_advance_158 : decode cX9_advance 158 = .ok (.invokestatic 40, 3) := by decide +kernel
theorem d_cX9_advance_161 : decode cX9_advance 161 = .ok (.ifCond .eq 13, 3) := by decide +kernel
theorem d_cX9_advance_134 : decode cX9_advance 134 = .ok (.iload_n 3, 1) := by decide +kernel
theorem d_cX9_advance_135 : decode cX9_advance 135 = .ok (.invokestatic 40, 3) := by decide +kernel
theorem d_cX9_advance_138 : decode cX9_advance 138 = .ok (.ifCond .eq 13, 3) := by decide +kernel
theorem d_cX9_advance_110 : decode cX9_advance 110 = .ok (.aload_n 0, 1) := by decide +kernel
theorem d_cX9_advance_111 : decode cX9_advance 111 = .ok (.iload_n 2, 1) := by decide +kernel
theorem d_cX9_advance_112 : decode cX9_advance 112 = .ok (.bipush 45, 2) := by decide +kernel
theorem d_cX9_advance_114 : decode cX9_advance 114 = .ok (.if_icmp .ne 7, 3) := by decide +kernel
theorem d_cX9_advance_121 : decode cX9_advance 121 = .ok (.iconst 0, 1) := by decide +kernel
theorem d_cX9_advance_122 : decode cX9_advance 122 = .ok (.invokevirtual 44, 3) := by decide +kernel
theorem w_3_27 : (Jvm.Cond.methodLink "SpillForge$Signs" (44 : Nat) ({ cls := "SpillForge$Signs", name := "takeNumber", desc := "(Z)V" } : Jvm.MethodName)) ∈ gw := gw_3 27 rfl rfl
theorem w_3_30 : (Jvm.Cond.code ({ cls := "SpillForge$Signs", name := "takeNumber", desc := "(Z)V" } : Jvm.MethodName) prog_11_method_8_code (6 : Nat) (Option.none : Option Jvm.ClassFile.FieldType)) ∈ gw := gw_3 30 rfl rfl
theorem w_3_29 : (Jvm.Cond.instanceMethod ({ cls := "SpillForge$Signs", name := "takeNumber", desc := "(Z)V" } : Jvm.MethodName)) ∈ gw := gw_3 29 rfl rfl
theorem w_p_1 : Cond.selects "SpillForge$Signs" ⟨"SpillForge$Signs", "takeNumber", "(Z)V"⟩ ⟨"SpillForge$Signs", "takeNumber", "(Z)V"⟩ ∈ gw := gw_p _ 1 rfl rfl rfl
theorem d_cX9_advance_125 : decode cX9_advance 125 = .ok (.goto 69, 3) := by decide +kernel
theorem d_cX9_advance_106 : decode cX9_advance 106 = .ok (.iload_n 1, 1) := by decide +kernel
theorem d_cX9_advance_107 : decode cX9_advance 107 = .ok (.ifCond .ne 21, 3) := by decide +kernel
theorem d_cX9_advance_164 : decode cX9_advance 164 = .ok (.aload_n 0, 1) := by decide +kernel
theorem d_cX9_advance_165 : decode cX9_advance 165 = .ok (.iconst 3, 1) := by decide +kernel
theorem d_cX9_advance_166 : decode cX9_advance 166 = .ok (.bipush 40, 2) := by decide +kernel
theorem d_cX9_advance_168 : decode cX9_advance 168 = .ok (.invokevirtual 48, 3) := by decide +kernel
theorem w_3_41 : (Jvm.Cond.methodLink "SpillForge$Signs" (48 : Nat) ({ cls := "SpillForge$Signs", name := "takeNamed", desc := "(II)V" } : Jvm.MethodName)) ∈ gw := gw_3 41 rfl rfl
theorem w_3_44 : (Jvm.Cond.code ({ cls := "SpillForge$Signs", name := "takeNamed", desc := "(II)V" } : Jvm.MethodName) prog_11_method_9_code (5 : Nat) (Option.none : Option Jvm.ClassFile.FieldType)) ∈ gw := gw_3 44 rfl rfl
theorem w_3_43 : (Jvm.Cond.instanceMethod ({ cls := "SpillForge$Signs", name := "takeNamed", desc := "(II)V" } : Jvm.MethodName)) ∈ gw := gw_3 43 rfl rfl
theorem w_p_3 : Cond.selects "SpillForge$Signs" ⟨"SpillForge$Signs", "takeNamed", "(II)V"⟩ ⟨"SpillForge$Signs", "takeNamed", "(II)V"⟩ ∈ gw := gw_p _ 3 rfl rfl rfl
theorem d_cX9_advance_171 : decode cX9_advance 171 = .ok (.goto 23, 3) := by decide +kernel
theorem d_cX9_advance_141 : decode cX9_advance 141 = .ok (.aload_n 0, 1) := by decide +kernel
theorem d_cX9_advance_142 : decode cX9_advance 142 = .ok (.iconst 2, 1) := by decide +kernel
theorem d_cX9_advance_143 : decode cX9_advance 143 = .ok (.bipush 100, 2) := by decide +kernel
theorem d_cX9_advance_145 : decode cX9_advance 145 = .ok (.invokevirtual 48, 3) := by decide +kernel
theorem d_cX9_advance_148 : decode cX9_advance 148 = .ok (.goto 46, 3) := by decide +kernel
theorem d_cX9_advance_8 : decode cX9_advance 8 = .ok (.aload_n 0, 1) := by decide +kernel
theorem d_cX9_advance_9 : decode cX9_advance 9 = .ok (.getfield 15, 3) := by decide +kernel
theorem d_cX9_advance_12 : decode cX9_advance 12 = .ok (.iconst 4, 1) := by decide +kernel
theorem d_cX9_advance_13 : decode cX9_advance 13 = .ok (.if_icmp .ne 7, 3) := by decide +kernel
theorem d_cX9_advance_20 : decode cX9_advance 20 = .ok (.iconst 0, 1) := by decide +kernel
theorem d_cX9_advance_117 : decode cX9_advance 117 = .ok (.iconst 1, 1) := by decide +kernel
theorem d_cX9_advance_118 : decode cX9_advance 118 = .ok (.goto 4, 3) := by decide +kernel
abbrev ky_4495_Signs_opOf : gKey := (cX9_opOf, 3, yX9_opOf.cls, (some FieldType.int), [], yX9_opOf.name, fun _ _ => True)
abbrev po_4495_Signs_opOf (I : FieldType → ClassId) (p4493 : Int32) (p4494 : Int32) : Option Value → va_W → Prop := fun r w => ∃ (o4611 : Int32), r = some (.int o4611) ∧ w = [] ∧ gB o4611 (-1) 13
set_option maxRecDepth 100000 in
set_option maxHeartbeats 4000000 in
theorem ct_4495_Signs_opOf (l : Launch) (hl0 : l.stackTraces = false) (D : va_G) (I : FieldType → ClassId) (p4493 : Int32) (p4494 : Int32)  : Ct (gV D I) l yX9_opOf cX9_opOf 3 (some FieldType.int) 4 85 0 0 [.int p4493, .int p4494] [] (po_4495_Signs_opOf I p4493 p4494) gN := by
  refine Ct_of hl0 (by decide) (Nat.le_of_ble_eq_true rfl) ?_
  have bp4493 := gB_any p4493
  have bp4494 := gB_any p4494
  refine G_iconst 0 d_cX9_opOf_0 (by decide +kernel) ?_
  refine G_istore_n (L' := [(2, .int 0), (0, .int p4493), (1, .int p4494)]) d_cX9_opOf_1 (Nat.le_of_ble_eq_true rfl) rfl ?_
  have hlp2_4592 : ∀ (n2_4592 : Nat) (g4592 : Int32), gB g4592 0 14 → ((15 : Int) - g4592.toInt).toNat < n2_4592 → G (gV D I) l (gRm 4 85 0 0) (gM (gV D I) (po_4495_Signs_opOf I p4493 p4494) gN 0 0) ky_4495_Signs_opOf 2 [(2, .int g4592), (0, .int p4493), (1, .int p4494)] [] [] 0 0 := by
    intro n2_4592
    induction n2_4592 with
    | zero => intro g4592 bg4592 hm2_4592; exact absurd hm2_4592 (Nat.not_lt_zero _)
    | succ n2_4592 ih2_4592 =>
      intro g4592 bg4592 hm2_4592
      refine G_iload_n 0 d_cX9_opOf_2 rfl ?_
      refine G_bipush 14 d_cX9_opOf_3 (by decide +kernel) ?_
      refine G_icmp_ge 42 d_cX9_opOf_5 (by decide +kernel) (fun hc4593 => ?_) (fun hc4593 => ?_)
      · have r4594 : 14 ≤ g4592.toInt := gj_leL hc4593 (show Int32.toInt 14 = 14 by decide)
        have bg4592' : gB g4592 14 14 := ⟨by omega, by omega⟩
        refine G_iconst (-1) d_cX9_opOf_42 (by decide +kernel) ?_
        exact G_iret d_cX9_opOf_43 rfl (Nat.le_of_ble_eq_true rfl) (Nat.le_of_ble_eq_true rfl) ⟨(-1), rfl, rfl, (gB_w (gBl (show Int32.toInt (-1) = (-1) by decide)) (by decide) (by decide))⟩
      · have r4595 : g4592.toInt < 14 := gj_nleL hc4593 (show Int32.toInt 14 = 14 by decide)
        have bg4592' : gB g4592 0 13 := ⟨by omega, by omega⟩
        refine G_ldcK (a := D.2 1000 5) d_cX9_opOf_8 (fun _ _ _ h => gx_vk 5 rfl rfl h) ?_
        have hl5_4595 : (sb_5.length : Int) = 28 := rfl
        refine G_iconst 2 d_cX9_opOf_10 (by decide +kernel) ?_
        refine G_iload_n 0 d_cX9_opOf_11 rfl ?_
        refine G_imul d_cX9_opOf_12 (G_nam fun z4597 hz4597 => ?_)
        have ez4597 : z4597.toInt = 2 * g4592.toInt := by rw [gI_mul hz4597 (gBl (show Int32.toInt 2 = 2 by decide)) bg4592' (by decide) (by decide) (by decide), show Int32.toInt 2 = 2 from by decide]
        have bz4597 : gB z4597 0 26 := gB_mul hz4597 (gBl (show Int32.toInt 2 = 2 by decide)) bg4592' (by decide) (by decide) (by decide) (by decide)
        refine G_callVk (As := [.int z4597]) (wr := []) (gV_ok D I) (ct_3858_String_charAt l hl0 D I (D.2 1000 5) (D.2 1001 5) sb_5 z4597 (gx_sc 5 rfl rfl) (by omega) (by omega) (by omega)) d_cX9_opOf_13 ⟨w_3_67, w_1_21, w_3_70, by decide, rfl, (Nat.le_of_ble_eq_true rfl), (Nat.le_of_ble_eq_true rfl)⟩ w_3_68 w_3_69 (fun _ _ _ h => ((gx_sc 5 rfl rfl) _ _ _ h).1) [] [] rfl rfl rfl rfl (by decide) (Nat.le_of_ble_eq_true rfl) (Nat.le_of_ble_eq_true rfl) (Nat.le_of_ble_eq_true rfl) (fun r w hp => ?_) (fun _ _ _ z => z.elim)
        obtain ⟨o4598, rfl, rfl, bo4598⟩ := hp
        change G _ _ _ _ _ _ _ (.int o4598 :: _) _ _ _
        refine G_ws (ws' := []) (cs' := 0) (sl' := 0) rfl rfl rfl ?_
        refine G_iload_n 1 d_cX9_opOf_16 rfl ?_
        refine G_icmp_ne 36 d_cX9_opOf_17 (by decide +kernel) (fun hc4599 => ?_) (fun hc4599 => ?_)
        · have r4600 : o4598.toInt ≠ p4493.toInt := gC_ne hc4599
          obtain ⟨z4601, hz4601⟩ : ∃ z : Int32, z = g4592 + Int32.ofInt 1 := ⟨_, rfl⟩
          have ez4601 : z4601.toInt = g4592.toInt + 1 := gI_inc hz4601 (by decide) bg4592' (by decide) (by decide)
          have bz4601 : gB z4601 1 14 := ⟨by omega, by omega⟩
          refine G_iinc (L' := [(2, .int z4601), (0, .int p4493), (1, .int p4494)]) z4601 0 d_cX9_opOf_36 rfl hz4601.symm (Nat.le_of_ble_eq_true rfl) rfl ?_
          refine G_goto 2 d_cX9_opOf_39 (by decide +kernel) ?_
          exact ih2_4592 z4601 (gB_w bz4601 (by decide) (by decide)) (by omega)
        · have r4602 : o4598.toInt = p4493.toInt := gC_eq hc4599
          have bp4493' : gB p4493 0 65535 := ⟨by omega, by omega⟩
          refine G_ldcK (a := D.2 1000 5) d_cX9_opOf_20 (fun _ _ _ h => gx_vk 5 rfl rfl h) ?_
          have hl5_4602 : (sb_5.length : Int) = 28 := rfl
          refine G_iconst 2 d_cX9_opOf_22 (by decide +kernel) ?_
          refine G_iload_n 0 d_cX9_opOf_23 rfl ?_
          refine G_imul d_cX9_opOf_24 (G_nam fun z4604 hz4604 => ?_)
          have ez4604 : z4604.toInt = 2 * g4592.toInt := by rw [gI_mul hz4604 (gBl (show Int32.toInt 2 = 2 by decide)) bg4592' (by decide) (by decide) (by decide), show Int32.toInt 2 = 2 from by decide]
          have bz4604 : gB z4604 0 26 := gB_mul hz4604 (gBl (show Int32.toInt 2 = 2 by decide)) bg4592' (by decide) (by decide) (by decide) (by decide)
          refine G_iconst 1 d_cX9_opOf_25 (by decide +kernel) ?_
          refine G_iadd d_cX9_opOf_26 (G_nam fun z4605 hz4605 => ?_)
          have ez4605 : z4605.toInt = z4604.toInt + 1 := by rw [gI_add hz4605 bz4604 (gBl (show Int32.toInt 1 = 1 by decide)) (by decide) (by decide), show Int32.toInt 1 = 1 from by decide]
          have bz4605 : gB z4605 1 27 := gB_add (gI_add hz4605 bz4604 (gBl (show Int32.toInt 1 = 1 by decide)) (by decide) (by decide)) bz4604 (gBl (show Int32.toInt 1 = 1 by decide)) (by decide) (by decide)
          refine G_callVk (As := [.int z4605]) (wr := []) (gV_ok D I) (ct_3858_String_charAt l hl0 D I (D.2 1000 5) (D.2 1001 5) sb_5 z4605 (gx_sc 5 rfl rfl) (by omega) (by omega) (by omega)) d_cX9_opOf_27 ⟨w_3_67, w_1_21, w_3_70, by decide, rfl, (Nat.le_of_ble_eq_true rfl), (Nat.le_of_ble_eq_true rfl)⟩ w_3_68 w_3_69 (fun _ _ _ h => ((gx_sc 5 rfl rfl) _ _ _ h).1) [] [] rfl rfl rfl rfl (by decide) (Nat.le_of_ble_eq_true rfl) (Nat.le_of_ble_eq_true rfl) (Nat.le_of_ble_eq_true rfl) (fun r w hp => ?_) (fun _ _ _ z => z.elim)
          obtain ⟨o4606, rfl, rfl, bo4606⟩ := hp
          change G _ _ _ _ _ _ _ (.int o4606 :: _) _ _ _
          refine G_ws (ws' := []) (cs' := 0) (sl' := 0) rfl rfl rfl ?_
          refine G_iload_n 2 d_cX9_opOf_30 rfl ?_
          refine G_icmp_ne 36 d_cX9_opOf_31 (by decide +kernel) (fun hc4607 => ?_) (fun hc4607 => ?_)
          · have r4608 : o4606.toInt ≠ p4494.toInt := gC_ne hc4607
            obtain ⟨z4609, hz4609⟩ : ∃ z : Int32, z = g4592 + Int32.ofInt 1 := ⟨_, rfl⟩
            have ez4609 : z4609.toInt = g4592.toInt + 1 := gI_inc hz4609 (by decide) bg4592' (by decide) (by decide)
            have bz4609 : gB z4609 1 14 := ⟨by omega, by omega⟩
            refine G_iinc (L' := [(2, .int z4609), (0, .int p4493), (1, .int p4494)]) z4609 0 d_cX9_opOf_36 rfl hz4609.symm (Nat.le_of_ble_eq_true rfl) rfl ?_
            refine G_goto 2 d_cX9_opOf_39 (by decide +kernel) ?_
            exact ih2_4592 z4609 (gB_w bz4609 (by decide) (by decide)) (by omega)
          · have r4610 : o4606.toInt = p4494.toInt := gC_eq hc4607
            have bp4494' : gB p4494 0 65535 := ⟨by omega, by omega⟩
            refine G_iload_n 0 d_cX9_opOf_34 rfl ?_
            exact G_iret d_cX9_opOf_35 rfl (Nat.le_of_ble_eq_true rfl) (Nat.le_of_ble_eq_true rfl) ⟨g4592, rfl, rfl, (gB_w bg4592' (by decide) (by decide))⟩
  exact hlp2_4592 (((15 : Int) - 0).toNat + 1) 0 (gB_w (gBl (show Int32.toInt 0 = 0 by decide)) (by decide) (by decide)) (Nat.lt_succ_self _)
abbrev ky_4624_Signs_takeMark : gKey := (cX9_takeMark, 4, yX9_takeMark.cls, none, [], yX9_takeMark.name, fun _ _ => True)
abbrev po_4624_Signs_takeMark (I : FieldType → ClassId) (q4612 : Nat) (q4613 : Nat) (q4614 : Nat) (p4615 : Int32) (p4616 : Int32) (p4617 : Int32) (p4618 : Int32) (p4619 : Int32) (p4620 : Int32) (p4621 : Int32) (f4622 : Nat → Int32) : Option Value → va_W → Prop := fun r w => ∃ (o4655 : Int32) (o4656 : Int32) (o4657 : Int32), r = none ∧ w = [(q4612, .inr (14, [.ref q4613, .int o4655, .int o4656, .int p4619, .int o4657])), (q4613, .inr (15, [.ref q4614, .int p4621])), (q4614, .inl (I .byte, 8192, .inl f4622))] ∧ gB o4655 0 7 ∧ gB o4656 (-1) 13 ∧ gB o4657 (-2147483648) 2147483647 ∧ (o4655.toInt ≠ 5 ∨ (0 ≤ o4656.toInt ∧ o4656.toInt ≤ 13))
set_option maxRecDepth 100000 in
set_option maxHeartbeats 4000000 in
theorem ct_4624_Signs_takeMark (l : Launch) (hl0 : l.stackTraces = false) (D : va_G) (I : FieldType → ClassId) (q4612 : Nat) (q4613 : Nat) (q4614 : Nat) (p4615 : Int32) (p4616 : Int32) (p4617 : Int32) (p4618 : Int32) (p4619 : Int32) (p4620 : Int32) (p4621 : Int32) (f4622 : Nat → Int32) (bp4621 : gB p4621 0 8192) (bf4622 : gF f4622 (-128) 127) (x4623 : (p4617.toInt ≠ 5 ∨ (0 ≤ p4618.toInt ∧ p4618.toInt ≤ 13))) : Ct (gV D I) l yX9_takeMark cX9_takeMark 4 none 5 107 0 0 [.ref q4612, .int p4615, .int p4616] [(q4612, .inr (14, [.ref q4613, .int p4617, .int p4618, .int p4619, .int p4620])), (q4613, .inr (15, [.ref q4614, .int p4621])), (q4614, .inl (I .byte, 8192, .inl f4622))] (po_4624_Signs_takeMark I q4612 q4613 q4614 p4615 p4616 p4617 p4618 p4619 p4620 p4621 f4622) gN := by
  refine Ct_of hl0 (by decide) (Nat.le_of_ble_eq_true rfl) ?_
  have bp4615 := gB_any p4615
  have bp4616 := gB_any p4616
  have bp4617 := gB_any p4617
  have bp4618 := gB_any p4618
  have bp4619 := gB_any p4619
  have bp4620 := gB_any p4620
  refine G_iload_n 1 d_cX9_takeMark_0 rfl ?_
  refine G_iload_n 2 d_cX9_takeMark_1 rfl ?_
  refine G_callS (As := [.int p4615, .int p4616]) (wr := [(q4612, .inr (14, [.ref q4613, .int p4617, .int p4618, .int p4619, .int p4620])), (q4613, .inr (15, [.ref q4614, .int p4621])), (q4614, .inl (I .byte, 8192, .inl f4622))]) (gV_ok D I) (ct_4495_Signs_opOf l hl0 D I p4615 p4616 ) d_cX9_takeMark_2 ⟨w_3_113, w_1_4, w_3_115, by decide, rfl, (Nat.le_of_ble_eq_true rfl), (Nat.le_of_ble_eq_true rfl)⟩ w_3_114 [] [0, 1, 2] rfl rfl rfl rfl (by decide) (Nat.le_of_ble_eq_true rfl) (Nat.le_of_ble_eq_true rfl) (Nat.le_of_ble_eq_true rfl) (fun r w hp => ?_) (fun _ _ _ z => z.elim)
  obtain ⟨o4625, rfl, rfl, bo4625⟩ := hp
  change G _ _ _ _ _ _ _ (.int o4625 :: _) _ _ _
  refine G_ws (ws' := [(q4612, .inr (14, [.ref q4613, .int p4617, .int p4618, .int p4619, .int p4620])), (q4613, .inr (15, [.ref q4614, .int p4621])), (q4614, .inl (I .byte, 8192, .inl f4622))]) (cs' := 0) (sl' := 0) rfl rfl rfl ?_
  refine G_istore_n (L' := [(3, .int o4625), (0, .ref q4612), (1, .int p4615), (2, .int p4616)]) d_cX9_takeMark_5 (Nat.le_of_ble_eq_true rfl) rfl ?_
  refine G_aload_n 1 d_cX9_takeMark_6 rfl ?_
  refine G_aload_n 1 d_cX9_takeMark_7 rfl ?_
  refine G_getf 0 3 d_cX9_takeMark_8 rfl (gk_X9 D I) (Nat.le_of_ble_eq_true rfl) w_1_82 rfl ?_
  refine G_iconst 2 d_cX9_takeMark_11 (by decide +kernel) ?_
  refine G_iadd d_cX9_takeMark_12 (G_nam fun z4626 hz4626 => ?_)
  have bz4626 : gB z4626 (-2147483648) 2147483647 := gB_any z4626
  refine G_putf (ws' := [(q4612, .inr (14, [.ref q4613, .int p4617, .int p4618, .int p4619, .int z4626])), (q4613, .inr (15, [.ref q4614, .int p4621])), (q4614, .inl (I .byte, 8192, .inl f4622))]) 0 4 d_cX9_takeMark_13 rfl (gk_X9 D I) (Nat.le_of_ble_eq_true rfl) w_1_83 rfl rfl rfl (Nat.le_of_ble_eq_true rfl) rfl ?_
  refine G_iload_n 0 d_cX9_takeMark_16 rfl ?_
  refine G_iconst (-1) d_cX9_takeMark_17 (by decide +kernel) ?_
  refine G_icmp_eq 27 d_cX9_takeMark_18 (by decide +kernel) (fun hc4627 => ?_) (fun hc4627 => ?_)
  · have r4628 : o4625.toInt = (-1) := gj_eq hc4627 (show Int32.toInt (-1) = (-1) by decide)
    have bo4625' : gB o4625 (-1) (-1) := ⟨by omega, by omega⟩
    refine G_iload_n 2 d_cX9_takeMark_27 rfl ?_
    refine G_bipush 32 d_cX9_takeMark_28 (by decide +kernel) ?_
    refine G_callS (As := [.int p4615, .int 32]) (wr := [(q4612, .inr (14, [.ref q4613, .int p4617, .int p4618, .int p4619, .int z4626])), (q4613, .inr (15, [.ref q4614, .int p4621])), (q4614, .inl (I .byte, 8192, .inl f4622))]) (gV_ok D I) (ct_4495_Signs_opOf l hl0 D I p4615 32 ) d_cX9_takeMark_30 ⟨w_3_113, w_1_4, w_3_115, by decide, rfl, (Nat.le_of_ble_eq_true rfl), (Nat.le_of_ble_eq_true rfl)⟩ w_3_114 [] [0, 1, 2] rfl rfl rfl rfl (by decide) (Nat.le_of_ble_eq_true rfl) (Nat.le_of_ble_eq_true rfl) (Nat.le_of_ble_eq_true rfl) (fun r w hp => ?_) (fun _ _ _ z => z.elim)
    obtain ⟨o4629, rfl, rfl, bo4629⟩ := hp
    change G _ _ _ _ _ _ _ (.int o4629 :: _) _ _ _
    refine G_ws (ws' := [(q4612, .inr (14, [.ref q4613, .int p4617, .int p4618, .int p4619, .int z4626])), (q4613, .inr (15, [.ref q4614, .int p4621])), (q4614, .inl (I .byte, 8192, .inl f4622))]) (cs' := 0) (sl' := 0) rfl rfl rfl ?_
    refine G_istore_n (L' := [(3, .int o4629), (0, .ref q4612), (1, .int p4615), (2, .int p4616)]) d_cX9_takeMark_33 (Nat.le_of_ble_eq_true rfl) rfl ?_
    refine G_aload_n 1 d_cX9_takeMark_34 rfl ?_
    refine G_aload_n 1 d_cX9_takeMark_35 rfl ?_
    refine G_getf 0 3 d_cX9_takeMark_36 rfl (gk_X9 D I) (Nat.le_of_ble_eq_true rfl) w_1_82 rfl ?_
    refine G_iconst 1 d_cX9_takeMark_39 (by decide +kernel) ?_
    refine G_iadd d_cX9_takeMark_40 (G_nam fun z4630 hz4630 => ?_)
    have bz4630 : gB z4630 (-2147483648) 2147483647 := gB_any z4630
    refine G_putf (ws' := [(q4612, .inr (14, [.ref q4613, .int p4617, .int p4618, .int p4619, .int z4630])), (q4613, .inr (15, [.ref q4614, .int p4621])), (q4614, .inl (I .byte, 8192, .inl f4622))]) 0 4 d_cX9_takeMark_41 rfl (gk_X9 D I) (Nat.le_of_ble_eq_true rfl) w_1_83 rfl rfl rfl (Nat.le_of_ble_eq_true rfl) rfl ?_
    refine G_aload_n 1 d_cX9_takeMark_44 rfl ?_
    refine G_iload_n 0 d_cX9_takeMark_45 rfl ?_
    refine G_putf (ws' := [(q4612, .inr (14, [.ref q4613, .int p4617, .int o4629, .int p4619, .int z4630])), (q4613, .inr (15, [.ref q4614, .int p4621])), (q4614, .inl (I .byte, 8192, .inl f4622))]) 0 2 d_cX9_takeMark_46 rfl (gk_X9 D I) (Nat.le_of_ble_eq_true rfl) w_1_81 rfl rfl rfl (Nat.le_of_ble_eq_true rfl) rfl ?_
    refine G_aload_n 1 d_cX9_takeMark_49 rfl ?_
    refine G_iload_n 0 d_cX9_takeMark_50 rfl ?_
    refine G_iconst (-1) d_cX9_takeMark_51 (by decide +kernel) ?_
    refine G_icmp_eq 59 d_cX9_takeMark_52 (by decide +kernel) (fun hc4631 => ?_) (fun hc4631 => ?_)
    · have r4632 : o4629.toInt = (-1) := gj_eq hc4631 (show Int32.toInt (-1) = (-1) by decide)
      have bo4629' : gB o4629 (-1) (-1) := ⟨by omega, by omega⟩
      refine G_iload_n 2 d_cX9_takeMark_59 rfl ?_
      refine G_bipush 58 d_cX9_takeMark_60 (by decide +kernel) ?_
      refine G_icmp_ne 70 d_cX9_takeMark_62 (by decide +kernel) (fun hc4633 => ?_) (fun hc4633 => ?_)
      · have r4634 : p4615.toInt ≠ 58 := gj_neq hc4633 (show Int32.toInt 58 = 58 by decide)
        refine G_iload_n 2 d_cX9_takeMark_70 rfl ?_
        refine G_bipush 61 d_cX9_takeMark_71 (by decide +kernel) ?_
        refine G_icmp_ne 81 d_cX9_takeMark_73 (by decide +kernel) (fun hc4635 => ?_) (fun hc4635 => ?_)
        · have r4636 : p4615.toInt ≠ 61 := gj_neq hc4635 (show Int32.toInt 61 = 61 by decide)
          refine G_iconst 0 d_cX9_takeMark_81 (by decide +kernel) ?_
          refine G_putf (ws' := [(q4612, .inr (14, [.ref q4613, .int 0, .int o4629, .int p4619, .int z4630])), (q4613, .inr (15, [.ref q4614, .int p4621])), (q4614, .inl (I .byte, 8192, .inl f4622))]) 0 1 d_cX9_takeMark_82 rfl (gk_X9 D I) (Nat.le_of_ble_eq_true rfl) w_1_80 rfl rfl rfl (Nat.le_of_ble_eq_true rfl) rfl ?_
          exact G_vret d_cX9_takeMark_85 rfl (Nat.le_of_ble_eq_true rfl) (Nat.le_of_ble_eq_true rfl) ⟨0, o4629, z4630, rfl, rfl, (gB_w (gBl (show Int32.toInt 0 = 0 by decide)) (by decide) (by decide)), (gB_w bo4629' (by decide) (by decide)), bz4630, (by have qa0 : Int32.toInt 0 = 0 := (by decide); omega)⟩
        · have r4637 : p4615.toInt = 61 := gj_eq hc4635 (show Int32.toInt 61 = 61 by decide)
          have bp4615' : gB p4615 61 61 := ⟨by omega, by omega⟩
          refine G_bipush 7 d_cX9_takeMark_76 (by decide +kernel) ?_
          refine G_goto 82 d_cX9_takeMark_78 (by decide +kernel) ?_
          refine G_putf (ws' := [(q4612, .inr (14, [.ref q4613, .int 7, .int o4629, .int p4619, .int z4630])), (q4613, .inr (15, [.ref q4614, .int p4621])), (q4614, .inl (I .byte, 8192, .inl f4622))]) 0 1 d_cX9_takeMark_82 rfl (gk_X9 D I) (Nat.le_of_ble_eq_true rfl) w_1_80 rfl rfl rfl (Nat.le_of_ble_eq_true rfl) rfl ?_
          exact G_vret d_cX9_takeMark_85 rfl (Nat.le_of_ble_eq_true rfl) (Nat.le_of_ble_eq_true rfl) ⟨7, o4629, z4630, rfl, rfl, (gB_w (gBl (show Int32.toInt 7 = 7 by decide)) (by decide) (by decide)), (gB_w bo4629' (by decide) (by decide)), bz4630, (by have qa0 : Int32.toInt 7 = 7 := (by decide); omega)⟩
      · have r4638 : p4615.toInt = 58 := gj_eq hc4633 (show Int32.toInt 58 = 58 by decide)
        have bp4615' : gB p4615 58 58 := ⟨by omega, by omega⟩
        refine G_bipush 6 d_cX9_takeMark_65 (by decide +kernel) ?_
        refine G_goto 82 d_cX9_takeMark_67 (by decide +kernel) ?_
        refine G_putf (ws' := [(q4612, .inr (14, [.ref q4613, .int 6, .int o4629, .int p4619, .int z4630])), (q4613, .inr (15, [.ref q4614, .int p4621])), (q4614, .inl (I .byte, 8192, .inl f4622))]) 0 1 d_cX9_takeMark_82 rfl (gk_X9 D I) (Nat.le_of_ble_eq_true rfl) w_1_80 rfl rfl rfl (Nat.le_of_ble_eq_true rfl) rfl ?_
        exact G_vret d_cX9_takeMark_85 rfl (Nat.le_of_ble_eq_true rfl) (Nat.le_of_ble_eq_true rfl) ⟨6, o4629, z4630, rfl, rfl, (gB_w (gBl (show Int32.toInt 6 = 6 by decide)) (by decide) (by decide)), (gB_w bo4629' (by decide) (by decide)), bz4630, (by have qa0 : Int32.toInt 6 = 6 := (by decide); omega)⟩
    · have r4639 : o4629.toInt ≠ (-1) := gj_neq hc4631 (show Int32.toInt (-1) = (-1) by decide)
      have bo4629' : gB o4629 0 13 := ⟨by omega, by omega⟩
      refine G_iconst 5 d_cX9_takeMark_55 (by decide +kernel) ?_
      refine G_goto 82 d_cX9_takeMark_56 (by decide +kernel) ?_
      refine G_putf (ws' := [(q4612, .inr (14, [.ref q4613, .int 5, .int o4629, .int p4619, .int z4630])), (q4613, .inr (15, [.ref q4614, .int p4621])), (q4614, .inl (I .byte, 8192, .inl f4622))]) 0 1 d_cX9_takeMark_82 rfl (gk_X9 D I) (Nat.le_of_ble_eq_true rfl) w_1_80 rfl rfl rfl (Nat.le_of_ble_eq_true rfl) rfl ?_
      exact G_vret d_cX9_takeMark_85 rfl (Nat.le_of_ble_eq_true rfl) (Nat.le_of_ble_eq_true rfl) ⟨5, o4629, z4630, rfl, rfl, (gB_w (gBl (show Int32.toInt 5 = 5 by decide)) (by decide) (by decide)), (gB_w bo4629' (by decide) (by decide)), bz4630, (by have qa0 : Int32.toInt 5 = 5 := (by decide); omega)⟩
  · have r4640 : o4625.toInt ≠ (-1) := gj_neq hc4627 (show Int32.toInt (-1) = (-1) by decide)
    have bo4625' : gB o4625 0 13 := ⟨by omega, by omega⟩
    refine G_iload_n 3 d_cX9_takeMark_21 rfl ?_
    refine G_bipush 32 d_cX9_takeMark_22 (by decide +kernel) ?_
    refine G_icmp_ne 44 d_cX9_takeMark_24 (by decide +kernel) (fun hc4641 => ?_) (fun hc4641 => ?_)
    · have r4642 : p4616.toInt ≠ 32 := gj_neq hc4641 (show Int32.toInt 32 = 32 by decide)
      refine G_aload_n 1 d_cX9_takeMark_44 rfl ?_
      refine G_iload_n 0 d_cX9_takeMark_45 rfl ?_
      refine G_putf (ws' := [(q4612, .inr (14, [.ref q4613, .int p4617, .int o4625, .int p4619, .int z4626])), (q4613, .inr (15, [.ref q4614, .int p4621])), (q4614, .inl (I .byte, 8192, .inl f4622))]) 0 2 d_cX9_takeMark_46 rfl (gk_X9 D I) (Nat.le_of_ble_eq_true rfl) w_1_81 rfl rfl rfl (Nat.le_of_ble_eq_true rfl) rfl ?_
      refine G_aload_n 1 d_cX9_takeMark_49 rfl ?_
      refine G_iload_n 0 d_cX9_takeMark_50 rfl ?_
      refine G_iconst (-1) d_cX9_takeMark_51 (by decide +kernel) ?_
      refine G_icmp_eq 59 d_cX9_takeMark_52 (by decide +kernel) (fun hc => absurd (show False by have := gj_eq hc (show Int32.toInt (-1) = (-1) by decide); omega) not_false) (fun _ => ?_)
      refine G_iconst 5 d_cX9_takeMark_55 (by decide +kernel) ?_
      refine G_goto 82 d_cX9_takeMark_56 (by decide +kernel) ?_
      refine G_putf (ws' := [(q4612, .inr (14, [.ref q4613, .int 5, .int o4625, .int p4619, .int z4626])), (q4613, .inr (15, [.ref q4614, .int p4621])), (q4614, .inl (I .byte, 8192, .inl f4622))]) 0 1 d_cX9_takeMark_82 rfl (gk_X9 D I) (Nat.le_of_ble_eq_true rfl) w_1_80 rfl rfl rfl (Nat.le_of_ble_eq_true rfl) rfl ?_
      exact G_vret d_cX9_takeMark_85 rfl (Nat.le_of_ble_eq_true rfl) (Nat.le_of_ble_eq_true rfl) ⟨5, o4625, z4626, rfl, rfl, (gB_w (gBl (show Int32.toInt 5 = 5 by decide)) (by decide) (by decide)), (gB_w bo4625' (by decide) (by decide)), bz4626, (by have qa0 : Int32.toInt 5 = 5 := (by decide); omega)⟩
    · have r4643 : p4616.toInt = 32 := gj_eq hc4641 (show Int32.toInt 32 = 32 by decide)
      have bp4616' : gB p4616 32 32 := ⟨by omega, by omega⟩
      refine G_iload_n 2 d_cX9_takeMark_27 rfl ?_
      refine G_bipush 32 d_cX9_takeMark_28 (by decide +kernel) ?_
      refine G_callS (As := [.int p4615, .int 32]) (wr := [(q4612, .inr (14, [.ref q4613, .int p4617, .int p4618, .int p4619, .int z4626])), (q4613, .inr (15, [.ref q4614, .int p4621])), (q4614, .inl (I .byte, 8192, .inl f4622))]) (gV_ok D I) (ct_4495_Signs_opOf l hl0 D I p4615 32 ) d_cX9_takeMark_30 ⟨w_3_113, w_1_4, w_3_115, by decide, rfl, (Nat.le_of_ble_eq_true rfl), (Nat.le_of_ble_eq_true rfl)⟩ w_3_114 [] [0, 1, 2] rfl rfl rfl rfl (by decide) (Nat.le_of_ble_eq_true rfl) (Nat.le_of_ble_eq_true rfl) (Nat.le_of_ble_eq_true rfl) (fun r w hp => ?_) (fun _ _ _ z => z.elim)
      obtain ⟨o4644, rfl, rfl, bo4644⟩ := hp
      change G _ _ _ _ _ _ _ (.int o4644 :: _) _ _ _
      refine G_ws (ws' := [(q4612, .inr (14, [.ref q4613, .int p4617, .int p4618, .int p4619, .int z4626])), (q4613, .inr (15, [.ref q4614, .int p4621])), (q4614, .inl (I .byte, 8192, .inl f4622))]) (cs' := 0) (sl' := 0) rfl rfl rfl ?_
      refine G_istore_n (L' := [(3, .int o4644), (0, .ref q4612), (1, .int p4615), (2, .int p4616)]) d_cX9_takeMark_33 (Nat.le_of_ble_eq_true rfl) rfl ?_
      refine G_aload_n 1 d_cX9_takeMark_34 rfl ?_
      refine G_aload_n 1 d_cX9_takeMark_35 rfl ?_
      refine G_getf 0 3 d_cX9_takeMark_36 rfl (gk_X9 D I) (Nat.le_of_ble_eq_true rfl) w_1_82 rfl ?_
      refine G_iconst 1 d_cX9_takeMark_39 (by decide +kernel) ?_
      refine G_iadd d_cX9_takeMark_40 (G_nam fun z4645 hz4645 => ?_)
      have bz4645 : gB z4645 (-2147483648) 2147483647 := gB_any z4645
      refine G_putf (ws' := [(q4612, .inr (14, [.ref q4613, .int p4617, .int p4618, .int p4619, .int z4645])), (q4613, .inr (15, [.ref q4614, .int p4621])), (q4614, .inl (I .byte, 8192, .inl f4622))]) 0 4 d_cX9_takeMark_41 rfl (gk_X9 D I) (Nat.le_of_ble_eq_true rfl) w_1_83 rfl rfl rfl (Nat.le_of_ble_eq_true rfl) rfl ?_
      refine G_aload_n 1 d_cX9_takeMark_44 rfl ?_
      refine G_iload_n 0 d_cX9_takeMark_45 rfl ?_
      refine G_putf (ws' := [(q4612, .inr (14, [.ref q4613, .int p4617, .int o4644, .int p4619, .int z4645])), (q4613, .inr (15, [.ref q4614, .int p4621])), (q4614, .inl (I .byte, 8192, .inl f4622))]) 0 2 d_cX9_takeMark_46 rfl (gk_X9 D I) (Nat.le_of_ble_eq_true rfl) w_1_81 rfl rfl rfl (Nat.le_of_ble_eq_true rfl) rfl ?_
      refine G_aload_n 1 d_cX9_takeMark_49 rfl ?_
      refine G_iload_n 0 d_cX9_takeMark_50 rfl ?_
      refine G_iconst (-1) d_cX9_takeMark_51 (by decide +kernel) ?_
      refine G_icmp_eq 59 d_cX9_takeMark_52 (by decide +kernel) (fun hc4646 => ?_) (fun hc4646 => ?_)
      · have r4647 : o4644.toInt = (-1) := gj_eq hc4646 (show Int32.toInt (-1) = (-1) by decide)
        have bo4644' : gB o4644 (-1) (-1) := ⟨by omega, by omega⟩
        refine G_iload_n 2 d_cX9_takeMark_59 rfl ?_
        refine G_bipush 58 d_cX9_takeMark_60 (by decide +kernel) ?_
        refine G_icmp_ne 70 d_cX9_takeMark_62 (by decide +kernel) (fun hc4648 => ?_) (fun hc4648 => ?_)
        · have r4649 : p4615.toInt ≠ 58 := gj_neq hc4648 (show Int32.toInt 58 = 58 by decide)
          refine G_iload_n 2 d_cX9_takeMark_70 rfl ?_
          refine G_bipush 61 d_cX9_takeMark_71 (by decide +kernel) ?_
          refine G_icmp_ne 81 d_cX9_takeMark_73 (by decide +kernel) (fun hc4650 => ?_) (fun hc4650 => ?_)
          · have r4651 : p4615.toInt ≠ 61 := gj_neq hc4650 (show Int32.toInt 61 = 61 by decide)
            refine G_iconst 0 d_cX9_takeMark_81 (by decide +kernel) ?_
            refine G_putf (ws' := [(q4612, .inr (14, [.ref q4613, .int 0, .int o4644, .int p4619, .int z4645])), (q4613, .inr (15, [.ref q4614, .int p4621])), (q4614, .inl (I .byte, 8192, .inl f4622))]) 0 1 d_cX9_takeMark_82 rfl (gk_X9 D I) (Nat.le_of_ble_eq_true rfl) w_1_80 rfl rfl rfl (Nat.le_of_ble_eq_true rfl) rfl ?_
            exact G_vret d_cX9_takeMark_85 rfl (Nat.le_of_ble_eq_true rfl) (Nat.le_of_ble_eq_true rfl) ⟨0, o4644, z4645, rfl, rfl, (gB_w (gBl (show Int32.toInt 0 = 0 by decide)) (by decide) (by decide)), (gB_w bo4644' (by decide) (by decide)), bz4645, (by have qa0 : Int32.toInt 0 = 0 := (by decide); omega)⟩
          · have r4652 : p4615.toInt = 61 := gj_eq hc4650 (show Int32.toInt 61 = 61 by decide)
            have bp4615' : gB p4615 61 61 := ⟨by omega, by omega⟩
            refine G_bipush 7 d_cX9_takeMark_76 (by decide +kernel) ?_
            refine G_goto 82 d_cX9_takeMark_78 (by decide +kernel) ?_
            refine G_putf (ws' := [(q4612, .inr (14, [.ref q4613, .int 7, .int o4644, .int p4619, .int z4645])), (q4613, .inr (15, [.ref q4614, .int p4621])), (q4614, .inl (I .byte, 8192, .inl f4622))]) 0 1 d_cX9_takeMark_82 rfl (gk_X9 D I) (Nat.le_of_ble_eq_true rfl) w_1_80 rfl rfl rfl (Nat.le_of_ble_eq_true rfl) rfl ?_
            exact G_vret d_cX9_takeMark_85 rfl (Nat.le_of_ble_eq_true rfl) (Nat.le_of_ble_eq_true rfl) ⟨7, o4644, z4645, rfl, rfl, (gB_w (gBl (show Int32.toInt 7 = 7 by decide)) (by decide) (by decide)), (gB_w bo4644' (by decide) (by decide)), bz4645, (by have qa0 : Int32.toInt 7 = 7 := (by decide); omega)⟩
        · have r4653 : p4615.toInt = 58 := gj_eq hc4648 (show Int32.toInt 58 = 58 by decide)
          have bp4615' : gB p4615 58 58 := ⟨by omega, by omega⟩
          refine G_bipush 6 d_cX9_takeMark_65 (by decide +kernel) ?_
          refine G_goto 82 d_cX9_takeMark_67 (by decide +kernel) ?_
          refine G_putf (ws' := [(q4612, .inr (14, [.ref q4613, .int 6, .int o4644, .int p4619, .int z4645])), (q4613, .inr (15, [.ref q4614, .int p4621])), (q4614, .inl (I .byte, 8192, .inl f4622))]) 0 1 d_cX9_takeMark_82 rfl (gk_X9 D I) (Nat.le_of_ble_eq_true rfl) w_1_80 rfl rfl rfl (Nat.le_of_ble_eq_true rfl) rfl ?_
          exact G_vret d_cX9_takeMark_85 rfl (Nat.le_of_ble_eq_true rfl) (Nat.le_of_ble_eq_true rfl) ⟨6, o4644, z4645, rfl, rfl, (gB_w (gBl (show Int32.toInt 6 = 6 by decide)) (by decide) (by decide)), (gB_w bo4644' (by decide) (by decide)), bz4645, (by have qa0 : Int32.toInt 6 = 6 := (by decide); omega)⟩
      · have r4654 : o4644.toInt ≠ (-1) := gj_neq hc4646 (show Int32.toInt (-1) = (-1) by decide)
        have bo4644' : gB o4644 0 13 := ⟨by omega, by omega⟩
        refine G_iconst 5 d_cX9_takeMark_55 (by decide +kernel) ?_
        refine G_goto 82 d_cX9_takeMark_56 (by decide +kernel) ?_
        refine G_putf (ws' := [(q4612, .inr (14, [.ref q4613, .int 5, .int o4644, .int p4619, .int z4645])), (q4613, .inr (15, [.ref q4614, .int p4621])), (q4614, .inl (I .byte, 8192, .inl f4622))]) 0 1 d_cX9_takeMark_82 rfl (gk_X9 D I) (Nat.le_of_ble_eq_true rfl) w_1_80 rfl rfl rfl (Nat.le_of_ble_eq_true rfl) rfl ?_
        exact G_vret d_cX9_takeMark_85 rfl (Nat.le_of_ble_eq_true rfl) (Nat.le_of_ble_eq_true rfl) ⟨5, o4644, z4645, rfl, rfl, (gB_w (gBl (show Int32.toInt 5 = 5 by decide)) (by decide) (by decide)), (gB_w bo4644' (by decide) (by decide)), bz4645, (by have qa0 : Int32.toInt 5 = 5 := (by decide); omega)⟩
abbrev ky_4668_Signs_advance : gKey := (cX9_advance, 4, yX9_advance.cls, none, [], yX9_advance.name, fun _ _ => True)
abbrev po_4668_Signs_advance (I : FieldType → ClassId) (q4658 : Nat) (q4659 : Nat) (q4660 : Nat) (p4661 : Int32) (p4662 : Int32) (p4663 : Int32) (p4664 : Int32) (p4665 : Int32) (f4666 : Nat → Int32) : Option Value → va_W → Prop := fun r w => ∃ (o5390 : Int32) (o5391 : Int32) (o5392 : Int32) (o5393 : Int32), r = none ∧ w = [(q4658, .inr (14, [.ref q4659, .int o5390, .int o5391, .int o5392, .int o5393])), (q4659, .inr (15, [.ref q4660, .int p4665])), (q4660, .inl (I .byte, 8192, .inl f4666))] ∧ gB o5390 0 12 ∧ gB o5391 (-2147483648) 2147483647 ∧ gB o5392 (-2147483648) 8192 ∧ gB o5393 (-2147483648) 2147483647 ∧ (o5390.toInt ≠ 5 ∨ (0 ≤ o5391.toInt ∧ o5391.toInt ≤ 13))
set_option maxRecDepth 100000 in
set_option maxHeartbeats 4000000 in
theorem ct_4668_Signs_advance (l : Launch) (hl0 : l.stackTraces = false) (D : va_G) (I : FieldType → ClassId) (q4658 : Nat) (q4659 : Nat) (q4660 : Nat) (p4661 : Int32) (p4662 : Int32) (p4663 : Int32) (p4664 : Int32) (p4665 : Int32) (f4666 : Nat → Int32) (bp4665 : gB p4665 0 8192) (bf4666 : gF f4666 (-128) 127) (x4667 : (p4661.toInt ≠ 5 ∨ (0 ≤ p4662.toInt ∧ p4662.toInt ≤ 13))) : Ct (gV D I) l yX9_advance cX9_advance 4 none 6 130 0 0 [.ref q4658] [(q4658, .inr (14, [.ref q4659, .int p4661, .int p4662, .int p4663, .int p4664])), (q4659, .inr (15, [.ref q4660, .int p4665])), (q4660, .inl (I .byte, 8192, .inl f4666))] (po_4668_Signs_advance I q4658 q4659 q4660 p4661 p4662 p4663 p4664 p4665 f4666) gN := by
  refine Ct_of hl0 (by decide) (Nat.le_of_ble_eq_true rfl) ?_
  have bp4661 := gB_any p4661
  have bp4662 := gB_any p4662
  have bp4663 := gB_any p4663
  have bp4664 := gB_any p4664
  refine G_aload_n 0 d_cX9_advance_0 rfl ?_
  refine G_getf 0 1 d_cX9_advance_1 rfl (gk_X9 D I) (Nat.le_of_ble_eq_true rfl) w_1_80 rfl ?_
  refine G_iconst 2 d_cX9_advance_4 (by decide +kernel) ?_
  refine G_icmp_eq 16 d_cX9_advance_5 (by decide +kernel) (fun hc4669 => ?_) (fun hc4669 => ?_)
  · have r4670 : p4661.toInt = 2 := gj_eq hc4669 (show Int32.toInt 2 = 2 by decide)
    have bp4661' : gB p4661 2 2 := ⟨by omega, by omega⟩
    refine G_iconst 1 d_cX9_advance_16 (by decide +kernel) ?_
    refine G_goto 21 d_cX9_advance_17 (by decide +kernel) ?_
    refine G_istore_n (L' := [(1, .int 1), (0, .ref q4658)]) d_cX9_advance_21 (Nat.le_of_ble_eq_true rfl) rfl ?_
    refine G_aload_n 1 d_cX9_advance_22 rfl ?_
    refine G_aload_n 1 d_cX9_advance_23 rfl ?_
    refine G_aload_n 1 d_cX9_advance_24 rfl ?_
    refine G_getf 0 4 d_cX9_advance_25 rfl (gk_X9 D I) (Nat.le_of_ble_eq_true rfl) w_1_83 rfl ?_
    refine G_callV (As := [.int p4664]) (wr := []) (gV_ok D I) (ct_330_Signs_skipBlanks l hl0 D I q4658 q4659 q4660 p4664 p4661 p4662 p4663 p4664 p4665 f4666 bp4665 bf4666 (by have qa0 : Int32.toInt 1 = 1 := (by decide); omega)) d_cX9_advance_28 ⟨w_3_12, w_1_4, w_3_15, by decide, rfl, (Nat.le_of_ble_eq_true rfl), (Nat.le_of_ble_eq_true rfl)⟩ w_3_14 w_p_0 0 rfl rfl [0, 1, 2] [] rfl rfl rfl rfl (by decide) (Nat.le_of_ble_eq_true rfl) (Nat.le_of_ble_eq_true rfl) (Nat.le_of_ble_eq_true rfl) (fun r w hp => ?_) (fun _ _ _ z => z.elim)
    obtain ⟨o4671, rfl, rfl, bo4671⟩ := hp
    change G _ _ _ _ _ _ _ (.int o4671 :: _) _ _ _
    refine G_ws (ws' := [(q4658, .inr (14, [.ref q4659, .int p4661, .int p4662, .int p4663, .int p4664])), (q4659, .inr (15, [.ref q4660, .int p4665])), (q4660, .inl (I .byte, 8192, .inl f4666))]) (cs' := 0) (sl' := 0) rfl rfl rfl ?_
    refine G_putf (ws' := [(q4658, .inr (14, [.ref q4659, .int p4661, .int p4662, .int o4671, .int p4664])), (q4659, .inr (15, [.ref q4660, .int p4665])), (q4660, .inl (I .byte, 8192, .inl f4666))]) 0 3 d_cX9_advance_31 rfl (gk_X9 D I) (Nat.le_of_ble_eq_true rfl) w_1_82 rfl rfl rfl (Nat.le_of_ble_eq_true rfl) rfl ?_
    refine G_aload_n 1 d_cX9_advance_34 rfl ?_
    refine G_getf 0 0 d_cX9_advance_35 rfl (gk_X9 D I) (Nat.le_of_ble_eq_true rfl) w_1_79 rfl ?_
    refine G_aload_n 1 d_cX9_advance_38 rfl ?_
    refine G_getf 0 3 d_cX9_advance_39 rfl (gk_X9 D I) (Nat.le_of_ble_eq_true rfl) w_1_82 rfl ?_
    refine G_callV (As := [.int o4671]) (wr := [(q4658, .inr (14, [.ref q4659, .int p4661, .int p4662, .int o4671, .int p4664]))]) (gV_ok D I) (ct_31_Tape_byteAt l hl0 D I q4659 q4660 o4671 p4665 f4666 bp4665 bf4666) d_cX9_advance_42 ⟨w_3_20, w_1_2, w_3_23, by decide, rfl, (Nat.le_of_ble_eq_true rfl), (Nat.le_of_ble_eq_true rfl)⟩ w_3_21 w_3_22 1 rfl rfl [1, 2] [0] rfl rfl rfl rfl (by decide) (Nat.le_of_ble_eq_true rfl) (Nat.le_of_ble_eq_true rfl) (Nat.le_of_ble_eq_true rfl) (fun r w hp => ?_) (fun _ _ _ z => z.elim)
    rcases hp with ⟨rfl, rfl, r4672⟩ | ⟨rfl, rfl, r4673, r4674⟩ | ⟨z4675, rfl, rfl, r4676, r4677, r4678⟩
    · have bo4671' : gB o4671 (-2147483648) (-1) := ⟨by omega, by omega⟩
      change G _ _ _ _ _ _ _ (.int (-1) :: _) _ _ _
      refine G_ws (ws' := [(q4658, .inr (14, [.ref q4659, .int p4661, .int p4662, .int o4671, .int p4664])), (q4659, .inr (15, [.ref q4660, .int p4665])), (q4660, .inl (I .byte, 8192, .inl f4666))]) (cs' := 0) (sl' := 0) rfl rfl rfl ?_
      refine G_istore_n (L' := [(2, .int (-1)), (1, .int 1), (0, .ref q4658)]) d_cX9_advance_45 (Nat.le_of_ble_eq_true rfl) rfl ?_
      refine G_aload_n 2 d_cX9_advance_46 rfl ?_
      refine G_getf 0 0 d_cX9_advance_47 rfl (gk_X9 D I) (Nat.le_of_ble_eq_true rfl) w_1_79 rfl ?_
      refine G_aload_n 2 d_cX9_advance_50 rfl ?_
      refine G_getf 0 3 d_cX9_advance_51 rfl (gk_X9 D I) (Nat.le_of_ble_eq_true rfl) w_1_82 rfl ?_
      refine G_iconst 1 d_cX9_advance_54 (by decide +kernel) ?_
      refine G_iadd d_cX9_advance_55 (G_nam fun z4679 hz4679 => ?_)
      have ez4679 : z4679.toInt = o4671.toInt + 1 := by rw [gI_add hz4679 bo4671' (gBl (show Int32.toInt 1 = 1 by decide)) (by decide) (by decide), show Int32.toInt 1 = 1 from by decide]
      have bz4679 : gB z4679 (-2147483647) 0 := gB_add (gI_add hz4679 bo4671' (gBl (show Int32.toInt 1 = 1 by decide)) (by decide) (by decide)) bo4671' (gBl (show Int32.toInt 1 = 1 by decide)) (by decide) (by decide)
      refine G_callV (As := [.int z4679]) (wr := [(q4658, .inr (14, [.ref q4659, .int p4661, .int p4662, .int o4671, .int p4664]))]) (gV_ok D I) (ct_31_Tape_byteAt l hl0 D I q4659 q4660 z4679 p4665 f4666 bp4665 bf4666) d_cX9_advance_56 ⟨w_3_20, w_1_2, w_3_23, by decide, rfl, (Nat.le_of_ble_eq_true rfl), (Nat.le_of_ble_eq_true rfl)⟩ w_3_21 w_3_22 1 rfl rfl [1, 2] [0] rfl rfl rfl rfl (by decide) (Nat.le_of_ble_eq_true rfl) (Nat.le_of_ble_eq_true rfl) (Nat.le_of_ble_eq_true rfl) (fun r w hp => ?_) (fun _ _ _ z => z.elim)
      rcases hp with ⟨rfl, rfl, r4680⟩ | ⟨rfl, rfl, r4681, r4682⟩ | ⟨z4683, rfl, rfl, r4684, r4685, r4686⟩
      · have bz4679' : gB z4679 (-2147483647) (-1) := ⟨by omega, by omega⟩
        change G _ _ _ _ _ _ _ (.int (-1) :: _) _ _ _
        refine G_ws (ws' := [(q4658, .inr (14, [.ref q4659, .int p4661, .int p4662, .int o4671, .int p4664])), (q4659, .inr (15, [.ref q4660, .int p4665])), (q4660, .inl (I .byte, 8192, .inl f4666))]) (cs' := 0) (sl' := 0) rfl rfl rfl ?_
        refine G_istore_n (L' := [(3, .int (-1)), (2, .int (-1)), (1, .int 1), (0, .ref q4658)]) d_cX9_advance_59 (Nat.le_of_ble_eq_true rfl) rfl ?_
        refine G_aload_n 3 d_cX9_advance_60 rfl ?_
        refine G_iconst 0 d_cX9_advance_61 (by decide +kernel) ?_
        refine G_putf (ws' := [(q4658, .inr (14, [.ref q4659, .int p4661, .int 0, .int o4671, .int p4664])), (q4659, .inr (15, [.ref q4660, .int p4665])), (q4660, .inl (I .byte, 8192, .inl f4666))]) 0 2 d_cX9_advance_62 rfl (gk_X9 D I) (Nat.le_of_ble_eq_true rfl) w_1_81 rfl rfl rfl (Nat.le_of_ble_eq_true rfl) rfl ?_
        refine G_iload_n 1 d_cX9_advance_65 rfl ?_
        refine G_iconst (-1) d_cX9_advance_66 (by decide +kernel) ?_
        refine G_icmp_ne 86 d_cX9_advance_67 (by decide +kernel) (fun hc => absurd hc (by decide)) (fun _ => ?_)
        refine G_aload_n 3 d_cX9_advance_70 rfl ?_
        refine G_iconst 1 d_cX9_advance_71 (by decide +kernel) ?_
        refine G_putf (ws' := [(q4658, .inr (14, [.ref q4659, .int 1, .int 0, .int o4671, .int p4664])), (q4659, .inr (15, [.ref q4660, .int p4665])), (q4660, .inl (I .byte, 8192, .inl f4666))]) 0 1 d_cX9_advance_72 rfl (gk_X9 D I) (Nat.le_of_ble_eq_true rfl) w_1_80 rfl rfl rfl (Nat.le_of_ble_eq_true rfl) rfl ?_
        refine G_aload_n 3 d_cX9_advance_75 rfl ?_
        refine G_aload_n 3 d_cX9_advance_76 rfl ?_
        refine G_getf 0 3 d_cX9_advance_77 rfl (gk_X9 D I) (Nat.le_of_ble_eq_true rfl) w_1_82 rfl ?_
        refine G_putf (ws' := [(q4658, .inr (14, [.ref q4659, .int 1, .int 0, .int o4671, .int o4671])), (q4659, .inr (15, [.ref q4660, .int p4665])), (q4660, .inl (I .byte, 8192, .inl f4666))]) 0 4 d_cX9_advance_80 rfl (gk_X9 D I) (Nat.le_of_ble_eq_true rfl) w_1_83 rfl rfl rfl (Nat.le_of_ble_eq_true rfl) rfl ?_
        refine G_goto 194 d_cX9_advance_83 (by decide +kernel) ?_
        exact G_vret d_cX9_advance_194 rfl (Nat.le_of_ble_eq_true rfl) (Nat.le_of_ble_eq_true rfl) ⟨1, 0, o4671, o4671, rfl, rfl, (gB_w (gBl (show Int32.toInt 1 = 1 by decide)) (by decide) (by decide)), (gB_w (gBl (show Int32.toInt 0 = 0 by decide)) (by decide) (by decide)), (gB_w bo4671' (by decide) (by decide)), (gB_w bo4671' (by decide) (by decide)), (by have qa0 : Int32.toInt (-1) = (-1) := (by decide); have qa1 : Int32.toInt 0 = 0 := (by decide); have qa2 : Int32.toInt 1 = 1 := (by decide); omega)⟩
      · have bz4679' : gB z4679 0 0 := ⟨by omega, by omega⟩
        have bp4665' : gB p4665 0 0 := ⟨by omega, by omega⟩
        change G _ _ _ _ _ _ _ (.int (-1) :: _) _ _ _
        refine G_ws (ws' := [(q4658, .inr (14, [.ref q4659, .int p4661, .int p4662, .int o4671, .int p4664])), (q4659, .inr (15, [.ref q4660, .int p4665])), (q4660, .inl (I .byte, 8192, .inl f4666))]) (cs' := 0) (sl' := 0) rfl rfl rfl ?_
        refine G_istore_n (L' := [(3, .int (-1)), (2, .int (-1)), (1, .int 1), (0, .ref q4658)]) d_cX9_advance_59 (Nat.le_of_ble_eq_true rfl) rfl ?_
        refine G_aload_n 3 d_cX9_advance_60 rfl ?_
        refine G_iconst 0 d_cX9_advance_61 (by decide +kernel) ?_
        refine G_putf (ws' := [(q4658, .inr (14, [.ref q4659, .int p4661, .int 0, .int o4671, .int p4664])), (q4659, .inr (15, [.ref q4660, .int p4665])), (q4660, .inl (I .byte, 8192, .inl f4666))]) 0 2 d_cX9_advance_62 rfl (gk_X9 D I) (Nat.le_of_ble_eq_true rfl) w_1_81 rfl rfl rfl (Nat.le_of_ble_eq_true rfl) rfl ?_
        refine G_iload_n 1 d_cX9_advance_65 rfl ?_
        refine G_iconst (-1) d_cX9_advance_66 (by decide +kernel) ?_
        refine G_icmp_ne 86 d_cX9_advance_67 (by decide +kernel) (fun hc => absurd hc (by decide)) (fun _ => ?_)
        refine G_aload_n 3 d_cX9_advance_70 rfl ?_
        refine G_iconst 1 d_cX9_advance_71 (by decide +kernel) ?_
        refine G_putf (ws' := [(q4658, .inr (14, [.ref q4659, .int 1, .int 0, .int o4671, .int p4664])), (q4659, .inr (15, [.ref q4660, .int p4665])), (q4660, .inl (I .byte, 8192, .inl f4666))]) 0 1 d_cX9_advance_72 rfl (gk_X9 D I) (Nat.le_of_ble_eq_true rfl) w_1_80 rfl rfl rfl (Nat.le_of_ble_eq_true rfl) rfl ?_
        refine G_aload_n 3 d_cX9_advance_75 rfl ?_
        refine G_aload_n 3 d_cX9_advance_76 rfl ?_
        refine G_getf 0 3 d_cX9_advance_77 rfl (gk_X9 D I) (Nat.le_of_ble_eq_true rfl) w_1_82 rfl ?_
        refine G_putf (ws' := [(q4658, .inr (14, [.ref q4659, .int 1, .int 0, .int o4671, .int o4671])), (q4659, .inr (15, [.ref q4660, .int p4665])), (q4660, .inl (I .byte, 8192, .inl f4666))]) 0 4 d_cX9_advance_80 rfl (gk_X9 D I) (Nat.le_of_ble_eq_true rfl) w_1_83 rfl rfl rfl (Nat.le_of_ble_eq_true rfl) rfl ?_
        refine G_goto 194 d_cX9_advance_83 (by decide +kernel) ?_
        exact G_vret d_cX9_advance_194 rfl (Nat.le_of_ble_eq_true rfl) (Nat.le_of_ble_eq_true rfl) ⟨1, 0, o4671, o4671, rfl, rfl, (gB_w (gBl (show Int32.toInt 1 = 1 by decide)) (by decide) (by decide)), (gB_w (gBl (show Int32.toInt 0 = 0 by decide)) (by decide) (by decide)), (gB_w bo4671' (by decide) (by decide)), (gB_w bo4671' (by decide) (by decide)), (by have qa0 : Int32.toInt (-1) = (-1) := (by decide); have qa1 : Int32.toInt 0 = 0 := (by decide); have qa2 : Int32.toInt 1 = 1 := (by decide); omega)⟩
      · have bz4679' : gB z4679 0 0 := ⟨by omega, by omega⟩
        have bp4665' : gB p4665 1 8192 := ⟨by omega, by omega⟩
        change G _ _ _ _ _ _ _ (.int z4683 :: _) _ _ _
        refine G_ws (ws' := [(q4658, .inr (14, [.ref q4659, .int p4661, .int p4662, .int o4671, .int p4664])), (q4659, .inr (15, [.ref q4660, .int p4665])), (q4660, .inl (I .byte, 8192, .inl f4666))]) (cs' := 0) (sl' := 0) rfl rfl rfl ?_
        refine G_istore_n (L' := [(3, .int z4683), (2, .int (-1)), (1, .int 1), (0, .ref q4658)]) d_cX9_advance_59 (Nat.le_of_ble_eq_true rfl) rfl ?_
        refine G_aload_n 3 d_cX9_advance_60 rfl ?_
        refine G_iconst 0 d_cX9_advance_61 (by decide +kernel) ?_
        refine G_putf (ws' := [(q4658, .inr (14, [.ref q4659, .int p4661, .int 0, .int o4671, .int p4664])), (q4659, .inr (15, [.ref q4660, .int p4665])), (q4660, .inl (I .byte, 8192, .inl f4666))]) 0 2 d_cX9_advance_62 rfl (gk_X9 D I) (Nat.le_of_ble_eq_true rfl) w_1_81 rfl rfl rfl (Nat.le_of_ble_eq_true rfl) rfl ?_
        refine G_iload_n 1 d_cX9_advance_65 rfl ?_
        refine G_iconst (-1) d_cX9_advance_66 (by decide +kernel) ?_
        refine G_icmp_ne 86 d_cX9_advance_67 (by decide +kernel) (fun hc => absurd hc (by decide)) (fun _ => ?_)
        refine G_aload_n 3 d_cX9_advance_70 rfl ?_
        refine G_iconst 1 d_cX9_advance_71 (by decide +kernel) ?_
        refine G_putf (ws' := [(q4658, .inr (14, [.ref q4659, .int 1, .int 0, .int o4671, .int p4664])), (q4659, .inr (15, [.ref q4660, .int p4665])), (q4660, .inl (I .byte, 8192, .inl f4666))]) 0 1 d_cX9_advance_72 rfl (gk_X9 D I) (Nat.le_of_ble_eq_true rfl) w_1_80 rfl rfl rfl (Nat.le_of_ble_eq_true rfl) rfl ?_
        refine G_aload_n 3 d_cX9_advance_75 rfl ?_
        refine G_aload_n 3 d_cX9_advance_76 rfl ?_
        refine G_getf 0 3 d_cX9_advance_77 rfl (gk_X9 D I) (Nat.le_of_ble_eq_true rfl) w_1_82 rfl ?_
        refine G_putf (ws' := [(q4658, .inr (14, [.ref q4659, .int 1, .int 0, .int o4671, .int o4671])), (q4659, .inr (15, [.ref q4660, .int p4665])), (q4660, .inl (I .byte, 8192, .inl f4666))]) 0 4 d_cX9_advance_80 rfl (gk_X9 D I) (Nat.le_of_ble_eq_true rfl) w_1_83 rfl rfl rfl (Nat.le_of_ble_eq_true rfl) rfl ?_
        refine G_goto 194 d_cX9_advance_83 (by decide +kernel) ?_
        exact G_vret d_cX9_advance_194 rfl (Nat.le_of_ble_eq_true rfl) (Nat.le_of_ble_eq_true rfl) ⟨1, 0, o4671, o4671, rfl, rfl, (gB_w (gBl (show Int32.toInt 1 = 1 by decide)) (by decide) (by decide)), (gB_w (gBl (show Int32.toInt 0 = 0 by decide)) (by decide) (by decide)), (gB_w bo4671' (by decide) (by decide)), (gB_w bo4671' (by decide) (by decide)), (by have qa0 : Int32.toInt (-1) = (-1) := (by decide); have qa1 : Int32.toInt 0 = 0 := (by decide); have qa2 : Int32.toInt 1 = 1 := (by decide); omega)⟩
    · have bo4671' : gB o4671 0 8192 := ⟨by omega, by omega⟩
      change G _ _ _ _ _ _ _ (.int (-1) :: _) _ _ _
      refine G_ws (ws' := [(q4658, .inr (14, [.ref q4659, .int p4661, .int p4662, .int o4671, .int p4664])), (q4659, .inr (15, [.ref q4660, .int p4665])), (q4660, .inl (I .byte, 8192, .inl f4666))]) (cs' := 0) (sl' := 0) rfl rfl rfl ?_
      refine G_istore_n (L' := [(2, .int (-1)), (1, .int 1), (0, .ref q4658)]) d_cX9_advance_45 (Nat.le_of_ble_eq_true rfl) rfl ?_
      refine G_aload_n 2 d_cX9_advance_46 rfl ?_
      refine G_getf 0 0 d_cX9_advance_47 rfl (gk_X9 D I) (Nat.le_of_ble_eq_true rfl) w_1_79 rfl ?_
      refine G_aload_n 2 d_cX9_advance_50 rfl ?_
      refine G_getf 0 3 d_cX9_advance_51 rfl (gk_X9 D I) (Nat.le_of_ble_eq_true rfl) w_1_82 rfl ?_
      refine G_iconst 1 d_cX9_advance_54 (by decide +kernel) ?_
      refine G_iadd d_cX9_advance_55 (G_nam fun z4687 hz4687 => ?_)
      have ez4687 : z4687.toInt = o4671.toInt + 1 := by rw [gI_add hz4687 bo4671' (gBl (show Int32.toInt 1 = 1 by decide)) (by decide) (by decide), show Int32.toInt 1 = 1 from by decide]
      have bz4687 : gB z4687 1 8193 := gB_add (gI_add hz4687 bo4671' (gBl (show Int32.toInt 1 = 1 by decide)) (by decide) (by decide)) bo4671' (gBl (show Int32.toInt 1 = 1 by decide)) (by decide) (by decide)
      refine G_callV (As := [.int z4687]) (wr := [(q4658, .inr (14, [.ref q4659, .int p4661, .int p4662, .int o4671, .int p4664]))]) (gV_ok D I) (ct_31_Tape_byteAt l hl0 D I q4659 q4660 z4687 p4665 f4666 bp4665 bf4666) d_cX9_advance_56 ⟨w_3_20, w_1_2, w_3_23, by decide, rfl, (Nat.le_of_ble_eq_true rfl), (Nat.le_of_ble_eq_true rfl)⟩ w_3_21 w_3_22 1 rfl rfl [1, 2] [0] rfl rfl rfl rfl (by decide) (Nat.le_of_ble_eq_true rfl) (Nat.le_of_ble_eq_true rfl) (Nat.le_of_ble_eq_true rfl) (fun r w hp => ?_) (fun _ _ _ z => z.elim)
      rcases hp with ⟨rfl, rfl, r4688⟩ | ⟨rfl, rfl, r4689, r4690⟩ | ⟨z4691, rfl, rfl, r4692, r4693, r4694⟩
      · exact absurd (show False by omega) not_false
      · change G _ _ _ _ _ _ _ (.int (-1) :: _) _ _ _
        refine G_ws (ws' := [(q4658, .inr (14, [.ref q4659, .int p4661, .int p4662, .int o4671, .int p4664])), (q4659, .inr (15, [.ref q4660, .int p4665])), (q4660, .inl (I .byte, 8192, .inl f4666))]) (cs' := 0) (sl' := 0) rfl rfl rfl ?_
        refine G_istore_n (L' := [(3, .int (-1)), (2, .int (-1)), (1, .int 1), (0, .ref q4658)]) d_cX9_advance_59 (Nat.le_of_ble_eq_true rfl) rfl ?_
        refine G_aload_n 3 d_cX9_advance_60 rfl ?_
        refine G_iconst 0 d_cX9_advance_61 (by decide +kernel) ?_
        refine G_putf (ws' := [(q4658, .inr (14, [.ref q4659, .int p4661, .int 0, .int o4671, .int p4664])), (q4659, .inr (15, [.ref q4660, .int p4665])), (q4660, .inl (I .byte, 8192, .inl f4666))]) 0 2 d_cX9_advance_62 rfl (gk_X9 D I) (Nat.le_of_ble_eq_true rfl) w_1_81 rfl rfl rfl (Nat.le_of_ble_eq_true rfl) rfl ?_
        refine G_iload_n 1 d_cX9_advance_65 rfl ?_
        refine G_iconst (-1) d_cX9_advance_66 (by decide +kernel) ?_
        refine G_icmp_ne 86 d_cX9_advance_67 (by decide +kernel) (fun hc => absurd hc (by decide)) (fun _ => ?_)
        refine G_aload_n 3 d_cX9_advance_70 rfl ?_
        refine G_iconst 1 d_cX9_advance_71 (by decide +kernel) ?_
        refine G_putf (ws' := [(q4658, .inr (14, [.ref q4659, .int 1, .int 0, .int o4671, .int p4664])), (q4659, .inr (15, [.ref q4660, .int p4665])), (q4660, .inl (I .byte, 8192, .inl f4666))]) 0 1 d_cX9_advance_72 rfl (gk_X9 D I) (Nat.le_of_ble_eq_true rfl) w_1_80 rfl rfl rfl (Nat.le_of_ble_eq_true rfl) rfl ?_
        refine G_aload_n 3 d_cX9_advance_75 rfl ?_
        refine G_aload_n 3 d_cX9_advance_76 rfl ?_
        refine G_getf 0 3 d_cX9_advance_77 rfl (gk_X9 D I) (Nat.le_of_ble_eq_true rfl) w_1_82 rfl ?_
        refine G_putf (ws' := [(q4658, .inr (14, [.ref q4659, .int 1, .int 0, .int o4671, .int o4671])), (q4659, .inr (15, [.ref q4660, .int p4665])), (q4660, .inl (I .byte, 8192, .inl f4666))]) 0 4 d_cX9_advance_80 rfl (gk_X9 D I) (Nat.le_of_ble_eq_true rfl) w_1_83 rfl rfl rfl (Nat.le_of_ble_eq_true rfl) rfl ?_
        refine G_goto 194 d_cX9_advance_83 (by decide +kernel) ?_
        exact G_vret d_cX9_advance_194 rfl (Nat.le_of_ble_eq_true rfl) (Nat.le_of_ble_eq_true rfl) ⟨1, 0, o4671, o4671, rfl, rfl, (gB_w (gBl (show Int32.toInt 1 = 1 by decide)) (by decide) (by decide)), (gB_w (gBl (show Int32.toInt 0 = 0 by decide)) (by decide) (by decide)), (gB_w bo4671' (by decide) (by decide)), (gB_w bo4671' (by decide) (by decide)), (by have qa0 : Int32.toInt (-1) = (-1) := (by decide); have qa1 : Int32.toInt 0 = 0 := (by decide); have qa2 : Int32.toInt 1 = 1 := (by decide); omega)⟩
      · have bz4687' : gB z4687 1 8191 := ⟨by omega, by omega⟩
        have bp4665' : gB p4665 2 8192 := ⟨by omega, by omega⟩
        change G _ _ _ _ _ _ _ (.int z4691 :: _) _ _ _
        refine G_ws (ws' := [(q4658, .inr (14, [.ref q4659, .int p4661, .int p4662, .int o4671, .int p4664])), (q4659, .inr (15, [.ref q4660, .int p4665])), (q4660, .inl (I .byte, 8192, .inl f4666))]) (cs' := 0) (sl' := 0) rfl rfl rfl ?_
        refine G_istore_n (L' := [(3, .int z4691), (2, .int (-1)), (1, .int 1), (0, .ref q4658)]) d_cX9_advance_59 (Nat.le_of_ble_eq_true rfl) rfl ?_
        refine G_aload_n 3 d_cX9_advance_60 rfl ?_
        refine G_iconst 0 d_cX9_advance_61 (by decide +kernel) ?_
        refine G_putf (ws' := [(q4658, .inr (14, [.ref q4659, .int p4661, .int 0, .int o4671, .int p4664])), (q4659, .inr (15, [.ref q4660, .int p4665])), (q4660, .inl (I .byte, 8192, .inl f4666))]) 0 2 d_cX9_advance_62 rfl (gk_X9 D I) (Nat.le_of_ble_eq_true rfl) w_1_81 rfl rfl rfl (Nat.le_of_ble_eq_true rfl) rfl ?_
        refine G_iload_n 1 d_cX9_advance_65 rfl ?_
        refine G_iconst (-1) d_cX9_advance_66 (by decide +kernel) ?_
        refine G_icmp_ne 86 d_cX9_advance_67 (by decide +kernel) (fun hc => absurd hc (by decide)) (fun _ => ?_)
        refine G_aload_n 3 d_cX9_advance_70 rfl ?_
        refine G_iconst 1 d_cX9_advance_71 (by decide +kernel) ?_
        refine G_putf (ws' := [(q4658, .inr (14, [.ref q4659, .int 1, .int 0, .int o4671, .int p4664])), (q4659, .inr (15, [.ref q4660, .int p4665])), (q4660, .inl (I .byte, 8192, .inl f4666))]) 0 1 d_cX9_advance_72 rfl (gk_X9 D I) (Nat.le_of_ble_eq_true rfl) w_1_80 rfl rfl rfl (Nat.le_of_ble_eq_true rfl) rfl ?_
        refine G_aload_n 3 d_cX9_advance_75 rfl ?_
        refine G_aload_n 3 d_cX9_advance_76 rfl ?_
        refine G_getf 0 3 d_cX9_advance_77 rfl (gk_X9 D I) (Nat.le_of_ble_eq_true rfl) w_1_82 rfl ?_
        refine G_putf (ws' := [(q4658, .inr (14, [.ref q4659, .int 1, .int 0, .int o4671, .int o4671])), (q4659, .inr (15, [.ref q4660, .int p4665])), (q4660, .inl (I .byte, 8192, .inl f4666))]) 0 4 d_cX9_advance_80 rfl (gk_X9 D I) (Nat.le_of_ble_eq_true rfl) w_1_83 rfl rfl rfl (Nat.le_of_ble_eq_true rfl) rfl ?_
        refine G_goto 194 d_cX9_advance_83 (by decide +kernel) ?_
        exact G_vret d_cX9_advance_194 rfl (Nat.le_of_ble_eq_true rfl) (Nat.le_of_ble_eq_true rfl) ⟨1, 0, o4671, o4671, rfl, rfl, (gB_w (gBl (show Int32.toInt 1 = 1 by decide)) (by decide) (by decide)), (gB_w (gBl (show Int32.toInt 0 = 0 by decide)) (by decide) (by decide)), (gB_w bo4671' (by decide) (by decide)), (gB_w bo4671' (by decide) (by decide)), (by have qa0 : Int32.toInt (-1) = (-1) := (by decide); have qa1 : Int32.toInt 0 = 0 := (by decide); have qa2 : Int32.toInt 1 = 1 := (by decide); omega)⟩
    · have bo4671' : gB o4671 0 8192 := ⟨by omega, by omega⟩
      have bo4671'' : gB o4671 0 8191 := ⟨by omega, by omega⟩
      have bp4665' : gB p4665 1 8192 := ⟨by omega, by omega⟩
      change G _ _ _ _ _ _ _ (.int z4675 :: _) _ _ _
      refine G_ws (ws' := [(q4658, .inr (14, [.ref q4659, .int p4661, .int p4662, .int o4671, .int p4664])), (q4659, .inr (15, [.ref q4660, .int p4665])), (q4660, .inl (I .byte, 8192, .inl f4666))]) (cs' := 0) (sl' := 0) rfl rfl rfl ?_
      refine G_istore_n (L' := [(2, .int z4675), (1, .int 1), (0, .ref q4658)]) d_cX9_advance_45 (Nat.le_of_ble_eq_true rfl) rfl ?_
      refine G_aload_n 2 d_cX9_advance_46 rfl ?_
      refine G_getf 0 0 d_cX9_advance_47 rfl (gk_X9 D I) (Nat.le_of_ble_eq_true rfl) w_1_79 rfl ?_
      refine G_aload_n 2 d_cX9_advance_50 rfl ?_
      refine G_getf 0 3 d_cX9_advance_51 rfl (gk_X9 D I) (Nat.le_of_ble_eq_true rfl) w_1_82 rfl ?_
      refine G_iconst 1 d_cX9_advance_54 (by decide +kernel) ?_
      refine G_iadd d_cX9_advance_55 (G_nam fun z4695 hz4695 => ?_)
      have ez4695 : z4695.toInt = o4671.toInt + 1 := by rw [gI_add hz4695 bo4671'' (gBl (show Int32.toInt 1 = 1 by decide)) (by decide) (by decide), show Int32.toInt 1 = 1 from by decide]
      have bz4695 : gB z4695 1 8192 := gB_add (gI_add hz4695 bo4671'' (gBl (show Int32.toInt 1 = 1 by decide)) (by decide) (by decide)) bo4671'' (gBl (show Int32.toInt 1 = 1 by decide)) (by decide) (by decide)
      refine G_callV (As := [.int z4695]) (wr := [(q4658, .inr (14, [.ref q4659, .int p4661, .int p4662, .int o4671, .int p4664]))]) (gV_ok D I) (ct_31_Tape_byteAt l hl0 D I q4659 q4660 z4695 p4665 f4666 (gB_w bp4665' (by decide) (by decide)) bf4666) d_cX9_advance_56 ⟨w_3_20, w_1_2, w_3_23, by decide, rfl, (Nat.le_of_ble_eq_true rfl), (Nat.le_of_ble_eq_true rfl)⟩ w_3_21 w_3_22 1 rfl rfl [1, 2] [0] rfl rfl rfl rfl (by decide) (Nat.le_of_ble_eq_true rfl) (Nat.le_of_ble_eq_true rfl) (Nat.le_of_ble_eq_true rfl) (fun r w hp => ?_) (fun _ _ _ z => z.elim)
      rcases hp with ⟨rfl, rfl, r4696⟩ | ⟨rfl, rfl, r4697, r4698⟩ | ⟨z4699, rfl, rfl, r4700, r4701, r4702⟩
      · exact absurd (show False by omega) not_false
      · change G _ _ _ _ _ _ _ (.int (-1) :: _) _ _ _
        refine G_ws (ws' := [(q4658, .inr (14, [.ref q4659, .int p4661, .int p4662, .int o4671, .int p4664])), (q4659, .inr (15, [.ref q4660, .int p4665])), (q4660, .inl (I .byte, 8192, .inl f4666))]) (cs' := 0) (sl' := 0) rfl rfl rfl ?_
        refine G_istore_n (L' := [(3, .int (-1)), (2, .int z4675), (1, .int 1), (0, .ref q4658)]) d_cX9_advance_59 (Nat.le_of_ble_eq_true rfl) rfl ?_
        refine G_aload_n 3 d_cX9_advance_60 rfl ?_
        refine G_iconst 0 d_cX9_advance_61 (by decide +kernel) ?_
        refine G_putf (ws' := [(q4658, .inr (14, [.ref q4659, .int p4661, .int 0, .int o4671, .int p4664])), (q4659, .inr (15, [.ref q4660, .int p4665])), (q4660, .inl (I .byte, 8192, .inl f4666))]) 0 2 d_cX9_advance_62 rfl (gk_X9 D I) (Nat.le_of_ble_eq_true rfl) w_1_81 rfl rfl rfl (Nat.le_of_ble_eq_true rfl) rfl ?_
        refine G_iload_n 1 d_cX9_advance_65 rfl ?_
        refine G_iconst (-1) d_cX9_advance_66 (by decide +kernel) ?_
        refine G_icmp_ne 86 d_cX9_advance_67 (by decide +kernel) (fun _ => ?_) (fun hc => absurd (show False by have := gj_eq hc (show Int32.toInt (-1) = (-1) by decide); omega) not_false)
        refine G_iload_n 1 d_cX9_advance_86 rfl ?_
        refine G_callS (As := [.int z4675]) (wr := [(q4658, .inr (14, [.ref q4659, .int p4661, .int 0, .int o4671, .int p4664])), (q4659, .inr (15, [.ref q4660, .int p4665])), (q4660, .inl (I .byte, 8192, .inl f4666))]) (gV_ok D I) (ct_304_Signs_isDigit l hl0 D I z4675 ) d_cX9_advance_87 ⟨w_3_24, w_1_4, w_3_26, by decide, rfl, (Nat.le_of_ble_eq_true rfl), (Nat.le_of_ble_eq_true rfl)⟩ w_3_25 [] [0, 1, 2] rfl rfl rfl rfl (by decide) (Nat.le_of_ble_eq_true rfl) (Nat.le_of_ble_eq_true rfl) (Nat.le_of_ble_eq_true rfl) (fun r w hp => ?_) (fun _ _ _ z => z.elim)
        rcases hp with ⟨rfl, rfl, r4703⟩ | ⟨rfl, rfl, r4704, r4705⟩ | ⟨rfl, rfl, r4706, r4707⟩
        · have r4678' : gB z4675 0 47 := ⟨by omega, by omega⟩
          change G _ _ _ _ _ _ _ (.int 0 :: _) _ _ _
          refine G_ws (ws' := [(q4658, .inr (14, [.ref q4659, .int p4661, .int 0, .int o4671, .int p4664])), (q4659, .inr (15, [.ref q4660, .int p4665])), (q4660, .inl (I .byte, 8192, .inl f4666))]) (cs' := 0) (sl' := 0) rfl rfl rfl ?_
          refine G_if_ne 110 d_cX9_advance_90 (by decide +kernel) (fun hc => absurd hc (by decide)) (fun _ => ?_)
          refine G_iload_n 1 d_cX9_advance_93 rfl ?_
          refine G_bipush 45 d_cX9_advance_94 (by decide +kernel) ?_
          refine G_icmp_ne 128 d_cX9_advance_96 (by decide +kernel) (fun hc4708 => ?_) (fun hc4708 => ?_)
          · have r4709 : z4675.toInt ≠ 45 := gj_neq hc4708 (show Int32.toInt 45 = 45 by decide)
            refine G_iload_n 1 d_cX9_advance_128 rfl ?_
            refine G_bipush 118 d_cX9_advance_129 (by decide +kernel) ?_
            refine G_icmp_ne 151 d_cX9_advance_131 (by decide +kernel) (fun _ => ?_) (fun hc => absurd (show False by have := gj_eq hc (show Int32.toInt 118 = 118 by decide); omega) not_false)
            refine G_iload_n 1 d_cX9_advance_151 rfl ?_
            refine G_bipush 98 d_cX9_advance_152 (by decide +kernel) ?_
            refine G_icmp_ne 174 d_cX9_advance_154 (by decide +kernel) (fun _ => ?_) (fun hc => absurd (show False by have := gj_eq hc (show Int32.toInt 98 = 98 by decide); omega) not_false)
            refine G_iload_n 1 d_cX9_advance_174 rfl ?_
            refine G_callS (As := [.int z4675]) (wr := [(q4658, .inr (14, [.ref q4659, .int p4661, .int 0, .int o4671, .int p4664])), (q4659, .inr (15, [.ref q4660, .int p4665])), (q4660, .inl (I .byte, 8192, .inl f4666))]) (gV_ok D I) (ct_312_Signs_isLetter l hl0 D I z4675 ) d_cX9_advance_175 ⟨w_3_45, w_1_4, w_3_47, by decide, rfl, (Nat.le_of_ble_eq_true rfl), (Nat.le_of_ble_eq_true rfl)⟩ w_3_46 [] [0, 1, 2] rfl rfl rfl rfl (by decide) (Nat.le_of_ble_eq_true rfl) (Nat.le_of_ble_eq_true rfl) (Nat.le_of_ble_eq_true rfl) (fun r w hp => ?_) (fun _ _ _ z => z.elim)
            rcases hp with ⟨rfl, rfl, r4710⟩ | ⟨rfl, rfl, r4711, r4712⟩ | ⟨rfl, rfl, r4713, r4714⟩
            · change G _ _ _ _ _ _ _ (.int 0 :: _) _ _ _
              refine G_ws (ws' := [(q4658, .inr (14, [.ref q4659, .int p4661, .int 0, .int o4671, .int p4664])), (q4659, .inr (15, [.ref q4660, .int p4665])), (q4660, .inl (I .byte, 8192, .inl f4666))]) (cs' := 0) (sl' := 0) rfl rfl rfl ?_
              refine G_if_eq 188 d_cX9_advance_178 (by decide +kernel) (fun _ => ?_) (fun hc => absurd hc (by decide))
              refine G_aload_n 3 d_cX9_advance_188 rfl ?_
              refine G_iload_n 1 d_cX9_advance_189 rfl ?_
              refine G_iload_n 0 d_cX9_advance_190 rfl ?_
              refine G_callV (As := [.int z4675, .int (-1)]) (wr := []) (gV_ok D I) (ct_4624_Signs_takeMark l hl0 D I q4658 q4659 q4660 z4675 (-1) p4661 0 o4671 p4664 p4665 f4666 (gB_w bp4665' (by decide) (by decide)) bf4666 (by have qa0 : Int32.toInt (-1) = (-1) := (by decide); have qa1 : Int32.toInt 0 = 0 := (by decide); have qa2 : Int32.toInt 1 = 1 := (by decide); omega)) d_cX9_advance_191 ⟨w_3_109, w_1_4, w_3_112, by decide, rfl, (Nat.le_of_ble_eq_true rfl), (Nat.le_of_ble_eq_true rfl)⟩ w_3_111 w_p_6 0 rfl rfl [0, 1, 2] [] rfl rfl rfl rfl (by decide) (Nat.le_of_ble_eq_true rfl) (Nat.le_of_ble_eq_true rfl) (Nat.le_of_ble_eq_true rfl) (fun r w hp => ?_) (fun _ _ _ z => z.elim)
              obtain ⟨o4715, o4716, o4717, rfl, rfl, bo4715, bo4716, bo4717, x4718⟩ := hp
              change G _ _ _ _ _ _ _ _ _ _ _
              refine G_ws (ws' := [(q4658, .inr (14, [.ref q4659, .int o4715, .int o4716, .int o4671, .int o4717])), (q4659, .inr (15, [.ref q4660, .int p4665])), (q4660, .inl (I .byte, 8192, .inl f4666))]) (cs' := 0) (sl' := 0) rfl rfl rfl ?_
              exact G_vret d_cX9_advance_194 rfl (Nat.le_of_ble_eq_true rfl) (Nat.le_of_ble_eq_true rfl) ⟨o4715, o4716, o4671, o4717, rfl, rfl, (gB_w bo4715 (by decide) (by decide)), (gB_w bo4716 (by decide) (by decide)), (gB_w bo4671'' (by decide) (by decide)), bo4717, (by have qa0 : Int32.toInt (-1) = (-1) := (by decide); have qa1 : Int32.toInt 1 = 1 := (by decide); omega)⟩
            · exact absurd (show False by omega) not_false
            · exact absurd (show False by omega) not_false
          · have r4719 : z4675.toInt = 45 := gj_eq hc4708 (show Int32.toInt 45 = 45 by decide)
            have r4678'' : gB z4675 45 45 := ⟨by omega, by omega⟩
            refine G_iload_n 0 d_cX9_advance_99 rfl ?_
            refine G_callS (As := [.int (-1)]) (wr := [(q4658, .inr (14, [.ref q4659, .int p4661, .int 0, .int o4671, .int p4664])), (q4659, .inr (15, [.ref q4660, .int p4665])), (q4660, .inl (I .byte, 8192, .inl f4666))]) (gV_ok D I) (ct_304_Signs_isDigit l hl0 D I (-1) ) d_cX9_advance_100 ⟨w_3_24, w_1_4, w_3_26, by decide, rfl, (Nat.le_of_ble_eq_true rfl), (Nat.le_of_ble_eq_true rfl)⟩ w_3_25 [] [0, 1, 2] rfl rfl rfl rfl (by decide) (Nat.le_of_ble_eq_true rfl) (Nat.le_of_ble_eq_true rfl) (Nat.le_of_ble_eq_true rfl) (fun r w hp => ?_) (fun _ _ _ z => z.elim)
            rcases hp with ⟨rfl, rfl, r4720⟩ | ⟨rfl, rfl, r4721, r4722⟩ | ⟨rfl, rfl, r4723, r4724⟩
            · rw [show Int32.toInt (-1) = (-1) from by decide] at r4720
              change G _ _ _ _ _ _ _ (.int 0 :: _) _ _ _
              refine G_ws (ws' := [(q4658, .inr (14, [.ref q4659, .int p4661, .int 0, .int o4671, .int p4664])), (q4659, .inr (15, [.ref q4660, .int p4665])), (q4660, .inl (I .byte, 8192, .inl f4666))]) (cs' := 0) (sl' := 0) rfl rfl rfl ?_
              refine G_if_eq 128 d_cX9_advance_103 (by decide +kernel) (fun _ => ?_) (fun hc => absurd hc (by decide))
              refine G_iload_n 1 d_cX9_advance_128 rfl ?_
              refine G_bipush 118 d_cX9_advance_129 (by decide +kernel) ?_
              refine G_icmp_ne 151 d_cX9_advance_131 (by decide +kernel) (fun _ => ?_) (fun hc => absurd (show False by have := gj_eq hc (show Int32.toInt 118 = 118 by decide); omega) not_false)
              refine G_iload_n 1 d_cX9_advance_151 rfl ?_
              refine G_bipush 98 d_cX9_advance_152 (by decide +kernel) ?_
              refine G_icmp_ne 174 d_cX9_advance_154 (by decide +kernel) (fun _ => ?_) (fun hc => absurd (show False by have := gj_eq hc (show Int32.toInt 98 = 98 by decide); omega) not_false)
              refine G_iload_n 1 d_cX9_advance_174 rfl ?_
              refine G_callS (As := [.int z4675]) (wr := [(q4658, .inr (14, [.ref q4659, .int p4661, .int 0, .int o4671, .int p4664])), (q4659, .inr (15, [.ref q4660, .int p4665])), (q4660, .inl (I .byte, 8192, .inl f4666))]) (gV_ok D I) (ct_312_Signs_isLetter l hl0 D I z4675 ) d_cX9_advance_175 ⟨w_3_45, w_1_4, w_3_47, by decide, rfl, (Nat.le_of_ble_eq_true rfl), (Nat.le_of_ble_eq_true rfl)⟩ w_3_46 [] [0, 1, 2] rfl rfl rfl rfl (by decide) (Nat.le_of_ble_eq_true rfl) (Nat.le_of_ble_eq_true rfl) (Nat.le_of_ble_eq_true rfl) (fun r w hp => ?_) (fun _ _ _ z => z.elim)
              rcases hp with ⟨rfl, rfl, r4725⟩ | ⟨rfl, rfl, r4726, r4727⟩ | ⟨rfl, rfl, r4728, r4729⟩
              · change G _ _ _ _ _ _ _ (.int 0 :: _) _ _ _
                refine G_ws (ws' := [(q4658, .inr (14, [.ref q4659, .int p4661, .int 0, .int o4671, .int p4664])), (q4659, .inr (15, [.ref q4660, .int p4665])), (q4660, .inl (I .byte, 8192, .inl f4666))]) (cs' := 0) (sl' := 0) rfl rfl rfl ?_
                refine G_if_eq 188 d_cX9_advance_178 (by decide +kernel) (fun _ => ?_) (fun hc => absurd hc (by decide))
                refine G_aload_n 3 d_cX9_advance_188 rfl ?_
                refine G_iload_n 1 d_cX9_advance_189 rfl ?_
                refine G_iload_n 0 d_cX9_advance_190 rfl ?_
                refine G_callV (As := [.int z4675, .int (-1)]) (wr := []) (gV_ok D I) (ct_4624_Signs_takeMark l hl0 D I q4658 q4659 q4660 z4675 (-1) p4661 0 o4671 p4664 p4665 f4666 (gB_w bp4665' (by decide) (by decide)) bf4666 (by have qa0 : Int32.toInt (-1) = (-1) := (by decide); have qa1 : Int32.toInt 0 = 0 := (by decide); have qa2 : Int32.toInt 1 = 1 := (by decide); omega)) d_cX9_advance_191 ⟨w_3_109, w_1_4, w_3_112, by decide, rfl, (Nat.le_of_ble_eq_true rfl), (Nat.le_of_ble_eq_true rfl)⟩ w_3_111 w_p_6 0 rfl rfl [0, 1, 2] [] rfl rfl rfl rfl (by decide) (Nat.le_of_ble_eq_true rfl) (Nat.le_of_ble_eq_true rfl) (Nat.le_of_ble_eq_true rfl) (fun r w hp => ?_) (fun _ _ _ z => z.elim)
                obtain ⟨o4730, o4731, o4732, rfl, rfl, bo4730, bo4731, bo4732, x4733⟩ := hp
                change G _ _ _ _ _ _ _ _ _ _ _
                refine G_ws (ws' := [(q4658, .inr (14, [.ref q4659, .int o4730, .int o4731, .int o4671, .int o4732])), (q4659, .inr (15, [.ref q4660, .int p4665])), (q4660, .inl (I .byte, 8192, .inl f4666))]) (cs' := 0) (sl' := 0) rfl rfl rfl ?_
                exact G_vret d_cX9_advance_194 rfl (Nat.le_of_ble_eq_true rfl) (Nat.le_of_ble_eq_true rfl) ⟨o4730, o4731, o4671, o4732, rfl, rfl, (gB_w bo4730 (by decide) (by decide)), (gB_w bo4731 (by decide) (by decide)), (gB_w bo4671'' (by decide) (by decide)), bo4732, (by have qa0 : Int32.toInt (-1) = (-1) := (by decide); have qa1 : Int32.toInt 1 = 1 := (by decide); omega)⟩
              · exact absurd (show False by omega) not_false
              · exact absurd (show False by omega) not_false
            · rw [show Int32.toInt (-1) = (-1) from by decide] at r4721
              exact absurd (show False by omega) not_false
            · rw [show Int32.toInt (-1) = (-1) from by decide] at r4723
              exact absurd (show False by omega) not_false
        · have r4678' : gB z4675 48 255 := ⟨by omega, by omega⟩
          have r4678'' : gB z4675 58 255 := ⟨by omega, by omega⟩
          change G _ _ _ _ _ _ _ (.int 0 :: _) _ _ _
          refine G_ws (ws' := [(q4658, .inr (14, [.ref q4659, .int p4661, .int 0, .int o4671, .int p4664])), (q4659, .inr (15, [.ref q4660, .int p4665])), (q4660, .inl (I .byte, 8192, .inl f4666))]) (cs' := 0) (sl' := 0) rfl rfl rfl ?_
          refine G_if_ne 110 d_cX9_advance_90 (by decide +kernel) (fun hc => absurd hc (by decide)) (fun _ => ?_)
          refine G_iload_n 1 d_cX9_advance_93 rfl ?_
          refine G_bipush 45 d_cX9_advance_94 (by decide +kernel) ?_
          refine G_icmp_ne 128 d_cX9_advance_96 (by decide +kernel) (fun _ => ?_) (fun hc => absurd (show False by have := gj_eq hc (show Int32.toInt 45 = 45 by decide); omega) not_false)
          refine G_iload_n 1 d_cX9_advance_128 rfl ?_
          refine G_bipush 118 d_cX9_advance_129 (by decide +kernel) ?_
          refine G_icmp_ne 151 d_cX9_advance_131 (by decide +kernel) (fun hc4734 => ?_) (fun hc4734 => ?_)
          · have r4735 : z4675.toInt ≠ 118 := gj_neq hc4734 (show Int32.toInt 118 = 118 by decide)
            refine G_iload_n 1 d_cX9_advance_151 rfl ?_
            refine G_bipush 98 d_cX9_advance_152 (by decide +kernel) ?_
            refine G_icmp_ne 174 d_cX9_advance_154 (by decide +kernel) (fun hc4736 => ?_) (fun hc4736 => ?_)
            · have r4737 : z4675.toInt ≠ 98 := gj_neq hc4736 (show Int32.toInt 98 = 98 by decide)
              refine G_iload_n 1 d_cX9_advance_174 rfl ?_
              refine G_callS (As := [.int z4675]) (wr := [(q4658, .inr (14, [.ref q4659, .int p4661, .int 0, .int o4671, .int p4664])), (q4659, .inr (15, [.ref q4660, .int p4665])), (q4660, .inl (I .byte, 8192, .inl f4666))]) (gV_ok D I) (ct_312_Signs_isLetter l hl0 D I z4675 ) d_cX9_advance_175 ⟨w_3_45, w_1_4, w_3_47, by decide, rfl, (Nat.le_of_ble_eq_true rfl), (Nat.le_of_ble_eq_true rfl)⟩ w_3_46 [] [0, 1, 2] rfl rfl rfl rfl (by decide) (Nat.le_of_ble_eq_true rfl) (Nat.le_of_ble_eq_true rfl) (Nat.le_of_ble_eq_true rfl) (fun r w hp => ?_) (fun _ _ _ z => z.elim)
              rcases hp with ⟨rfl, rfl, r4738⟩ | ⟨rfl, rfl, r4739, r4740⟩ | ⟨rfl, rfl, r4741, r4742⟩
              · have r4678''' : gB z4675 58 96 := ⟨by omega, by omega⟩
                change G _ _ _ _ _ _ _ (.int 0 :: _) _ _ _
                refine G_ws (ws' := [(q4658, .inr (14, [.ref q4659, .int p4661, .int 0, .int o4671, .int p4664])), (q4659, .inr (15, [.ref q4660, .int p4665])), (q4660, .inl (I .byte, 8192, .inl f4666))]) (cs' := 0) (sl' := 0) rfl rfl rfl ?_
                refine G_if_eq 188 d_cX9_advance_178 (by decide +kernel) (fun _ => ?_) (fun hc => absurd hc (by decide))
                refine G_aload_n 3 d_cX9_advance_188 rfl ?_
                refine G_iload_n 1 d_cX9_advance_189 rfl ?_
                refine G_iload_n 0 d_cX9_advance_190 rfl ?_
                refine G_callV (As := [.int z4675, .int (-1)]) (wr := []) (gV_ok D I) (ct_4624_Signs_takeMark l hl0 D I q4658 q4659 q4660 z4675 (-1) p4661 0 o4671 p4664 p4665 f4666 (gB_w bp4665' (by decide) (by decide)) bf4666 (by have qa0 : Int32.toInt (-1) = (-1) := (by decide); have qa1 : Int32.toInt 0 = 0 := (by decide); have qa2 : Int32.toInt 1 = 1 := (by decide); omega)) d_cX9_advance_191 ⟨w_3_109, w_1_4, w_3_112, by decide, rfl, (Nat.le_of_ble_eq_true rfl), (Nat.le_of_ble_eq_true rfl)⟩ w_3_111 w_p_6 0 rfl rfl [0, 1, 2] [] rfl rfl rfl rfl (by decide) (Nat.le_of_ble_eq_true rfl) (Nat.le_of_ble_eq_true rfl) (Nat.le_of_ble_eq_true rfl) (fun r w hp => ?_) (fun _ _ _ z => z.elim)
                obtain ⟨o4743, o4744, o4745, rfl, rfl, bo4743, bo4744, bo4745, x4746⟩ := hp
                change G _ _ _ _ _ _ _ _ _ _ _
                refine G_ws (ws' := [(q4658, .inr (14, [.ref q4659, .int o4743, .int o4744, .int o4671, .int o4745])), (q4659, .inr (15, [.ref q4660, .int p4665])), (q4660, .inl (I .byte, 8192, .inl f4666))]) (cs' := 0) (sl' := 0) rfl rfl rfl ?_
                exact G_vret d_cX9_advance_194 rfl (Nat.le_of_ble_eq_true rfl) (Nat.le_of_ble_eq_true rfl) ⟨o4743, o4744, o4671, o4745, rfl, rfl, (gB_w bo4743 (by decide) (by decide)), (gB_w bo4744 (by decide) (by decide)), (gB_w bo4671'' (by decide) (by decide)), bo4745, (by have qa0 : Int32.toInt (-1) = (-1) := (by decide); have qa1 : Int32.toInt 1 = 1 := (by decide); omega)⟩
              · have r4678''' : gB z4675 97 255 := ⟨by omega, by omega⟩
                have r4678'''' : gB z4675 123 255 := ⟨by omega, by omega⟩
                change G _ _ _ _ _ _ _ (.int 0 :: _) _ _ _
                refine G_ws (ws' := [(q4658, .inr (14, [.ref q4659, .int p4661, .int 0, .int o4671, .int p4664])), (q4659, .inr (15, [.ref q4660, .int p4665])), (q4660, .inl (I .byte, 8192, .inl f4666))]) (cs' := 0) (sl' := 0) rfl rfl rfl ?_
                refine G_if_eq 188 d_cX9_advance_178 (by decide +kernel) (fun _ => ?_) (fun hc => absurd hc (by decide))
                refine G_aload_n 3 d_cX9_advance_188 rfl ?_
                refine G_iload_n 1 d_cX9_advance_189 rfl ?_
                refine G_iload_n 0 d_cX9_advance_190 rfl ?_
                refine G_callV (As := [.int z4675, .int (-1)]) (wr := []) (gV_ok D I) (ct_4624_Signs_takeMark l hl0 D I q4658 q4659 q4660 z4675 (-1) p4661 0 o4671 p4664 p4665 f4666 (gB_w bp4665' (by decide) (by decide)) bf4666 (by have qa0 : Int32.toInt (-1) = (-1) := (by decide); have qa1 : Int32.toInt 0 = 0 := (by decide); have qa2 : Int32.toInt 1 = 1 := (by decide); omega)) d_cX9_advance_191 ⟨w_3_109, w_1_4, w_3_112, by decide, rfl, (Nat.le_of_ble_eq_true rfl), (Nat.le_of_ble_eq_true rfl)⟩ w_3_111 w_p_6 0 rfl rfl [0, 1, 2] [] rfl rfl rfl rfl (by decide) (Nat.le_of_ble_eq_true rfl) (Nat.le_of_ble_eq_true rfl) (Nat.le_of_ble_eq_true rfl) (fun r w hp => ?_) (fun _ _ _ z => z.elim)
                obtain ⟨o4747, o4748, o4749, rfl, rfl, bo4747, bo4748, bo4749, x4750⟩ := hp
                change G _ _ _ _ _ _ _ _ _ _ _
                refine G_ws (ws' := [(q4658, .inr (14, [.ref q4659, .int o4747, .int o4748, .int o4671, .int o4749])), (q4659, .inr (15, [.ref q4660, .int p4665])), (q4660, .inl (I .byte, 8192, .inl f4666))]) (cs' := 0) (sl' := 0) rfl rfl rfl ?_
                exact G_vret d_cX9_advance_194 rfl (Nat.le_of_ble_eq_true rfl) (Nat.le_of_ble_eq_true rfl) ⟨o4747, o4748, o4671, o4749, rfl, rfl, (gB_w bo4747 (by decide) (by decide)), (gB_w bo4748 (by decide) (by decide)), (gB_w bo4671'' (by decide) (by decide)), bo4749, (by have qa0 : Int32.toInt (-1) = (-1) := (by decide); have qa1 : Int32.toInt 1 = 1 := (by decide); omega)⟩
              · have r4678''' : gB z4675 97 255 := ⟨by omega, by omega⟩
                have r4678'''' : gB z4675 97 122 := ⟨by omega, by omega⟩
                change G _ _ _ _ _ _ _ (.int 1 :: _) _ _ _
                refine G_ws (ws' := [(q4658, .inr (14, [.ref q4659, .int p4661, .int 0, .int o4671, .int p4664])), (q4659, .inr (15, [.ref q4660, .int p4665])), (q4660, .inl (I .byte, 8192, .inl f4666))]) (cs' := 0) (sl' := 0) rfl rfl rfl ?_
                refine G_if_eq 188 d_cX9_advance_178 (by decide +kernel) (fun hc => absurd hc (by decide)) (fun _ => ?_)
                refine G_aload_n 3 d_cX9_advance_181 rfl ?_
                refine G_callV (As := []) (wr := []) (gV_ok D I) (ct_3805_Signs_takeWord l hl0 D I q4658 q4659 q4660 p4661 0 o4671 p4664 p4665 f4666 (gB_w bp4665' (by decide) (by decide)) bf4666 (by have qa0 : Int32.toInt (-1) = (-1) := (by decide); have qa1 : Int32.toInt 0 = 0 := (by decide); have qa2 : Int32.toInt 1 = 1 := (by decide); omega)) d_cX9_advance_182 ⟨w_3_48, w_1_4, w_3_51, by decide, rfl, (Nat.le_of_ble_eq_true rfl), (Nat.le_of_ble_eq_true rfl)⟩ w_3_50 w_p_4 0 rfl rfl [0, 1, 2] [] rfl rfl rfl rfl (by decide) (Nat.le_of_ble_eq_true rfl) (Nat.le_of_ble_eq_true rfl) (Nat.le_of_ble_eq_true rfl) (fun r w hp => ?_) (fun _ _ _ z => z.elim)
                obtain ⟨o4751, o4752, rfl, rfl, bo4751, bo4752, x4753⟩ := hp
                rw [show Int32.toInt 0 = 0 from by decide] at x4753
                change G _ _ _ _ _ _ _ _ _ _ _
                refine G_ws (ws' := [(q4658, .inr (14, [.ref q4659, .int o4751, .int 0, .int o4671, .int o4752])), (q4659, .inr (15, [.ref q4660, .int p4665])), (q4660, .inl (I .byte, 8192, .inl f4666))]) (cs' := 0) (sl' := 0) rfl rfl rfl ?_
                refine G_goto 194 d_cX9_advance_185 (by decide +kernel) ?_
                exact G_vret d_cX9_advance_194 rfl (Nat.le_of_ble_eq_true rfl) (Nat.le_of_ble_eq_true rfl) ⟨o4751, 0, o4671, o4752, rfl, rfl, bo4751, (gB_w (gBl (show Int32.toInt 0 = 0 by decide)) (by decide) (by decide)), (gB_w bo4671'' (by decide) (by decide)), bo4752, (by have qa0 : Int32.toInt (-1) = (-1) := (by decide); have qa1 : Int32.toInt 0 = 0 := (by decide); have qa2 : Int32.toInt 1 = 1 := (by decide); omega)⟩
            · have r4754 : z4675.toInt = 98 := gj_eq hc4736 (show Int32.toInt 98 = 98 by decide)
              have r4678''' : gB z4675 98 98 := ⟨by omega, by omega⟩
              refine G_iload_n 0 d_cX9_advance_157 rfl ?_
              refine G_callS (As := [.int (-1)]) (wr := [(q4658, .inr (14, [.ref q4659, .int p4661, .int 0, .int o4671, .int p4664])), (q4659, .inr (15, [.ref q4660, .int p4665])), (q4660, .inl (I .byte, 8192, .inl f4666))]) (gV_ok D I) (ct_304_Signs_isDigit l hl0 D I (-1) ) d_cX9_advance_158 ⟨w_3_24, w_1_4, w_3_26, by decide, rfl, (Nat.le_of_ble_eq_true rfl), (Nat.le_of_ble_eq_true rfl)⟩ w_3_25 [] [0, 1, 2] rfl rfl rfl rfl (by decide) (Nat.le_of_ble_eq_true rfl) (Nat.le_of_ble_eq_true rfl) (Nat.le_of_ble_eq_true rfl) (fun r w hp => ?_) (fun _ _ _ z => z.elim)
              rcases hp with ⟨rfl, rfl, r4755⟩ | ⟨rfl, rfl, r4756, r4757⟩ | ⟨rfl, rfl, r4758, r4759⟩
              · rw [show Int32.toInt (-1) = (-1) from by decide] at r4755
                change G _ _ _ _ _ _ _ (.int 0 :: _) _ _ _
                refine G_ws (ws' := [(q4658, .inr (14, [.ref q4659, .int p4661, .int 0, .int o4671, .int p4664])), (q4659, .inr (15, [.ref q4660, .int p4665])), (q4660, .inl (I .byte, 8192, .inl f4666))]) (cs' := 0) (sl' := 0) rfl rfl rfl ?_
                refine G_if_eq 174 d_cX9_advance_161 (by decide +kernel) (fun _ => ?_) (fun hc => absurd hc (by decide))
                refine G_iload_n 1 d_cX9_advance_174 rfl ?_
                refine G_callS (As := [.int z4675]) (wr := [(q4658, .inr (14, [.ref q4659, .int p4661, .int 0, .int o4671, .int p4664])), (q4659, .inr (15, [.ref q4660, .int p4665])), (q4660, .inl (I .byte, 8192, .inl f4666))]) (gV_ok D I) (ct_312_Signs_isLetter l hl0 D I z4675 ) d_cX9_advance_175 ⟨w_3_45, w_1_4, w_3_47, by decide, rfl, (Nat.le_of_ble_eq_true rfl), (Nat.le_of_ble_eq_true rfl)⟩ w_3_46 [] [0, 1, 2] rfl rfl rfl rfl (by decide) (Nat.le_of_ble_eq_true rfl) (Nat.le_of_ble_eq_true rfl) (Nat.le_of_ble_eq_true rfl) (fun r w hp => ?_) (fun _ _ _ z => z.elim)
                rcases hp with ⟨rfl, rfl, r4760⟩ | ⟨rfl, rfl, r4761, r4762⟩ | ⟨rfl, rfl, r4763, r4764⟩
                · exact absurd (show False by omega) not_false
                · exact absurd (show False by omega) not_false
                · change G _ _ _ _ _ _ _ (.int 1 :: _) _ _ _
                  refine G_ws (ws' := [(q4658, .inr (14, [.ref q4659, .int p4661, .int 0, .int o4671, .int p4664])), (q4659, .inr (15, [.ref q4660, .int p4665])), (q4660, .inl (I .byte, 8192, .inl f4666))]) (cs' := 0) (sl' := 0) rfl rfl rfl ?_
                  refine G_if_eq 188 d_cX9_advance_178 (by decide +kernel) (fun hc => absurd hc (by decide)) (fun _ => ?_)
                  refine G_aload_n 3 d_cX9_advance_181 rfl ?_
                  refine G_callV (As := []) (wr := []) (gV_ok D I) (ct_3805_Signs_takeWord l hl0 D I q4658 q4659 q4660 p4661 0 o4671 p4664 p4665 f4666 (gB_w bp4665' (by decide) (by decide)) bf4666 (by have qa0 : Int32.toInt (-1) = (-1) := (by decide); have qa1 : Int32.toInt 0 = 0 := (by decide); have qa2 : Int32.toInt 1 = 1 := (by decide); omega)) d_cX9_advance_182 ⟨w_3_48, w_1_4, w_3_51, by decide, rfl, (Nat.le_of_ble_eq_true rfl), (Nat.le_of_ble_eq_true rfl)⟩ w_3_50 w_p_4 0 rfl rfl [0, 1, 2] [] rfl rfl rfl rfl (by decide) (Nat.le_of_ble_eq_true rfl) (Nat.le_of_ble_eq_true rfl) (Nat.le_of_ble_eq_true rfl) (fun r w hp => ?_) (fun _ _ _ z => z.elim)
                  obtain ⟨o4765, o4766, rfl, rfl, bo4765, bo4766, x4767⟩ := hp
                  rw [show Int32.toInt 0 = 0 from by decide] at x4767
                  change G _ _ _ _ _ _ _ _ _ _ _
                  refine G_ws (ws' := [(q4658, .inr (14, [.ref q4659, .int o4765, .int 0, .int o4671, .int o4766])), (q4659, .inr (15, [.ref q4660, .int p4665])), (q4660, .inl (I .byte, 8192, .inl f4666))]) (cs' := 0) (sl' := 0) rfl rfl rfl ?_
                  refine G_goto 194 d_cX9_advance_185 (by decide +kernel) ?_
                  exact G_vret d_cX9_advance_194 rfl (Nat.le_of_ble_eq_true rfl) (Nat.le_of_ble_eq_true rfl) ⟨o4765, 0, o4671, o4766, rfl, rfl, bo4765, (gB_w (gBl (show Int32.toInt 0 = 0 by decide)) (by decide) (by decide)), (gB_w bo4671'' (by decide) (by decide)), bo4766, (by have qa0 : Int32.toInt (-1) = (-1) := (by decide); have qa1 : Int32.toInt 0 = 0 := (by decide); have qa2 : Int32.toInt 1 = 1 := (by decide); omega)⟩
              · rw [show Int32.toInt (-1) = (-1) from by decide] at r4756
                exact absurd (show False by omega) not_false
              · rw [show Int32.toInt (-1) = (-1) from by decide] at r4758
                exact absurd (show False by omega) not_false
          · have r4768 : z4675.toInt = 118 := gj_eq hc4734 (show Int32.toInt 118 = 118 by decide)
            have r4678''' : gB z4675 118 118 := ⟨by omega, by omega⟩
            refine G_iload_n 0 d_cX9_advance_134 rfl ?_
            refine G_callS (As := [.int (-1)]) (wr := [(q4658, .inr (14, [.ref q4659, .int p4661, .int 0, .int o4671, .int p4664])), (q4659, .inr (15, [.ref q4660, .int p4665])), (q4660, .inl (I .byte, 8192, .inl f4666))]) (gV_ok D I) (ct_304_Signs_isDigit l hl0 D I (-1) ) d_cX9_advance_135 ⟨w_3_24, w_1_4, w_3_26, by decide, rfl, (Nat.le_of_ble_eq_true rfl), (Nat.le_of_ble_eq_true rfl)⟩ w_3_25 [] [0, 1, 2] rfl rfl rfl rfl (by decide) (Nat.le_of_ble_eq_true rfl) (Nat.le_of_ble_eq_true rfl) (Nat.le_of_ble_eq_true rfl) (fun r w hp => ?_) (fun _ _ _ z => z.elim)
            rcases hp with ⟨rfl, rfl, r4769⟩ | ⟨rfl, rfl, r4770, r4771⟩ | ⟨rfl, rfl, r4772, r4773⟩
            · rw [show Int32.toInt (-1) = (-1) from by decide] at r4769
              change G _ _ _ _ _ _ _ (.int 0 :: _) _ _ _
              refine G_ws (ws' := [(q4658, .inr (14, [.ref q4659, .int p4661, .int 0, .int o4671, .int p4664])), (q4659, .inr (15, [.ref q4660, .int p4665])), (q4660, .inl (I .byte, 8192, .inl f4666))]) (cs' := 0) (sl' := 0) rfl rfl rfl ?_
              refine G_if_eq 151 d_cX9_advance_138 (by decide +kernel) (fun _ => ?_) (fun hc => absurd hc (by decide))
              refine G_iload_n 1 d_cX9_advance_151 rfl ?_
              refine G_bipush 98 d_cX9_advance_152 (by decide +kernel) ?_
              refine G_icmp_ne 174 d_cX9_advance_154 (by decide +kernel) (fun _ => ?_) (fun hc => absurd (show False by have := gj_eq hc (show Int32.toInt 98 = 98 by decide); omega) not_false)
              refine G_iload_n 1 d_cX9_advance_174 rfl ?_
              refine G_callS (As := [.int z4675]) (wr := [(q4658, .inr (14, [.ref q4659, .int p4661, .int 0, .int o4671, .int p4664])), (q4659, .inr (15, [.ref q4660, .int p4665])), (q4660, .inl (I .byte, 8192, .inl f4666))]) (gV_ok D I) (ct_312_Signs_isLetter l hl0 D I z4675 ) d_cX9_advance_175 ⟨w_3_45, w_1_4, w_3_47, by decide, rfl, (Nat.le_of_ble_eq_true rfl), (Nat.le_of_ble_eq_true rfl)⟩ w_3_46 [] [0, 1, 2] rfl rfl rfl rfl (by decide) (Nat.le_of_ble_eq_true rfl) (Nat.le_of_ble_eq_true rfl) (Nat.le_of_ble_eq_true rfl) (fun r w hp => ?_) (fun _ _ _ z => z.elim)
              rcases hp with ⟨rfl, rfl, r4774⟩ | ⟨rfl, rfl, r4775, r4776⟩ | ⟨rfl, rfl, r4777, r4778⟩
              · exact absurd (show False by omega) not_false
              · exact absurd (show False by omega) not_false
              · change G _ _ _ _ _ _ _ (.int 1 :: _) _ _ _
                refine G_ws (ws' := [(q4658, .inr (14, [.ref q4659, .int p4661, .int 0, .int o4671, .int p4664])), (q4659, .inr (15, [.ref q4660, .int p4665])), (q4660, .inl (I .byte, 8192, .inl f4666))]) (cs' := 0) (sl' := 0) rfl rfl rfl ?_
                refine G_if_eq 188 d_cX9_advance_178 (by decide +kernel) (fun hc => absurd hc (by decide)) (fun _ => ?_)
                refine G_aload_n 3 d_cX9_advance_181 rfl ?_
                refine G_callV (As := []) (wr := []) (gV_ok D I) (ct_3805_Signs_takeWord l hl0 D I q4658 q4659 q4660 p4661 0 o4671 p4664 p4665 f4666 (gB_w bp4665' (by decide) (by decide)) bf4666 (by have qa0 : Int32.toInt (-1) = (-1) := (by decide); have qa1 : Int32.toInt 0 = 0 := (by decide); have qa2 : Int32.toInt 1 = 1 := (by decide); omega)) d_cX9_advance_182 ⟨w_3_48, w_1_4, w_3_51, by decide, rfl, (Nat.le_of_ble_eq_true rfl), (Nat.le_of_ble_eq_true rfl)⟩ w_3_50 w_p_4 0 rfl rfl [0, 1, 2] [] rfl rfl rfl rfl (by decide) (Nat.le_of_ble_eq_true rfl) (Nat.le_of_ble_eq_true rfl) (Nat.le_of_ble_eq_true rfl) (fun r w hp => ?_) (fun _ _ _ z => z.elim)
                obtain ⟨o4779, o4780, rfl, rfl, bo4779, bo4780, x4781⟩ := hp
                rw [show Int32.toInt 0 = 0 from by decide] at x4781
                change G _ _ _ _ _ _ _ _ _ _ _
                refine G_ws (ws' := [(q4658, .inr (14, [.ref q4659, .int o4779, .int 0, .int o4671, .int o4780])), (q4659, .inr (15, [.ref q4660, .int p4665])), (q4660, .inl (I .byte, 8192, .inl f4666))]) (cs' := 0) (sl' := 0) rfl rfl rfl ?_
                refine G_goto 194 d_cX9_advance_185 (by decide +kernel) ?_
                exact G_vret d_cX9_advance_194 rfl (Nat.le_of_ble_eq_true rfl) (Nat.le_of_ble_eq_true rfl) ⟨o4779, 0, o4671, o4780, rfl, rfl, bo4779, (gB_w (gBl (show Int32.toInt 0 = 0 by decide)) (by decide) (by decide)), (gB_w bo4671'' (by decide) (by decide)), bo4780, (by have qa0 : Int32.toInt (-1) = (-1) := (by decide); have qa1 : Int32.toInt 0 = 0 := (by decide); have qa2 : Int32.toInt 1 = 1 := (by decide); omega)⟩
            · rw [show Int32.toInt (-1) = (-1) from by decide] at r4770
              exact absurd (show False by omega) not_false
            · rw [show Int32.toInt (-1) = (-1) from by decide] at r4772
              exact absurd (show False by omega) not_false
        · have r4678' : gB z4675 48 255 := ⟨by omega, by omega⟩
          have r4678'' : gB z4675 48 57 := ⟨by omega, by omega⟩
          change G _ _ _ _ _ _ _ (.int 1 :: _) _ _ _
          refine G_ws (ws' := [(q4658, .inr (14, [.ref q4659, .int p4661, .int 0, .int o4671, .int p4664])), (q4659, .inr (15, [.ref q4660, .int p4665])), (q4660, .inl (I .byte, 8192, .inl f4666))]) (cs' := 0) (sl' := 0) rfl rfl rfl ?_
          refine G_if_ne 110 d_cX9_advance_90 (by decide +kernel) (fun _ => ?_) (fun hc => absurd hc (by decide))
          refine G_aload_n 3 d_cX9_advance_110 rfl ?_
          refine G_iload_n 1 d_cX9_advance_111 rfl ?_
          refine G_bipush 45 d_cX9_advance_112 (by decide +kernel) ?_
          refine G_icmp_ne 121 d_cX9_advance_114 (by decide +kernel) (fun _ => ?_) (fun hc => absurd (show False by have := gj_eq hc (show Int32.toInt 45 = 45 by decide); omega) not_false)
          refine G_iconst 0 d_cX9_advance_121 (by decide +kernel) ?_
          refine G_callV (As := [.int 0]) (wr := []) (gV_ok D I) (ct_628_Signs_takeNumber l hl0 D I q4658 q4659 q4660 0 p4661 0 o4671 p4664 p4665 f4666 (gB_w (gBl (show Int32.toInt 0 = 0 by decide)) (by decide) (by decide)) (gB_w bp4665' (by decide) (by decide)) bf4666 (by have qa0 : Int32.toInt (-1) = (-1) := (by decide); have qa1 : Int32.toInt 0 = 0 := (by decide); have qa2 : Int32.toInt 1 = 1 := (by decide); omega)) d_cX9_advance_122 ⟨w_3_27, w_1_4, w_3_30, by decide, rfl, (Nat.le_of_ble_eq_true rfl), (Nat.le_of_ble_eq_true rfl)⟩ w_3_29 w_p_1 0 rfl rfl [0, 1, 2] [] rfl rfl rfl rfl (by decide) (Nat.le_of_ble_eq_true rfl) (Nat.le_of_ble_eq_true rfl) (Nat.le_of_ble_eq_true rfl) (fun r w hp => ?_) (fun _ _ _ z => z.elim)
          obtain ⟨o4782, o4783, o4784, rfl, rfl, bo4782, bo4783, bo4784, x4785⟩ := hp
          change G _ _ _ _ _ _ _ _ _ _ _
          refine G_ws (ws' := [(q4658, .inr (14, [.ref q4659, .int o4782, .int o4783, .int o4671, .int o4784])), (q4659, .inr (15, [.ref q4660, .int p4665])), (q4660, .inl (I .byte, 8192, .inl f4666))]) (cs' := 0) (sl' := 0) rfl rfl rfl ?_
          refine G_goto 194 d_cX9_advance_125 (by decide +kernel) ?_
          exact G_vret d_cX9_advance_194 rfl (Nat.le_of_ble_eq_true rfl) (Nat.le_of_ble_eq_true rfl) ⟨o4782, o4783, o4671, o4784, rfl, rfl, (gB_w bo4782 (by decide) (by decide)), bo4783, (gB_w bo4671'' (by decide) (by decide)), bo4784, (by have qa0 : Int32.toInt (-1) = (-1) := (by decide); have qa1 : Int32.toInt 1 = 1 := (by decide); omega)⟩
      · have bz4695' : gB z4695 1 8191 := ⟨by omega, by omega⟩
        have bp4665'' : gB p4665 2 8192 := ⟨by omega, by omega⟩
        change G _ _ _ _ _ _ _ (.int z4699 :: _) _ _ _
        refine G_ws (ws' := [(q4658, .inr (14, [.ref q4659, .int p4661, .int p4662, .int o4671, .int p4664])), (q4659, .inr (15, [.ref q4660, .int p4665])), (q4660, .inl (I .byte, 8192, .inl f4666))]) (cs' := 0) (sl' := 0) rfl rfl rfl ?_
        refine G_istore_n (L' := [(3, .int z4699), (2, .int z4675), (1, .int 1), (0, .ref q4658)]) d_cX9_advance_59 (Nat.le_of_ble_eq_true rfl) rfl ?_
        refine G_aload_n 3 d_cX9_advance_60 rfl ?_
        refine G_iconst 0 d_cX9_advance_61 (by decide +kernel) ?_
        refine G_putf (ws' := [(q4658, .inr (14, [.ref q4659, .int p4661, .int 0, .int o4671, .int p4664])), (q4659, .inr (15, [.ref q4660, .int p4665])), (q4660, .inl (I .byte, 8192, .inl f4666))]) 0 2 d_cX9_advance_62 rfl (gk_X9 D I) (Nat.le_of_ble_eq_true rfl) w_1_81 rfl rfl rfl (Nat.le_of_ble_eq_true rfl) rfl ?_
        refine G_iload_n 1 d_cX9_advance_65 rfl ?_
        refine G_iconst (-1) d_cX9_advance_66 (by decide +kernel) ?_
        refine G_icmp_ne 86 d_cX9_advance_67 (by decide +kernel) (fun _ => ?_) (fun hc => absurd (show False by have := gj_eq hc (show Int32.toInt (-1) = (-1) by decide); omega) not_false)
        refine G_iload_n 1 d_cX9_advance_86 rfl ?_
        refine G_callS (As := [.int z4675]) (wr := [(q4658, .inr (14, [.ref q4659, .int p4661, .int 0, .int o4671, .int p4664])), (q4659, .inr (15, [.ref q4660, .int p4665])), (q4660, .inl (I .byte, 8192, .inl f4666))]) (gV_ok D I) (ct_304_Signs_isDigit l hl0 D I z4675 ) d_cX9_advance_87 ⟨w_3_24, w_1_4, w_3_26, by decide, rfl, (Nat.le_of_ble_eq_true rfl), (Nat.le_of_ble_eq_true rfl)⟩ w_3_25 [] [0, 1, 2] rfl rfl rfl rfl (by decide) (Nat.le_of_ble_eq_true rfl) (Nat.le_of_ble_eq_true rfl) (Nat.le_of_ble_eq_true rfl) (fun r w hp => ?_) (fun _ _ _ z => z.elim)
        rcases hp with ⟨rfl, rfl, r4786⟩ | ⟨rfl, rfl, r4787, r4788⟩ | ⟨rfl, rfl, r4789, r4790⟩
        · have r4678' : gB z4675 0 47 := ⟨by omega, by omega⟩
          change G _ _ _ _ _ _ _ (.int 0 :: _) _ _ _
          refine G_ws (ws' := [(q4658, .inr (14, [.ref q4659, .int p4661, .int 0, .int o4671, .int p4664])), (q4659, .inr (15, [.ref q4660, .int p4665])), (q4660, .inl (I .byte, 8192, .inl f4666))]) (cs' := 0) (sl' := 0) rfl rfl rfl ?_
          refine G_if_ne 110 d_cX9_advance_90 (by decide +kernel) (fun hc => absurd hc (by decide)) (fun _ => ?_)
          refine G_iload_n 1 d_cX9_advance_93 rfl ?_
          refine G_bipush 45 d_cX9_advance_94 (by decide +kernel) ?_
          refine G_icmp_ne 128 d_cX9_advance_96 (by decide +kernel) (fun hc4791 => ?_) (fun hc4791 => ?_)
          · have r4792 : z4675.toInt ≠ 45 := gj_neq hc4791 (show Int32.toInt 45 = 45 by decide)
            refine G_iload_n 1 d_cX9_advance_128 rfl ?_
            refine G_bipush 118 d_cX9_advance_129 (by decide +kernel) ?_
            refine G_icmp_ne 151 d_cX9_advance_131 (by decide +kernel) (fun _ => ?_) (fun hc => absurd (show False by have := gj_eq hc (show Int32.toInt 118 = 118 by decide); omega) not_false)
            refine G_iload_n 1 d_cX9_advance_151 rfl ?_
            refine G_bipush 98 d_cX9_advance_152 (by decide +kernel) ?_
            refine G_icmp_ne 174 d_cX9_advance_154 (by decide +kernel) (fun _ => ?_) (fun hc => absurd (show False by have := gj_eq hc (show Int32.toInt 98 = 98 by decide); omega) not_false)
            refine G_iload_n 1 d_cX9_advance_174 rfl ?_
            refine G_callS (As := [.int z4675]) (wr := [(q4658, .inr (14, [.ref q4659, .int p4661, .int 0, .int o4671, .int p4664])), (q4659, .inr (15, [.ref q4660, .int p4665])), (q4660, .inl (I .byte, 8192, .inl f4666))]) (gV_ok D I) (ct_312_Signs_isLetter l hl0 D I z4675 ) d_cX9_advance_175 ⟨w_3_45, w_1_4, w_3_47, by decide, rfl, (Nat.le_of_ble_eq_true rfl), (Nat.le_of_ble_eq_true rfl)⟩ w_3_46 [] [0, 1, 2] rfl rfl rfl rfl (by decide) (Nat.le_of_ble_eq_true rfl) (Nat.le_of_ble_eq_true rfl) (Nat.le_of_ble_eq_true rfl) (fun r w hp => ?_) (fun _ _ _ z => z.elim)
            rcases hp with ⟨rfl, rfl, r4793⟩ | ⟨rfl, rfl, r4794, r4795⟩ | ⟨rfl, rfl, r4796, r4797⟩
            · change G _ _ _ _ _ _ _ (.int 0 :: _) _ _ _
              refine G_ws (ws' := [(q4658, .inr (14, [.ref q4659, .int p4661, .int 0, .int o4671, .int p4664])), (q4659, .inr (15, [.ref q4660, .int p4665])), (q4660, .inl (I .byte, 8192, .inl f4666))]) (cs' := 0) (sl' := 0) rfl rfl rfl ?_
              refine G_if_eq 188 d_cX9_advance_178 (by decide +kernel) (fun _ => ?_) (fun hc => absurd hc (by decide))
              refine G_aload_n 3 d_cX9_advance_188 rfl ?_
              refine G_iload_n 1 d_cX9_advance_189 rfl ?_
              refine G_iload_n 0 d_cX9_advance_190 rfl ?_
              refine G_callV (As := [.int z4675, .int z4699]) (wr := []) (gV_ok D I) (ct_4624_Signs_takeMark l hl0 D I q4658 q4659 q4660 z4675 z4699 p4661 0 o4671 p4664 p4665 f4666 (gB_w bp4665'' (by decide) (by decide)) bf4666 (by have qa0 : Int32.toInt 0 = 0 := (by decide); have qa1 : Int32.toInt 1 = 1 := (by decide); omega)) d_cX9_advance_191 ⟨w_3_109, w_1_4, w_3_112, by decide, rfl, (Nat.le_of_ble_eq_true rfl), (Nat.le_of_ble_eq_true rfl)⟩ w_3_111 w_p_6 0 rfl rfl [0, 1, 2] [] rfl rfl rfl rfl (by decide) (Nat.le_of_ble_eq_true rfl) (Nat.le_of_ble_eq_true rfl) (Nat.le_of_ble_eq_true rfl) (fun r w hp => ?_) (fun _ _ _ z => z.elim)
              obtain ⟨o4798, o4799, o4800, rfl, rfl, bo4798, bo4799, bo4800, x4801⟩ := hp
              change G _ _ _ _ _ _ _ _ _ _ _
              refine G_ws (ws' := [(q4658, .inr (14, [.ref q4659, .int o4798, .int o4799, .int o4671, .int o4800])), (q4659, .inr (15, [.ref q4660, .int p4665])), (q4660, .inl (I .byte, 8192, .inl f4666))]) (cs' := 0) (sl' := 0) rfl rfl rfl ?_
              exact G_vret d_cX9_advance_194 rfl (Nat.le_of_ble_eq_true rfl) (Nat.le_of_ble_eq_true rfl) ⟨o4798, o4799, o4671, o4800, rfl, rfl, (gB_w bo4798 (by decide) (by decide)), (gB_w bo4799 (by decide) (by decide)), (gB_w bo4671'' (by decide) (by decide)), bo4800, (by have qa0 : Int32.toInt 1 = 1 := (by decide); omega)⟩
            · exact absurd (show False by omega) not_false
            · exact absurd (show False by omega) not_false
          · have r4802 : z4675.toInt = 45 := gj_eq hc4791 (show Int32.toInt 45 = 45 by decide)
            have r4678'' : gB z4675 45 45 := ⟨by omega, by omega⟩
            refine G_iload_n 0 d_cX9_advance_99 rfl ?_
            refine G_callS (As := [.int z4699]) (wr := [(q4658, .inr (14, [.ref q4659, .int p4661, .int 0, .int o4671, .int p4664])), (q4659, .inr (15, [.ref q4660, .int p4665])), (q4660, .inl (I .byte, 8192, .inl f4666))]) (gV_ok D I) (ct_304_Signs_isDigit l hl0 D I z4699 ) d_cX9_advance_100 ⟨w_3_24, w_1_4, w_3_26, by decide, rfl, (Nat.le_of_ble_eq_true rfl), (Nat.le_of_ble_eq_true rfl)⟩ w_3_25 [] [0, 1, 2] rfl rfl rfl rfl (by decide) (Nat.le_of_ble_eq_true rfl) (Nat.le_of_ble_eq_true rfl) (Nat.le_of_ble_eq_true rfl) (fun r w hp => ?_) (fun _ _ _ z => z.elim)
            rcases hp with ⟨rfl, rfl, r4803⟩ | ⟨rfl, rfl, r4804, r4805⟩ | ⟨rfl, rfl, r4806, r4807⟩
            · have r4702' : gB z4699 0 47 := ⟨by omega, by omega⟩
              change G _ _ _ _ _ _ _ (.int 0 :: _) _ _ _
              refine G_ws (ws' := [(q4658, .inr (14, [.ref q4659, .int p4661, .int 0, .int o4671, .int p4664])), (q4659, .inr (15, [.ref q4660, .int p4665])), (q4660, .inl (I .byte, 8192, .inl f4666))]) (cs' := 0) (sl' := 0) rfl rfl rfl ?_
              refine G_if_eq 128 d_cX9_advance_103 (by decide +kernel) (fun _ => ?_) (fun hc => absurd hc (by decide))
              refine G_iload_n 1 d_cX9_advance_128 rfl ?_
              refine G_bipush 118 d_cX9_advance_129 (by decide +kernel) ?_
              refine G_icmp_ne 151 d_cX9_advance_131 (by decide +kernel) (fun _ => ?_) (fun hc => absurd (show False by have := gj_eq hc (show Int32.toInt 118 = 118 by decide); omega) not_false)
              refine G_iload_n 1 d_cX9_advance_151 rfl ?_
              refine G_bipush 98 d_cX9_advance_152 (by decide +kernel) ?_
              refine G_icmp_ne 174 d_cX9_advance_154 (by decide +kernel) (fun _ => ?_) (fun hc => absurd (show False by have := gj_eq hc (show Int32.toInt 98 = 98 by decide); omega) not_false)
              refine G_iload_n 1 d_cX9_advance_174 rfl ?_
              refine G_callS (As := [.int z4675]) (wr := [(q4658, .inr (14, [.ref q4659, .int p4661, .int 0, .int o4671, .int p4664])), (q4659, .inr (15, [.ref q4660, .int p4665])), (q4660, .inl (I .byte, 8192, .inl f4666))]) (gV_ok D I) (ct_312_Signs_isLetter l hl0 D I z4675 ) d_cX9_advance_175 ⟨w_3_45, w_1_4, w_3_47, by decide, rfl, (Nat.le_of_ble_eq_true rfl), (Nat.le_of_ble_eq_true rfl)⟩ w_3_46 [] [0, 1, 2] rfl rfl rfl rfl (by decide) (Nat.le_of_ble_eq_true rfl) (Nat.le_of_ble_eq_true rfl) (Nat.le_of_ble_eq_true rfl) (fun r w hp => ?_) (fun _ _ _ z => z.elim)
              rcases hp with ⟨rfl, rfl, r4808⟩ | ⟨rfl, rfl, r4809, r4810⟩ | ⟨rfl, rfl, r4811, r4812⟩
              · change G _ _ _ _ _ _ _ (.int 0 :: _) _ _ _
                refine G_ws (ws' := [(q4658, .inr (14, [.ref q4659, .int p4661, .int 0, .int o4671, .int p4664])), (q4659, .inr (15, [.ref q4660, .int p4665])), (q4660, .inl (I .byte, 8192, .inl f4666))]) (cs' := 0) (sl' := 0) rfl rfl rfl ?_
                refine G_if_eq 188 d_cX9_advance_178 (by decide +kernel) (fun _ => ?_) (fun hc => absurd hc (by decide))
                refine G_aload_n 3 d_cX9_advance_188 rfl ?_
                refine G_iload_n 1 d_cX9_advance_189 rfl ?_
                refine G_iload_n 0 d_cX9_advance_190 rfl ?_
                refine G_callV (As := [.int z4675, .int z4699]) (wr := []) (gV_ok D I) (ct_4624_Signs_takeMark l hl0 D I q4658 q4659 q4660 z4675 z4699 p4661 0 o4671 p4664 p4665 f4666 (gB_w bp4665'' (by decide) (by decide)) bf4666 (by have qa0 : Int32.toInt 0 = 0 := (by decide); have qa1 : Int32.toInt 1 = 1 := (by decide); omega)) d_cX9_advance_191 ⟨w_3_109, w_1_4, w_3_112, by decide, rfl, (Nat.le_of_ble_eq_true rfl), (Nat.le_of_ble_eq_true rfl)⟩ w_3_111 w_p_6 0 rfl rfl [0, 1, 2] [] rfl rfl rfl rfl (by decide) (Nat.le_of_ble_eq_true rfl) (Nat.le_of_ble_eq_true rfl) (Nat.le_of_ble_eq_true rfl) (fun r w hp => ?_) (fun _ _ _ z => z.elim)
                obtain ⟨o4813, o4814, o4815, rfl, rfl, bo4813, bo4814, bo4815, x4816⟩ := hp
                change G _ _ _ _ _ _ _ _ _ _ _
                refine G_ws (ws' := [(q4658, .inr (14, [.ref q4659, .int o4813, .int o4814, .int o4671, .int o4815])), (q4659, .inr (15, [.ref q4660, .int p4665])), (q4660, .inl (I .byte, 8192, .inl f4666))]) (cs' := 0) (sl' := 0) rfl rfl rfl ?_
                exact G_vret d_cX9_advance_194 rfl (Nat.le_of_ble_eq_true rfl) (Nat.le_of_ble_eq_true rfl) ⟨o4813, o4814, o4671, o4815, rfl, rfl, (gB_w bo4813 (by decide) (by decide)), (gB_w bo4814 (by decide) (by decide)), (gB_w bo4671'' (by decide) (by decide)), bo4815, (by have qa0 : Int32.toInt 1 = 1 := (by decide); omega)⟩
              · exact absurd (show False by omega) not_false
              · exact absurd (show False by omega) not_false
            · have r4702' : gB z4699 48 255 := ⟨by omega, by omega⟩
              have r4702'' : gB z4699 58 255 := ⟨by omega, by omega⟩
              change G _ _ _ _ _ _ _ (.int 0 :: _) _ _ _
              refine G_ws (ws' := [(q4658, .inr (14, [.ref q4659, .int p4661, .int 0, .int o4671, .int p4664])), (q4659, .inr (15, [.ref q4660, .int p4665])), (q4660, .inl (I .byte, 8192, .inl f4666))]) (cs' := 0) (sl' := 0) rfl rfl rfl ?_
              refine G_if_eq 128 d_cX9_advance_103 (by decide +kernel) (fun _ => ?_) (fun hc => absurd hc (by decide))
              refine G_iload_n 1 d_cX9_advance_128 rfl ?_
              refine G_bipush 118 d_cX9_advance_129 (by decide +kernel) ?_
              refine G_icmp_ne 151 d_cX9_advance_131 (by decide +kernel) (fun _ => ?_) (fun hc => absurd (show False by have := gj_eq hc (show Int32.toInt 118 = 118 by decide); omega) not_false)
              refine G_iload_n 1 d_cX9_advance_151 rfl ?_
              refine G_bipush 98 d_cX9_advance_152 (by decide +kernel) ?_
              refine G_icmp_ne 174 d_cX9_advance_154 (by decide +kernel) (fun _ => ?_) (fun hc => absurd (show False by have := gj_eq hc (show Int32.toInt 98 = 98 by decide); omega) not_false)
              refine G_iload_n 1 d_cX9_advance_174 rfl ?_
              refine G_callS (As := [.int z4675]) (wr := [(q4658, .inr (14, [.ref q4659, .int p4661, .int 0, .int o4671, .int p4664])), (q4659, .inr (15, [.ref q4660, .int p4665])), (q4660, .inl (I .byte, 8192, .inl f4666))]) (gV_ok D I) (ct_312_Signs_isLetter l hl0 D I z4675 ) d_cX9_advance_175 ⟨w_3_45, w_1_4, w_3_47, by decide, rfl, (Nat.le_of_ble_eq_true rfl), (Nat.le_of_ble_eq_true rfl)⟩ w_3_46 [] [0, 1, 2] rfl rfl rfl rfl (by decide) (Nat.le_of_ble_eq_true rfl) (Nat.le_of_ble_eq_true rfl) (Nat.le_of_ble_eq_true rfl) (fun r w hp => ?_) (fun _ _ _ z => z.elim)
              rcases hp with ⟨rfl, rfl, r4817⟩ | ⟨rfl, rfl, r4818, r4819⟩ | ⟨rfl, rfl, r4820, r4821⟩
              · change G _ _ _ _ _ _ _ (.int 0 :: _) _ _ _
                refine G_ws (ws' := [(q4658, .inr (14, [.ref q4659, .int p4661, .int 0, .int o4671, .int p4664])), (q4659, .inr (15, [.ref q4660, .int p4665])), (q4660, .inl (I .byte, 8192, .inl f4666))]) (cs' := 0) (sl' := 0) rfl rfl rfl ?_
                refine G_if_eq 188 d_cX9_advance_178 (by decide +kernel) (fun _ => ?_) (fun hc => absurd hc (by decide))
                refine G_aload_n 3 d_cX9_advance_188 rfl ?_
                refine G_iload_n 1 d_cX9_advance_189 rfl ?_
                refine G_iload_n 0 d_cX9_advance_190 rfl ?_
                refine G_callV (As := [.int z4675, .int z4699]) (wr := []) (gV_ok D I) (ct_4624_Signs_takeMark l hl0 D I q4658 q4659 q4660 z4675 z4699 p4661 0 o4671 p4664 p4665 f4666 (gB_w bp4665'' (by decide) (by decide)) bf4666 (by have qa0 : Int32.toInt 0 = 0 := (by decide); have qa1 : Int32.toInt 1 = 1 := (by decide); omega)) d_cX9_advance_191 ⟨w_3_109, w_1_4, w_3_112, by decide, rfl, (Nat.le_of_ble_eq_true rfl), (Nat.le_of_ble_eq_true rfl)⟩ w_3_111 w_p_6 0 rfl rfl [0, 1, 2] [] rfl rfl rfl rfl (by decide) (Nat.le_of_ble_eq_true rfl) (Nat.le_of_ble_eq_true rfl) (Nat.le_of_ble_eq_true rfl) (fun r w hp => ?_) (fun _ _ _ z => z.elim)
                obtain ⟨o4822, o4823, o4824, rfl, rfl, bo4822, bo4823, bo4824, x4825⟩ := hp
                change G _ _ _ _ _ _ _ _ _ _ _
                refine G_ws (ws' := [(q4658, .inr (14, [.ref q4659, .int o4822, .int o4823, .int o4671, .int o4824])), (q4659, .inr (15, [.ref q4660, .int p4665])), (q4660, .inl (I .byte, 8192, .inl f4666))]) (cs' := 0) (sl' := 0) rfl rfl rfl ?_
                exact G_vret d_cX9_advance_194 rfl (Nat.le_of_ble_eq_true rfl) (Nat.le_of_ble_eq_true rfl) ⟨o4822, o4823, o4671, o4824, rfl, rfl, (gB_w bo4822 (by decide) (by decide)), (gB_w bo4823 (by decide) (by decide)), (gB_w bo4671'' (by decide) (by decide)), bo4824, (by have qa0 : Int32.toInt 1 = 1 := (by decide); omega)⟩
              · exact absurd (show False by omega) not_false
              · exact absurd (show False by omega) not_false
            · have r4702' : gB z4699 48 255 := ⟨by omega, by omega⟩
              have r4702'' : gB z4699 48 57 := ⟨by omega, by omega⟩
              change G _ _ _ _ _ _ _ (.int 1 :: _) _ _ _
              refine G_ws (ws' := [(q4658, .inr (14, [.ref q4659, .int p4661, .int 0, .int o4671, .int p4664])), (q4659, .inr (15, [.ref q4660, .int p4665])), (q4660, .inl (I .byte, 8192, .inl f4666))]) (cs' := 0) (sl' := 0) rfl rfl rfl ?_
              refine G_if_eq 128 d_cX9_advance_103 (by decide +kernel) (fun hc => absurd hc (by decide)) (fun _ => ?_)
              refine G_iload_n 2 d_cX9_advance_106 rfl ?_
              refine G_if_ne 128 d_cX9_advance_107 (by decide +kernel) (fun _ => ?_) (fun hc => absurd hc (by decide))
              refine G_iload_n 1 d_cX9_advance_128 rfl ?_
              refine G_bipush 118 d_cX9_advance_129 (by decide +kernel) ?_
              refine G_icmp_ne 151 d_cX9_advance_131 (by decide +kernel) (fun _ => ?_) (fun hc => absurd (show False by have := gj_eq hc (show Int32.toInt 118 = 118 by decide); omega) not_false)
              refine G_iload_n 1 d_cX9_advance_151 rfl ?_
              refine G_bipush 98 d_cX9_advance_152 (by decide +kernel) ?_
              refine G_icmp_ne 174 d_cX9_advance_154 (by decide +kernel) (fun _ => ?_) (fun hc => absurd (show False by have := gj_eq hc (show Int32.toInt 98 = 98 by decide); omega) not_false)
              refine G_iload_n 1 d_cX9_advance_174 rfl ?_
              refine G_callS (As := [.int z4675]) (wr := [(q4658, .inr (14, [.ref q4659, .int p4661, .int 0, .int o4671, .int p4664])), (q4659, .inr (15, [.ref q4660, .int p4665])), (q4660, .inl (I .byte, 8192, .inl f4666))]) (gV_ok D I) (ct_312_Signs_isLetter l hl0 D I z4675 ) d_cX9_advance_175 ⟨w_3_45, w_1_4, w_3_47, by decide, rfl, (Nat.le_of_ble_eq_true rfl), (Nat.le_of_ble_eq_true rfl)⟩ w_3_46 [] [0, 1, 2] rfl rfl rfl rfl (by decide) (Nat.le_of_ble_eq_true rfl) (Nat.le_of_ble_eq_true rfl) (Nat.le_of_ble_eq_true rfl) (fun r w hp => ?_) (fun _ _ _ z => z.elim)
              rcases hp with ⟨rfl, rfl, r4826⟩ | ⟨rfl, rfl, r4827, r4828⟩ | ⟨rfl, rfl, r4829, r4830⟩
              · change G _ _ _ _ _ _ _ (.int 0 :: _) _ _ _
                refine G_ws (ws' := [(q4658, .inr (14, [.ref q4659, .int p4661, .int 0, .int o4671, .int p4664])), (q4659, .inr (15, [.ref q4660, .int p4665])), (q4660, .inl (I .byte, 8192, .inl f4666))]) (cs' := 0) (sl' := 0) rfl rfl rfl ?_
                refine G_if_eq 188 d_cX9_advance_178 (by decide +kernel) (fun _ => ?_) (fun hc => absurd hc (by decide))
                refine G_aload_n 3 d_cX9_advance_188 rfl ?_
                refine G_iload_n 1 d_cX9_advance_189 rfl ?_
                refine G_iload_n 0 d_cX9_advance_190 rfl ?_
                refine G_callV (As := [.int z4675, .int z4699]) (wr := []) (gV_ok D I) (ct_4624_Signs_takeMark l hl0 D I q4658 q4659 q4660 z4675 z4699 p4661 0 o4671 p4664 p4665 f4666 (gB_w bp4665'' (by decide) (by decide)) bf4666 (by have qa0 : Int32.toInt 0 = 0 := (by decide); have qa1 : Int32.toInt 1 = 1 := (by decide); omega)) d_cX9_advance_191 ⟨w_3_109, w_1_4, w_3_112, by decide, rfl, (Nat.le_of_ble_eq_true rfl), (Nat.le_of_ble_eq_true rfl)⟩ w_3_111 w_p_6 0 rfl rfl [0, 1, 2] [] rfl rfl rfl rfl (by decide) (Nat.le_of_ble_eq_true rfl) (Nat.le_of_ble_eq_true rfl) (Nat.le_of_ble_eq_true rfl) (fun r w hp => ?_) (fun _ _ _ z => z.elim)
                obtain ⟨o4831, o4832, o4833, rfl, rfl, bo4831, bo4832, bo4833, x4834⟩ := hp
                change G _ _ _ _ _ _ _ _ _ _ _
                refine G_ws (ws' := [(q4658, .inr (14, [.ref q4659, .int o4831, .int o4832, .int o4671, .int o4833])), (q4659, .inr (15, [.ref q4660, .int p4665])), (q4660, .inl (I .byte, 8192, .inl f4666))]) (cs' := 0) (sl' := 0) rfl rfl rfl ?_
                exact G_vret d_cX9_advance_194 rfl (Nat.le_of_ble_eq_true rfl) (Nat.le_of_ble_eq_true rfl) ⟨o4831, o4832, o4671, o4833, rfl, rfl, (gB_w bo4831 (by decide) (by decide)), (gB_w bo4832 (by decide) (by decide)), (gB_w bo4671'' (by decide) (by decide)), bo4833, (by have qa0 : Int32.toInt 1 = 1 := (by decide); omega)⟩
              · exact absurd (show False by omega) not_false
              · exact absurd (show False by omega) not_false
        · have r4678' : gB z4675 48 255 := ⟨by omega, by omega⟩
          have r4678'' : gB z4675 58 255 := ⟨by omega, by omega⟩
          change G _ _ _ _ _ _ _ (.int 0 :: _) _ _ _
          refine G_ws (ws' := [(q4658, .inr (14, [.ref q4659, .int p4661, .int 0, .int o4671, .int p4664])), (q4659, .inr (15, [.ref q4660, .int p4665])), (q4660, .inl (I .byte, 8192, .inl f4666))]) (cs' := 0) (sl' := 0) rfl rfl rfl ?_
          refine G_if_ne 110 d_cX9_advance_90 (by decide +kernel) (fun hc => absurd hc (by decide)) (fun _ => ?_)
          refine G_iload_n 1 d_cX9_advance_93 rfl ?_
          refine G_bipush 45 d_cX9_advance_94 (by decide +kernel) ?_
          refine G_icmp_ne 128 d_cX9_advance_96 (by decide +kernel) (fun _ => ?_) (fun hc => absurd (show False by have := gj_eq hc (show Int32.toInt 45 = 45 by decide); omega) not_false)
          refine G_iload_n 1 d_cX9_advance_128 rfl ?_
          refine G_bipush 118 d_cX9_advance_129 (by decide +kernel) ?_
          refine G_icmp_ne 151 d_cX9_advance_131 (by decide +kernel) (fun hc4835 => ?_) (fun hc4835 => ?_)
          · have r4836 : z4675.toInt ≠ 118 := gj_neq hc4835 (show Int32.toInt 118 = 118 by decide)
            refine G_iload_n 1 d_cX9_advance_151 rfl ?_
            refine G_bipush 98 d_cX9_advance_152 (by decide +kernel) ?_
            refine G_icmp_ne 174 d_cX9_advance_154 (by decide +kernel) (fun hc4837 => ?_) (fun hc4837 => ?_)
            · have r4838 : z4675.toInt ≠ 98 := gj_neq hc4837 (show Int32.toInt 98 = 98 by decide)
              refine G_iload_n 1 d_cX9_advance_174 rfl ?_
              refine G_callS (As := [.int z4675]) (wr := [(q4658, .inr (14, [.ref q4659, .int p4661, .int 0, .int o4671, .int p4664])), (q4659, .inr (15, [.ref q4660, .int p4665])), (q4660, .inl (I .byte, 8192, .inl f4666))]) (gV_ok D I) (ct_312_Signs_isLetter l hl0 D I z4675 ) d_cX9_advance_175 ⟨w_3_45, w_1_4, w_3_47, by decide, rfl, (Nat.le_of_ble_eq_true rfl), (Nat.le_of_ble_eq_true rfl)⟩ w_3_46 [] [0, 1, 2] rfl rfl rfl rfl (by decide) (Nat.le_of_ble_eq_true rfl) (Nat.le_of_ble_eq_true rfl) (Nat.le_of_ble_eq_true rfl) (fun r w hp => ?_) (fun _ _ _ z => z.elim)
              rcases hp with ⟨rfl, rfl, r4839⟩ | ⟨rfl, rfl, r4840, r4841⟩ | ⟨rfl, rfl, r4842, r4843⟩
              · have r4678''' : gB z4675 58 96 := ⟨by omega, by omega⟩
                change G _ _ _ _ _ _ _ (.int 0 :: _) _ _ _
                refine G_ws (ws' := [(q4658, .inr (14, [.ref q4659, .int p4661, .int 0, .int o4671, .int p4664])), (q4659, .inr (15, [.ref q4660, .int p4665])), (q4660, .inl (I .byte, 8192, .inl f4666))]) (cs' := 0) (sl' := 0) rfl rfl rfl ?_
                refine G_if_eq 188 d_cX9_advance_178 (by decide +kernel) (fun _ => ?_) (fun hc => absurd hc (by decide))
                refine G_aload_n 3 d_cX9_advance_188 rfl ?_
                refine G_iload_n 1 d_cX9_advance_189 rfl ?_
                refine G_iload_n 0 d_cX9_advance_190 rfl ?_
                refine G_callV (As := [.int z4675, .int z4699]) (wr := []) (gV_ok D I) (ct_4624_Signs_takeMark l hl0 D I q4658 q4659 q4660 z4675 z4699 p4661 0 o4671 p4664 p4665 f4666 (gB_w bp4665'' (by decide) (by decide)) bf4666 (by have qa0 : Int32.toInt 0 = 0 := (by decide); have qa1 : Int32.toInt 1 = 1 := (by decide); omega)) d_cX9_advance_191 ⟨w_3_109, w_1_4, w_3_112, by decide, rfl, (Nat.le_of_ble_eq_true rfl), (Nat.le_of_ble_eq_true rfl)⟩ w_3_111 w_p_6 0 rfl rfl [0, 1, 2] [] rfl rfl rfl rfl (by decide) (Nat.le_of_ble_eq_true rfl) (Nat.le_of_ble_eq_true rfl) (Nat.le_of_ble_eq_true rfl) (fun r w hp => ?_) (fun _ _ _ z => z.elim)
                obtain ⟨o4844, o4845, o4846, rfl, rfl, bo4844, bo4845, bo4846, x4847⟩ := hp
                change G _ _ _ _ _ _ _ _ _ _ _
                refine G_ws (ws' := [(q4658, .inr (14, [.ref q4659, .int o4844, .int o4845, .int o4671, .int o4846])), (q4659, .inr (15, [.ref q4660, .int p4665])), (q4660, .inl (I .byte, 8192, .inl f4666))]) (cs' := 0) (sl' := 0) rfl rfl rfl ?_
                exact G_vret d_cX9_advance_194 rfl (Nat.le_of_ble_eq_true rfl) (Nat.le_of_ble_eq_true rfl) ⟨o4844, o4845, o4671, o4846, rfl, rfl, (gB_w bo4844 (by decide) (by decide)), (gB_w bo4845 (by decide) (by decide)), (gB_w bo4671'' (by decide) (by decide)), bo4846, (by have qa0 : Int32.toInt 1 = 1 := (by decide); omega)⟩
              · have r4678''' : gB z4675 97 255 := ⟨by omega, by omega⟩
                have r4678'''' : gB z4675 123 255 := ⟨by omega, by omega⟩
                change G _ _ _ _ _ _ _ (.int 0 :: _) _ _ _
                refine G_ws (ws' := [(q4658, .inr (14, [.ref q4659, .int p4661, .int 0, .int o4671, .int p4664])), (q4659, .inr (15, [.ref q4660, .int p4665])), (q4660, .inl (I .byte, 8192, .inl f4666))]) (cs' := 0) (sl' := 0) rfl rfl rfl ?_
                refine G_if_eq 188 d_cX9_advance_178 (by decide +kernel) (fun _ => ?_) (fun hc => absurd hc (by decide))
                refine G_aload_n 3 d_cX9_advance_188 rfl ?_
                refine G_iload_n 1 d_cX9_advance_189 rfl ?_
                refine G_iload_n 0 d_cX9_advance_190 rfl ?_
                refine G_callV (As := [.int z4675, .int z4699]) (wr := []) (gV_ok D I) (ct_4624_Signs_takeMark l hl0 D I q4658 q4659 q4660 z4675 z4699 p4661 0 o4671 p4664 p4665 f4666 (gB_w bp4665'' (by decide) (by decide)) bf4666 (by have qa0 : Int32.toInt 0 = 0 := (by decide); have qa1 : Int32.toInt 1 = 1 := (by decide); omega)) d_cX9_advance_191 ⟨w_3_109, w_1_4, w_3_112, by decide, rfl, (Nat.le_of_ble_eq_true rfl), (Nat.le_of_ble_eq_true rfl)⟩ w_3_111 w_p_6 0 rfl rfl [0, 1, 2] [] rfl rfl rfl rfl (by decide) (Nat.le_of_ble_eq_true rfl) (Nat.le_of_ble_eq_true rfl) (Nat.le_of_ble_eq_true rfl) (fun r w hp => ?_) (fun _ _ _ z => z.elim)
                obtain ⟨o4848, o4849, o4850, rfl, rfl, bo4848, bo4849, bo4850, x4851⟩ := hp
                change G _ _ _ _ _ _ _ _ _ _ _
                refine G_ws (ws' := [(q4658, .inr (14, [.ref q4659, .int o4848, .int o4849, .int o4671, .int o4850])), (q4659, .inr (15, [.ref q4660, .int p4665])), (q4660, .inl (I .byte, 8192, .inl f4666))]) (cs' := 0) (sl' := 0) rfl rfl rfl ?_
                exact G_vret d_cX9_advance_194 rfl (Nat.le_of_ble_eq_true rfl) (Nat.le_of_ble_eq_true rfl) ⟨o4848, o4849, o4671, o4850, rfl, rfl, (gB_w bo4848 (by decide) (by decide)), (gB_w bo4849 (by decide) (by decide)), (gB_w bo4671'' (by decide) (by decide)), bo4850, (by have qa0 : Int32.toInt 1 = 1 := (by decide); omega)⟩
              · have r4678''' : gB z4675 97 255 := ⟨by omega, by omega⟩
                have r4678'''' : gB z4675 97 122 := ⟨by omega, by omega⟩
                change G _ _ _ _ _ _ _ (.int 1 :: _) _ _ _
                refine G_ws (ws' := [(q4658, .inr (14, [.ref q4659, .int p4661, .int 0, .int o4671, .int p4664])), (q4659, .inr (15, [.ref q4660, .int p4665])), (q4660, .inl (I .byte, 8192, .inl f4666))]) (cs' := 0) (sl' := 0) rfl rfl rfl ?_
                refine G_if_eq 188 d_cX9_advance_178 (by decide +kernel) (fun hc => absurd hc (by decide)) (fun _ => ?_)
                refine G_aload_n 3 d_cX9_advance_181 rfl ?_
                refine G_callV (As := []) (wr := []) (gV_ok D I) (ct_3805_Signs_takeWord l hl0 D I q4658 q4659 q4660 p4661 0 o4671 p4664 p4665 f4666 (gB_w bp4665'' (by decide) (by decide)) bf4666 (by have qa0 : Int32.toInt 0 = 0 := (by decide); have qa1 : Int32.toInt 1 = 1 := (by decide); omega)) d_cX9_advance_182 ⟨w_3_48, w_1_4, w_3_51, by decide, rfl, (Nat.le_of_ble_eq_true rfl), (Nat.le_of_ble_eq_true rfl)⟩ w_3_50 w_p_4 0 rfl rfl [0, 1, 2] [] rfl rfl rfl rfl (by decide) (Nat.le_of_ble_eq_true rfl) (Nat.le_of_ble_eq_true rfl) (Nat.le_of_ble_eq_true rfl) (fun r w hp => ?_) (fun _ _ _ z => z.elim)
                obtain ⟨o4852, o4853, rfl, rfl, bo4852, bo4853, x4854⟩ := hp
                rw [show Int32.toInt 0 = 0 from by decide] at x4854
                change G _ _ _ _ _ _ _ _ _ _ _
                refine G_ws (ws' := [(q4658, .inr (14, [.ref q4659, .int o4852, .int 0, .int o4671, .int o4853])), (q4659, .inr (15, [.ref q4660, .int p4665])), (q4660, .inl (I .byte, 8192, .inl f4666))]) (cs' := 0) (sl' := 0) rfl rfl rfl ?_
                refine G_goto 194 d_cX9_advance_185 (by decide +kernel) ?_
                exact G_vret d_cX9_advance_194 rfl (Nat.le_of_ble_eq_true rfl) (Nat.le_of_ble_eq_true rfl) ⟨o4852, 0, o4671, o4853, rfl, rfl, bo4852, (gB_w (gBl (show Int32.toInt 0 = 0 by decide)) (by decide) (by decide)), (gB_w bo4671'' (by decide) (by decide)), bo4853, (by have qa0 : Int32.toInt 0 = 0 := (by decide); have qa1 : Int32.toInt 1 = 1 := (by decide); omega)⟩
            · have r4855 : z4675.toInt = 98 := gj_eq hc4837 (show Int32.toInt 98 = 98 by decide)
              have r4678''' : gB z4675 98 98 := ⟨by omega, by omega⟩
              refine G_iload_n 0 d_cX9_advance_157 rfl ?_
              refine G_callS (As := [.int z4699]) (wr := [(q4658, .inr (14, [.ref q4659, .int p4661, .int 0, .int o4671, .int p4664])), (q4659, .inr (15, [.ref q4660, .int p4665])), (q4660, .inl (I .byte, 8192, .inl f4666))]) (gV_ok D I) (ct_304_Signs_isDigit l hl0 D I z4699 ) d_cX9_advance_158 ⟨w_3_24, w_1_4, w_3_26, by decide, rfl, (Nat.le_of_ble_eq_true rfl), (Nat.le_of_ble_eq_true rfl)⟩ w_3_25 [] [0, 1, 2] rfl rfl rfl rfl (by decide) (Nat.le_of_ble_eq_true rfl) (Nat.le_of_ble_eq_true rfl) (Nat.le_of_ble_eq_true rfl) (fun r w hp => ?_) (fun _ _ _ z => z.elim)
              rcases hp with ⟨rfl, rfl, r4856⟩ | ⟨rfl, rfl, r4857, r4858⟩ | ⟨rfl, rfl, r4859, r4860⟩
              · have r4702' : gB z4699 0 47 := ⟨by omega, by omega⟩
                change G _ _ _ _ _ _ _ (.int 0 :: _) _ _ _
                refine G_ws (ws' := [(q4658, .inr (14, [.ref q4659, .int p4661, .int 0, .int o4671, .int p4664])), (q4659, .inr (15, [.ref q4660, .int p4665])), (q4660, .inl (I .byte, 8192, .inl f4666))]) (cs' := 0) (sl' := 0) rfl rfl rfl ?_
                refine G_if_eq 174 d_cX9_advance_161 (by decide +kernel) (fun _ => ?_) (fun hc => absurd hc (by decide))
                refine G_iload_n 1 d_cX9_advance_174 rfl ?_
                refine G_callS (As := [.int z4675]) (wr := [(q4658, .inr (14, [.ref q4659, .int p4661, .int 0, .int o4671, .int p4664])), (q4659, .inr (15, [.ref q4660, .int p4665])), (q4660, .inl (I .byte, 8192, .inl f4666))]) (gV_ok D I) (ct_312_Signs_isLetter l hl0 D I z4675 ) d_cX9_advance_175 ⟨w_3_45, w_1_4, w_3_47, by decide, rfl, (Nat.le_of_ble_eq_true rfl), (Nat.le_of_ble_eq_true rfl)⟩ w_3_46 [] [0, 1, 2] rfl rfl rfl rfl (by decide) (Nat.le_of_ble_eq_true rfl) (Nat.le_of_ble_eq_true rfl) (Nat.le_of_ble_eq_true rfl) (fun r w hp => ?_) (fun _ _ _ z => z.elim)
                rcases hp with ⟨rfl, rfl, r4861⟩ | ⟨rfl, rfl, r4862, r4863⟩ | ⟨rfl, rfl, r4864, r4865⟩
                · exact absurd (show False by omega) not_false
                · exact absurd (show False by omega) not_false
                · change G _ _ _ _ _ _ _ (.int 1 :: _) _ _ _
                  refine G_ws (ws' := [(q4658, .inr (14, [.ref q4659, .int p4661, .int 0, .int o4671, .int p4664])), (q4659, .inr (15, [.ref q4660, .int p4665])), (q4660, .inl (I .byte, 8192, .inl f4666))]) (cs' := 0) (sl' := 0) rfl rfl rfl ?_
                  refine G_if_eq 188 d_cX9_advance_178 (by decide +kernel) (fun hc => absurd hc (by decide)) (fun _ => ?_)
                  refine G_aload_n 3 d_cX9_advance_181 rfl ?_
                  refine G_callV (As := []) (wr := []) (gV_ok D I) (ct_3805_Signs_takeWord l hl0 D I q4658 q4659 q4660 p4661 0 o4671 p4664 p4665 f4666 (gB_w bp4665'' (by decide) (by decide)) bf4666 (by have qa0 : Int32.toInt 0 = 0 := (by decide); have qa1 : Int32.toInt 1 = 1 := (by decide); omega)) d_cX9_advance_182 ⟨w_3_48, w_1_4, w_3_51, by decide, rfl, (Nat.le_of_ble_eq_true rfl), (Nat.le_of_ble_eq_true rfl)⟩ w_3_50 w_p_4 0 rfl rfl [0, 1, 2] [] rfl rfl rfl rfl (by decide) (Nat.le_of_ble_eq_true rfl) (Nat.le_of_ble_eq_true rfl) (Nat.le_of_ble_eq_true rfl) (fun r w hp => ?_) (fun _ _ _ z => z.elim)
                  obtain ⟨o4866, o4867, rfl, rfl, bo4866, bo4867, x4868⟩ := hp
                  rw [show Int32.toInt 0 = 0 from by decide] at x4868
                  change G _ _ _ _ _ _ _ _ _ _ _
                  refine G_ws (ws' := [(q4658, .inr (14, [.ref q4659, .int o4866, .int 0, .int o4671, .int o4867])), (q4659, .inr (15, [.ref q4660, .int p4665])), (q4660, .inl (I .byte, 8192, .inl f4666))]) (cs' := 0) (sl' := 0) rfl rfl rfl ?_
                  refine G_goto 194 d_cX9_advance_185 (by decide +kernel) ?_
                  exact G_vret d_cX9_advance_194 rfl (Nat.le_of_ble_eq_true rfl) (Nat.le_of_ble_eq_true rfl) ⟨o4866, 0, o4671, o4867, rfl, rfl, bo4866, (gB_w (gBl (show Int32.toInt 0 = 0 by decide)) (by decide) (by decide)), (gB_w bo4671'' (by decide) (by decide)), bo4867, (by have qa0 : Int32.toInt 0 = 0 := (by decide); have qa1 : Int32.toInt 1 = 1 := (by decide); omega)⟩
              · have r4702' : gB z4699 48 255 := ⟨by omega, by omega⟩
                have r4702'' : gB z4699 58 255 := ⟨by omega, by omega⟩
                change G _ _ _ _ _ _ _ (.int 0 :: _) _ _ _
                refine G_ws (ws' := [(q4658, .inr (14, [.ref q4659, .int p4661, .int 0, .int o4671, .int p4664])), (q4659, .inr (15, [.ref q4660, .int p4665])), (q4660, .inl (I .byte, 8192, .inl f4666))]) (cs' := 0) (sl' := 0) rfl rfl rfl ?_
                refine G_if_eq 174 d_cX9_advance_161 (by decide +kernel) (fun _ => ?_) (fun hc => absurd hc (by decide))
                refine G_iload_n 1 d_cX9_advance_174 rfl ?_
                refine G_callS (As := [.int z4675]) (wr := [(q4658, .inr (14, [.ref q4659, .int p4661, .int 0, .int o4671, .int p4664])), (q4659, .inr (15, [.ref q4660, .int p4665])), (q4660, .inl (I .byte, 8192, .inl f4666))]) (gV_ok D I) (ct_312_Signs_isLetter l hl0 D I z4675 ) d_cX9_advance_175 ⟨w_3_45, w_1_4, w_3_47, by decide, rfl, (Nat.le_of_ble_eq_true rfl), (Nat.le_of_ble_eq_true rfl)⟩ w_3_46 [] [0, 1, 2] rfl rfl rfl rfl (by decide) (Nat.le_of_ble_eq_true rfl) (Nat.le_of_ble_eq_true rfl) (Nat.le_of_ble_eq_true rfl) (fun r w hp => ?_) (fun _ _ _ z => z.elim)
                rcases hp with ⟨rfl, rfl, r4869⟩ | ⟨rfl, rfl, r4870, r4871⟩ | ⟨rfl, rfl, r4872, r4873⟩
                · exact absurd (show False by omega) not_false
                · exact absurd (show False by omega) not_false
                · change G _ _ _ _ _ _ _ (.int 1 :: _) _ _ _
                  refine G_ws (ws' := [(q4658, .inr (14, [.ref q4659, .int p4661, .int 0, .int o4671, .int p4664])), (q4659, .inr (15, [.ref q4660, .int p4665])), (q4660, .inl (I .byte, 8192, .inl f4666))]) (cs' := 0) (sl' := 0) rfl rfl rfl ?_
                  refine G_if_eq 188 d_cX9_advance_178 (by decide +kernel) (fun hc => absurd hc (by decide)) (fun _ => ?_)
                  refine G_aload_n 3 d_cX9_advance_181 rfl ?_
                  refine G_callV (As := []) (wr := []) (gV_ok D I) (ct_3805_Signs_takeWord l hl0 D I q4658 q4659 q4660 p4661 0 o4671 p4664 p4665 f4666 (gB_w bp4665'' (by decide) (by decide)) bf4666 (by have qa0 : Int32.toInt 0 = 0 := (by decide); have qa1 : Int32.toInt 1 = 1 := (by decide); omega)) d_cX9_advance_182 ⟨w_3_48, w_1_4, w_3_51, by decide, rfl, (Nat.le_of_ble_eq_true rfl), (Nat.le_of_ble_eq_true rfl)⟩ w_3_50 w_p_4 0 rfl rfl [0, 1, 2] [] rfl rfl rfl rfl (by decide) (Nat.le_of_ble_eq_true rfl) (Nat.le_of_ble_eq_true rfl) (Nat.le_of_ble_eq_true rfl) (fun r w hp => ?_) (fun _ _ _ z => z.elim)
                  obtain ⟨o4874, o4875, rfl, rfl, bo4874, bo4875, x4876⟩ := hp
                  rw [show Int32.toInt 0 = 0 from by decide] at x4876
                  change G _ _ _ _ _ _ _ _ _ _ _
                  refine G_ws (ws' := [(q4658, .inr (14, [.ref q4659, .int o4874, .int 0, .int o4671, .int o4875])), (q4659, .inr (15, [.ref q4660, .int p4665])), (q4660, .inl (I .byte, 8192, .inl f4666))]) (cs' := 0) (sl' := 0) rfl rfl rfl ?_
                  refine G_goto 194 d_cX9_advance_185 (by decide +kernel) ?_
                  exact G_vret d_cX9_advance_194 rfl (Nat.le_of_ble_eq_true rfl) (Nat.le_of_ble_eq_true rfl) ⟨o4874, 0, o4671, o4875, rfl, rfl, bo4874, (gB_w (gBl (show Int32.toInt 0 = 0 by decide)) (by decide) (by decide)), (gB_w bo4671'' (by decide) (by decide)), bo4875, (by have qa0 : Int32.toInt 0 = 0 := (by decide); have qa1 : Int32.toInt 1 = 1 := (by decide); omega)⟩
              · have r4702' : gB z4699 48 255 := ⟨by omega, by omega⟩
                have r4702'' : gB z4699 48 57 := ⟨by omega, by omega⟩
                change G _ _ _ _ _ _ _ (.int 1 :: _) _ _ _
                refine G_ws (ws' := [(q4658, .inr (14, [.ref q4659, .int p4661, .int 0, .int o4671, .int p4664])), (q4659, .inr (15, [.ref q4660, .int p4665])), (q4660, .inl (I .byte, 8192, .inl f4666))]) (cs' := 0) (sl' := 0) rfl rfl rfl ?_
                refine G_if_eq 174 d_cX9_advance_161 (by decide +kernel) (fun hc => absurd hc (by decide)) (fun _ => ?_)
                refine G_aload_n 3 d_cX9_advance_164 rfl ?_
                refine G_iconst 3 d_cX9_advance_165 (by decide +kernel) ?_
                refine G_bipush 40 d_cX9_advance_166 (by decide +kernel) ?_
                refine G_callV (As := [.int 3, .int 40]) (wr := []) (gV_ok D I) (ct_665_Signs_takeNamed l hl0 D I q4658 q4659 q4660 3 40 p4661 0 o4671 p4664 p4665 f4666 (gB_w (gBl (show Int32.toInt 3 = 3 by decide)) (by decide) (by decide)) (gB_w bp4665'' (by decide) (by decide)) bf4666 (by have qa0 : Int32.toInt 0 = 0 := (by decide); have qa1 : Int32.toInt 1 = 1 := (by decide); have qa2 : Int32.toInt 3 = 3 := (by decide); have qa3 : Int32.toInt 40 = 40 := (by decide); omega)) d_cX9_advance_168 ⟨w_3_41, w_1_4, w_3_44, by decide, rfl, (Nat.le_of_ble_eq_true rfl), (Nat.le_of_ble_eq_true rfl)⟩ w_3_43 w_p_3 0 rfl rfl [0, 1, 2] [] rfl rfl rfl rfl (by decide) (Nat.le_of_ble_eq_true rfl) (Nat.le_of_ble_eq_true rfl) (Nat.le_of_ble_eq_true rfl) (fun r w hp => ?_) (fun _ _ _ z => z.elim)
                obtain ⟨o4877, o4878, o4879, rfl, rfl, bo4877, bo4878, bo4879, x4880⟩ := hp
                change G _ _ _ _ _ _ _ _ _ _ _
                refine G_ws (ws' := [(q4658, .inr (14, [.ref q4659, .int o4877, .int o4878, .int o4671, .int o4879])), (q4659, .inr (15, [.ref q4660, .int p4665])), (q4660, .inl (I .byte, 8192, .inl f4666))]) (cs' := 0) (sl' := 0) rfl rfl rfl ?_
                refine G_goto 194 d_cX9_advance_171 (by decide +kernel) ?_
                exact G_vret d_cX9_advance_194 rfl (Nat.le_of_ble_eq_true rfl) (Nat.le_of_ble_eq_true rfl) ⟨o4877, o4878, o4671, o4879, rfl, rfl, (gB_w bo4877 (by decide) (by decide)), bo4878, (gB_w bo4671'' (by decide) (by decide)), bo4879, (by have qa0 : Int32.toInt 1 = 1 := (by decide); omega)⟩
          · have r4881 : z4675.toInt = 118 := gj_eq hc4835 (show Int32.toInt 118 = 118 by decide)
            have r4678''' : gB z4675 118 118 := ⟨by omega, by omega⟩
            refine G_iload_n 0 d_cX9_advance_134 rfl ?_
            refine G_callS (As := [.int z4699]) (wr := [(q4658, .inr (14, [.ref q4659, .int p4661, .int 0, .int o4671, .int p4664])), (q4659, .inr (15, [.ref q4660, .int p4665])), (q4660, .inl (I .byte, 8192, .inl f4666))]) (gV_ok D I) (ct_304_Signs_isDigit l hl0 D I z4699 ) d_cX9_advance_135 ⟨w_3_24, w_1_4, w_3_26, by decide, rfl, (Nat.le_of_ble_eq_true rfl), (Nat.le_of_ble_eq_true rfl)⟩ w_3_25 [] [0, 1, 2] rfl rfl rfl rfl (by decide) (Nat.le_of_ble_eq_true rfl) (Nat.le_of_ble_eq_true rfl) (Nat.le_of_ble_eq_true rfl) (fun r w hp => ?_) (fun _ _ _ z => z.elim)
            rcases hp with ⟨rfl, rfl, r4882⟩ | ⟨rfl, rfl, r4883, r4884⟩ | ⟨rfl, rfl, r4885, r4886⟩
            · have r4702' : gB z4699 0 47 := ⟨by omega, by omega⟩
              change G _ _ _ _ _ _ _ (.int 0 :: _) _ _ _
              refine G_ws (ws' := [(q4658, .inr (14, [.ref q4659, .int p4661, .int 0, .int o4671, .int p4664])), (q4659, .inr (15, [.ref q4660, .int p4665])), (q4660, .inl (I .byte, 8192, .inl f4666))]) (cs' := 0) (sl' := 0) rfl rfl rfl ?_
              refine G_if_eq 151 d_cX9_advance_138 (by decide +kernel) (fun _ => ?_) (fun hc => absurd hc (by decide))
              refine G_iload_n 1 d_cX9_advance_151 rfl ?_
              refine G_bipush 98 d_cX9_advance_152 (by decide +kernel) ?_
              refine G_icmp_ne 174 d_cX9_advance_154 (by decide +kernel) (fun _ => ?_) (fun hc => absurd (show False by have := gj_eq hc (show Int32.toInt 98 = 98 by decide); omega) not_false)
              refine G_iload_n 1 d_cX9_advance_174 rfl ?_
              refine G_callS (As := [.int z4675]) (wr := [(q4658, .inr (14, [.ref q4659, .int p4661, .int 0, .int o4671, .int p4664])), (q4659, .inr (15, [.ref q4660, .int p4665])), (q4660, .inl (I .byte, 8192, .inl f4666))]) (gV_ok D I) (ct_312_Signs_isLetter l hl0 D I z4675 ) d_cX9_advance_175 ⟨w_3_45, w_1_4, w_3_47, by decide, rfl, (Nat.le_of_ble_eq_true rfl), (Nat.le_of_ble_eq_true rfl)⟩ w_3_46 [] [0, 1, 2] rfl rfl rfl rfl (by decide) (Nat.le_of_ble_eq_true rfl) (Nat.le_of_ble_eq_true rfl) (Nat.le_of_ble_eq_true rfl) (fun r w hp => ?_) (fun _ _ _ z => z.elim)
              rcases hp with ⟨rfl, rfl, r4887⟩ | ⟨rfl, rfl, r4888, r4889⟩ | ⟨rfl, rfl, r4890, r4891⟩
              · exact absurd (show False by omega) not_false
              · exact absurd (show False by omega) not_false
              · change G _ _ _ _ _ _ _ (.int 1 :: _) _ _ _
                refine G_ws (ws' := [(q4658, .inr (14, [.ref q4659, .int p4661, .int 0, .int o4671, .int p4664])), (q4659, .inr (15, [.ref q4660, .int p4665])), (q4660, .inl (I .byte, 8192, .inl f4666))]) (cs' := 0) (sl' := 0) rfl rfl rfl ?_
                refine G_if_eq 188 d_cX9_advance_178 (by decide +kernel) (fun hc => absurd hc (by decide)) (fun _ => ?_)
                refine G_aload_n 3 d_cX9_advance_181 rfl ?_
                refine G_callV (As := []) (wr := []) (gV_ok D I) (ct_3805_Signs_takeWord l hl0 D I q4658 q4659 q4660 p4661 0 o4671 p4664 p4665 f4666 (gB_w bp4665'' (by decide) (by decide)) bf4666 (by have qa0 : Int32.toInt 0 = 0 := (by decide); have qa1 : Int32.toInt 1 = 1 := (by decide); omega)) d_cX9_advance_182 ⟨w_3_48, w_1_4, w_3_51, by decide, rfl, (Nat.le_of_ble_eq_true rfl), (Nat.le_of_ble_eq_true rfl)⟩ w_3_50 w_p_4 0 rfl rfl [0, 1, 2] [] rfl rfl rfl rfl (by decide) (Nat.le_of_ble_eq_true rfl) (Nat.le_of_ble_eq_true rfl) (Nat.le_of_ble_eq_true rfl) (fun r w hp => ?_) (fun _ _ _ z => z.elim)
                obtain ⟨o4892, o4893, rfl, rfl, bo4892, bo4893, x4894⟩ := hp
                rw [show Int32.toInt 0 = 0 from by decide] at x4894
                change G _ _ _ _ _ _ _ _ _ _ _
                refine G_ws (ws' := [(q4658, .inr (14, [.ref q4659, .int o4892, .int 0, .int o4671, .int o4893])), (q4659, .inr (15, [.ref q4660, .int p4665])), (q4660, .inl (I .byte, 8192, .inl f4666))]) (cs' := 0) (sl' := 0) rfl rfl rfl ?_
                refine G_goto 194 d_cX9_advance_185 (by decide +kernel) ?_
                exact G_vret d_cX9_advance_194 rfl (Nat.le_of_ble_eq_true rfl) (Nat.le_of_ble_eq_true rfl) ⟨o4892, 0, o4671, o4893, rfl, rfl, bo4892, (gB_w (gBl (show Int32.toInt 0 = 0 by decide)) (by decide) (by decide)), (gB_w bo4671'' (by decide) (by decide)), bo4893, (by have qa0 : Int32.toInt 0 = 0 := (by decide); have qa1 : Int32.toInt 1 = 1 := (by decide); omega)⟩
            · have r4702' : gB z4699 48 255 := ⟨by omega, by omega⟩
              have r4702'' : gB z4699 58 255 := ⟨by omega, by omega⟩
              change G _ _ _ _ _ _ _ (.int 0 :: _) _ _ _
              refine G_ws (ws' := [(q4658, .inr (14, [.ref q4659, .int p4661, .int 0, .int o4671, .int p4664])), (q4659, .inr (15, [.ref q4660, .int p4665])), (q4660, .inl (I .byte, 8192, .inl f4666))]) (cs' := 0) (sl' := 0) rfl rfl rfl ?_
              refine G_if_eq 151 d_cX9_advance_138 (by decide +kernel) (fun _ => ?_) (fun hc => absurd hc (by decide))
              refine G_iload_n 1 d_cX9_advance_151 rfl ?_
              refine G_bipush 98 d_cX9_advance_152 (by decide +kernel) ?_
              refine G_icmp_ne 174 d_cX9_advance_154 (by decide +kernel) (fun _ => ?_) (fun hc => absurd (show False by have := gj_eq hc (show Int32.toInt 98 = 98 by decide); omega) not_false)
              refine G_iload_n 1 d_cX9_advance_174 rfl ?_
              refine G_callS (As := [.int z4675]) (wr := [(q4658, .inr (14, [.ref q4659, .int p4661, .int 0, .int o4671, .int p4664])), (q4659, .inr (15, [.ref q4660, .int p4665])), (q4660, .inl (I .byte, 8192, .inl f4666))]) (gV_ok D I) (ct_312_Signs_isLetter l hl0 D I z4675 ) d_cX9_advance_175 ⟨w_3_45, w_1_4, w_3_47, by decide, rfl, (Nat.le_of_ble_eq_true rfl), (Nat.le_of_ble_eq_true rfl)⟩ w_3_46 [] [0, 1, 2] rfl rfl rfl rfl (by decide) (Nat.le_of_ble_eq_true rfl) (Nat.le_of_ble_eq_true rfl) (Nat.le_of_ble_eq_true rfl) (fun r w hp => ?_) (fun _ _ _ z => z.elim)
              rcases hp with ⟨rfl, rfl, r4895⟩ | ⟨rfl, rfl, r4896, r4897⟩ | ⟨rfl, rfl, r4898, r4899⟩
              · exact absurd (show False by omega) not_false
              · exact absurd (show False by omega) not_false
              · change G _ _ _ _ _ _ _ (.int 1 :: _) _ _ _
                refine G_ws (ws' := [(q4658, .inr (14, [.ref q4659, .int p4661, .int 0, .int o4671, .int p4664])), (q4659, .inr (15, [.ref q4660, .int p4665])), (q4660, .inl (I .byte, 8192, .inl f4666))]) (cs' := 0) (sl' := 0) rfl rfl rfl ?_
                refine G_if_eq 188 d_cX9_advance_178 (by decide +kernel) (fun hc => absurd hc (by decide)) (fun _ => ?_)
                refine G_aload_n 3 d_cX9_advance_181 rfl ?_
                refine G_callV (As := []) (wr := []) (gV_ok D I) (ct_3805_Signs_takeWord l hl0 D I q4658 q4659 q4660 p4661 0 o4671 p4664 p4665 f4666 (gB_w bp4665'' (by decide) (by decide)) bf4666 (by have qa0 : Int32.toInt 0 = 0 := (by decide); have qa1 : Int32.toInt 1 = 1 := (by decide); omega)) d_cX9_advance_182 ⟨w_3_48, w_1_4, w_3_51, by decide, rfl, (Nat.le_of_ble_eq_true rfl), (Nat.le_of_ble_eq_true rfl)⟩ w_3_50 w_p_4 0 rfl rfl [0, 1, 2] [] rfl rfl rfl rfl (by decide) (Nat.le_of_ble_eq_true rfl) (Nat.le_of_ble_eq_true rfl) (Nat.le_of_ble_eq_true rfl) (fun r w hp => ?_) (fun _ _ _ z => z.elim)
                obtain ⟨o4900, o4901, rfl, rfl, bo4900, bo4901, x4902⟩ := hp
                rw [show Int32.toInt 0 = 0 from by decide] at x4902
                change G _ _ _ _ _ _ _ _ _ _ _
                refine G_ws (ws' := [(q4658, .inr (14, [.ref q4659, .int o4900, .int 0, .int o4671, .int o4901])), (q4659, .inr (15, [.ref q4660, .int p4665])), (q4660, .inl (I .byte, 8192, .inl f4666))]) (cs' := 0) (sl' := 0) rfl rfl rfl ?_
                refine G_goto 194 d_cX9_advance_185 (by decide +kernel) ?_
                exact G_vret d_cX9_advance_194 rfl (Nat.le_of_ble_eq_true rfl) (Nat.le_of_ble_eq_true rfl) ⟨o4900, 0, o4671, o4901, rfl, rfl, bo4900, (gB_w (gBl (show Int32.toInt 0 = 0 by decide)) (by decide) (by decide)), (gB_w bo4671'' (by decide) (by decide)), bo4901, (by have qa0 : Int32.toInt 0 = 0 := (by decide); have qa1 : Int32.toInt 1 = 1 := (by decide); omega)⟩
            · have r4702' : gB z4699 48 255 := ⟨by omega, by omega⟩
              have r4702'' : gB z4699 48 57 := ⟨by omega, by omega⟩
              change G _ _ _ _ _ _ _ (.int 1 :: _) _ _ _
              refine G_ws (ws' := [(q4658, .inr (14, [.ref q4659, .int p4661, .int 0, .int o4671, .int p4664])), (q4659, .inr (15, [.ref q4660, .int p4665])), (q4660, .inl (I .byte, 8192, .inl f4666))]) (cs' := 0) (sl' := 0) rfl rfl rfl ?_
              refine G_if_eq 151 d_cX9_advance_138 (by decide +kernel) (fun hc => absurd hc (by decide)) (fun _ => ?_)
              refine G_aload_n 3 d_cX9_advance_141 rfl ?_
              refine G_iconst 2 d_cX9_advance_142 (by decide +kernel) ?_
              refine G_bipush 100 d_cX9_advance_143 (by decide +kernel) ?_
              refine G_callV (As := [.int 2, .int 100]) (wr := []) (gV_ok D I) (ct_665_Signs_takeNamed l hl0 D I q4658 q4659 q4660 2 100 p4661 0 o4671 p4664 p4665 f4666 (gB_w (gBl (show Int32.toInt 2 = 2 by decide)) (by decide) (by decide)) (gB_w bp4665'' (by decide) (by decide)) bf4666 (by have qa0 : Int32.toInt 0 = 0 := (by decide); have qa1 : Int32.toInt 1 = 1 := (by decide); have qa2 : Int32.toInt 2 = 2 := (by decide); have qa3 : Int32.toInt 100 = 100 := (by decide); omega)) d_cX9_advance_145 ⟨w_3_41, w_1_4, w_3_44, by decide, rfl, (Nat.le_of_ble_eq_true rfl), (Nat.le_of_ble_eq_true rfl)⟩ w_3_43 w_p_3 0 rfl rfl [0, 1, 2] [] rfl rfl rfl rfl (by decide) (Nat.le_of_ble_eq_true rfl) (Nat.le_of_ble_eq_true rfl) (Nat.le_of_ble_eq_true rfl) (fun r w hp => ?_) (fun _ _ _ z => z.elim)
              obtain ⟨o4903, o4904, o4905, rfl, rfl, bo4903, bo4904, bo4905, x4906⟩ := hp
              change G _ _ _ _ _ _ _ _ _ _ _
              refine G_ws (ws' := [(q4658, .inr (14, [.ref q4659, .int o4903, .int o4904, .int o4671, .int o4905])), (q4659, .inr (15, [.ref q4660, .int p4665])), (q4660, .inl (I .byte, 8192, .inl f4666))]) (cs' := 0) (sl' := 0) rfl rfl rfl ?_
              refine G_goto 194 d_cX9_advance_148 (by decide +kernel) ?_
              exact G_vret d_cX9_advance_194 rfl (Nat.le_of_ble_eq_true rfl) (Nat.le_of_ble_eq_true rfl) ⟨o4903, o4904, o4671, o4905, rfl, rfl, (gB_w bo4903 (by decide) (by decide)), bo4904, (gB_w bo4671'' (by decide) (by decide)), bo4905, (by have qa0 : Int32.toInt 1 = 1 := (by decide); omega)⟩
        · have r4678' : gB z4675 48 255 := ⟨by omega, by omega⟩
          have r4678'' : gB z4675 48 57 := ⟨by omega, by omega⟩
          change G _ _ _ _ _ _ _ (.int 1 :: _) _ _ _
          refine G_ws (ws' := [(q4658, .inr (14, [.ref q4659, .int p4661, .int 0, .int o4671, .int p4664])), (q4659, .inr (15, [.ref q4660, .int p4665])), (q4660, .inl (I .byte, 8192, .inl f4666))]) (cs' := 0) (sl' := 0) rfl rfl rfl ?_
          refine G_if_ne 110 d_cX9_advance_90 (by decide +kernel) (fun _ => ?_) (fun hc => absurd hc (by decide))
          refine G_aload_n 3 d_cX9_advance_110 rfl ?_
          refine G_iload_n 1 d_cX9_advance_111 rfl ?_
          refine G_bipush 45 d_cX9_advance_112 (by decide +kernel) ?_
          refine G_icmp_ne 121 d_cX9_advance_114 (by decide +kernel) (fun _ => ?_) (fun hc => absurd (show False by have := gj_eq hc (show Int32.toInt 45 = 45 by decide); omega) not_false)
          refine G_iconst 0 d_cX9_advance_121 (by decide +kernel) ?_
          refine G_callV (As := [.int 0]) (wr := []) (gV_ok D I) (ct_628_Signs_takeNumber l hl0 D I q4658 q4659 q4660 0 p4661 0 o4671 p4664 p4665 f4666 (gB_w (gBl (show Int32.toInt 0 = 0 by decide)) (by decide) (by decide)) (gB_w bp4665'' (by decide) (by decide)) bf4666 (by have qa0 : Int32.toInt 0 = 0 := (by decide); have qa1 : Int32.toInt 1 = 1 := (by decide); omega)) d_cX9_advance_122 ⟨w_3_27, w_1_4, w_3_30, by decide, rfl, (Nat.le_of_ble_eq_true rfl), (Nat.le_of_ble_eq_true rfl)⟩ w_3_29 w_p_1 0 rfl rfl [0, 1, 2] [] rfl rfl rfl rfl (by decide) (Nat.le_of_ble_eq_true rfl) (Nat.le_of_ble_eq_true rfl) (Nat.le_of_ble_eq_true rfl) (fun r w hp => ?_) (fun _ _ _ z => z.elim)
          obtain ⟨o4907, o4908, o4909, rfl, rfl, bo4907, bo4908, bo4909, x4910⟩ := hp
          change G _ _ _ _ _ _ _ _ _ _ _
          refine G_ws (ws' := [(q4658, .inr (14, [.ref q4659, .int o4907, .int o4908, .int o4671, .int o4909])), (q4659, .inr (15, [.ref q4660, .int p4665])), (q4660, .inl (I .byte, 8192, .inl f4666))]) (cs' := 0) (sl' := 0) rfl rfl rfl ?_
          refine G_goto 194 d_cX9_advance_125 (by decide +kernel) ?_
          exact G_vret d_cX9_advance_194 rfl (Nat.le_of_ble_eq_true rfl) (Nat.le_of_ble_eq_true rfl) ⟨o4907, o4908, o4671, o4909, rfl, rfl, (gB_w bo4907 (by decide) (by decide)), bo4908, (gB_w bo4671'' (by decide) (by decide)), bo4909, (by have qa0 : Int32.toInt 1 = 1 := (by decide); omega)⟩
  · have r4911 : p4661.toInt ≠ 2 := gj_neq hc4669 (show Int32.toInt 2 = 2 by decide)
    refine G_aload_n 0 d_cX9_advance_8 rfl ?_
    refine G_getf 0 1 d_cX9_advance_9 rfl (gk_X9 D I) (Nat.le_of_ble_eq_true rfl) w_1_80 rfl ?_
    refine G_iconst 4 d_cX9_advance_12 (by decide +kernel) ?_
    refine G_icmp_ne 20 d_cX9_advance_13 (by decide +kernel) (fun hc4912 => ?_) (fun hc4912 => ?_)
    · have r4913 : p4661.toInt ≠ 4 := gj_neq hc4912 (show Int32.toInt 4 = 4 by decide)
      refine G_iconst 0 d_cX9_advance_20 (by decide +kernel) ?_
      refine G_istore_n (L' := [(1, .int 0), (0, .ref q4658)]) d_cX9_advance_21 (Nat.le_of_ble_eq_true rfl) rfl ?_
      refine G_aload_n 1 d_cX9_advance_22 rfl ?_
      refine G_aload_n 1 d_cX9_advance_23 rfl ?_
      refine G_aload_n 1 d_cX9_advance_24 rfl ?_
      refine G_getf 0 4 d_cX9_advance_25 rfl (gk_X9 D I) (Nat.le_of_ble_eq_true rfl) w_1_83 rfl ?_
      refine G_callV (As := [.int p4664]) (wr := []) (gV_ok D I) (ct_330_Signs_skipBlanks l hl0 D I q4658 q4659 q4660 p4664 p4661 p4662 p4663 p4664 p4665 f4666 bp4665 bf4666 (by have qa0 : Int32.toInt 0 = 0 := (by decide); omega)) d_cX9_advance_28 ⟨w_3_12, w_1_4, w_3_15, by decide, rfl, (Nat.le_of_ble_eq_true rfl), (Nat.le_of_ble_eq_true rfl)⟩ w_3_14 w_p_0 0 rfl rfl [0, 1, 2] [] rfl rfl rfl rfl (by decide) (Nat.le_of_ble_eq_true rfl) (Nat.le_of_ble_eq_true rfl) (Nat.le_of_ble_eq_true rfl) (fun r w hp => ?_) (fun _ _ _ z => z.elim)
      obtain ⟨o4914, rfl, rfl, bo4914⟩ := hp
      change G _ _ _ _ _ _ _ (.int o4914 :: _) _ _ _
      refine G_ws (ws' := [(q4658, .inr (14, [.ref q4659, .int p4661, .int p4662, .int p4663, .int p4664])), (q4659, .inr (15, [.ref q4660, .int p4665])), (q4660, .inl (I .byte, 8192, .inl f4666))]) (cs' := 0) (sl' := 0) rfl rfl rfl ?_
      refine G_putf (ws' := [(q4658, .inr (14, [.ref q4659, .int p4661, .int p4662, .int o4914, .int p4664])), (q4659, .inr (15, [.ref q4660, .int p4665])), (q4660, .inl (I .byte, 8192, .inl f4666))]) 0 3 d_cX9_advance_31 rfl (gk_X9 D I) (Nat.le_of_ble_eq_true rfl) w_1_82 rfl rfl rfl (Nat.le_of_ble_eq_true rfl) rfl ?_
      refine G_aload_n 1 d_cX9_advance_34 rfl ?_
      refine G_getf 0 0 d_cX9_advance_35 rfl (gk_X9 D I) (Nat.le_of_ble_eq_true rfl) w_1_79 rfl ?_
      refine G_aload_n 1 d_cX9_advance_38 rfl ?_
      refine G_getf 0 3 d_cX9_advance_39 rfl (gk_X9 D I) (Nat.le_of_ble_eq_true rfl) w_1_82 rfl ?_
      refine G_callV (As := [.int o4914]) (wr := [(q4658, .inr (14, [.ref q4659, .int p4661, .int p4662, .int o4914, .int p4664]))]) (gV_ok D I) (ct_31_Tape_byteAt l hl0 D I q4659 q4660 o4914 p4665 f4666 bp4665 bf4666) d_cX9_advance_42 ⟨w_3_20, w_1_2, w_3_23, by decide, rfl, (Nat.le_of_ble_eq_true rfl), (Nat.le_of_ble_eq_true rfl)⟩ w_3_21 w_3_22 1 rfl rfl [1, 2] [0] rfl rfl rfl rfl (by decide) (Nat.le_of_ble_eq_true rfl) (Nat.le_of_ble_eq_true rfl) (Nat.le_of_ble_eq_true rfl) (fun r w hp => ?_) (fun _ _ _ z => z.elim)
      rcases hp with ⟨rfl, rfl, r4915⟩ | ⟨rfl, rfl, r4916, r4917⟩ | ⟨z4918, rfl, rfl, r4919, r4920, r4921⟩
      · have bo4914' : gB o4914 (-2147483648) (-1) := ⟨by omega, by omega⟩
        change G _ _ _ _ _ _ _ (.int (-1) :: _) _ _ _
        refine G_ws (ws' := [(q4658, .inr (14, [.ref q4659, .int p4661, .int p4662, .int o4914, .int p4664])), (q4659, .inr (15, [.ref q4660, .int p4665])), (q4660, .inl (I .byte, 8192, .inl f4666))]) (cs' := 0) (sl' := 0) rfl rfl rfl ?_
        refine G_istore_n (L' := [(2, .int (-1)), (1, .int 0), (0, .ref q4658)]) d_cX9_advance_45 (Nat.le_of_ble_eq_true rfl) rfl ?_
        refine G_aload_n 2 d_cX9_advance_46 rfl ?_
        refine G_getf 0 0 d_cX9_advance_47 rfl (gk_X9 D I) (Nat.le_of_ble_eq_true rfl) w_1_79 rfl ?_
        refine G_aload_n 2 d_cX9_advance_50 rfl ?_
        refine G_getf 0 3 d_cX9_advance_51 rfl (gk_X9 D I) (Nat.le_of_ble_eq_true rfl) w_1_82 rfl ?_
        refine G_iconst 1 d_cX9_advance_54 (by decide +kernel) ?_
        refine G_iadd d_cX9_advance_55 (G_nam fun z4922 hz4922 => ?_)
        have ez4922 : z4922.toInt = o4914.toInt + 1 := by rw [gI_add hz4922 bo4914' (gBl (show Int32.toInt 1 = 1 by decide)) (by decide) (by decide), show Int32.toInt 1 = 1 from by decide]
        have bz4922 : gB z4922 (-2147483647) 0 := gB_add (gI_add hz4922 bo4914' (gBl (show Int32.toInt 1 = 1 by decide)) (by decide) (by decide)) bo4914' (gBl (show Int32.toInt 1 = 1 by decide)) (by decide) (by decide)
        refine G_callV (As := [.int z4922]) (wr := [(q4658, .inr (14, [.ref q4659, .int p4661, .int p4662, .int o4914, .int p4664]))]) (gV_ok D I) (ct_31_Tape_byteAt l hl0 D I q4659 q4660 z4922 p4665 f4666 bp4665 bf4666) d_cX9_advance_56 ⟨w_3_20, w_1_2, w_3_23, by decide, rfl, (Nat.le_of_ble_eq_true rfl), (Nat.le_of_ble_eq_true rfl)⟩ w_3_21 w_3_22 1 rfl rfl [1, 2] [0] rfl rfl rfl rfl (by decide) (Nat.le_of_ble_eq_true rfl) (Nat.le_of_ble_eq_true rfl) (Nat.le_of_ble_eq_true rfl) (fun r w hp => ?_) (fun _ _ _ z => z.elim)
        rcases hp with ⟨rfl, rfl, r4923⟩ | ⟨rfl, rfl, r4924, r4925⟩ | ⟨z4926, rfl, rfl, r4927, r4928, r4929⟩
        · have bz4922' : gB z4922 (-2147483647) (-1) := ⟨by omega, by omega⟩
          change G _ _ _ _ _ _ _ (.int (-1) :: _) _ _ _
          refine G_ws (ws' := [(q4658, .inr (14, [.ref q4659, .int p4661, .int p4662, .int o4914, .int p4664])), (q4659, .inr (15, [.ref q4660, .int p4665])), (q4660, .inl (I .byte, 8192, .inl f4666))]) (cs' := 0) (sl' := 0) rfl rfl rfl ?_
          refine G_istore_n (L' := [(3, .int (-1)), (2, .int (-1)), (1, .int 0), (0, .ref q4658)]) d_cX9_advance_59 (Nat.le_of_ble_eq_true rfl) rfl ?_
          refine G_aload_n 3 d_cX9_advance_60 rfl ?_
          refine G_iconst 0 d_cX9_advance_61 (by decide +kernel) ?_
          refine G_putf (ws' := [(q4658, .inr (14, [.ref q4659, .int p4661, .int 0, .int o4914, .int p4664])), (q4659, .inr (15, [.ref q4660, .int p4665])), (q4660, .inl (I .byte, 8192, .inl f4666))]) 0 2 d_cX9_advance_62 rfl (gk_X9 D I) (Nat.le_of_ble_eq_true rfl) w_1_81 rfl rfl rfl (Nat.le_of_ble_eq_true rfl) rfl ?_
          refine G_iload_n 1 d_cX9_advance_65 rfl ?_
          refine G_iconst (-1) d_cX9_advance_66 (by decide +kernel) ?_
          refine G_icmp_ne 86 d_cX9_advance_67 (by decide +kernel) (fun hc => absurd hc (by decide)) (fun _ => ?_)
          refine G_aload_n 3 d_cX9_advance_70 rfl ?_
          refine G_iconst 1 d_cX9_advance_71 (by decide +kernel) ?_
          refine G_putf (ws' := [(q4658, .inr (14, [.ref q4659, .int 1, .int 0, .int o4914, .int p4664])), (q4659, .inr (15, [.ref q4660, .int p4665])), (q4660, .inl (I .byte, 8192, .inl f4666))]) 0 1 d_cX9_advance_72 rfl (gk_X9 D I) (Nat.le_of_ble_eq_true rfl) w_1_80 rfl rfl rfl (Nat.le_of_ble_eq_true rfl) rfl ?_
          refine G_aload_n 3 d_cX9_advance_75 rfl ?_
          refine G_aload_n 3 d_cX9_advance_76 rfl ?_
          refine G_getf 0 3 d_cX9_advance_77 rfl (gk_X9 D I) (Nat.le_of_ble_eq_true rfl) w_1_82 rfl ?_
          refine G_putf (ws' := [(q4658, .inr (14, [.ref q4659, .int 1, .int 0, .int o4914, .int o4914])), (q4659, .inr (15, [.ref q4660, .int p4665])), (q4660, .inl (I .byte, 8192, .inl f4666))]) 0 4 d_cX9_advance_80 rfl (gk_X9 D I) (Nat.le_of_ble_eq_true rfl) w_1_83 rfl rfl rfl (Nat.le_of_ble_eq_true rfl) rfl ?_
          refine G_goto 194 d_cX9_advance_83 (by decide +kernel) ?_
          exact G_vret d_cX9_advance_194 rfl (Nat.le_of_ble_eq_true rfl) (Nat.le_of_ble_eq_true rfl) ⟨1, 0, o4914, o4914, rfl, rfl, (gB_w (gBl (show Int32.toInt 1 = 1 by decide)) (by decide) (by decide)), (gB_w (gBl (show Int32.toInt 0 = 0 by decide)) (by decide) (by decide)), (gB_w bo4914' (by decide) (by decide)), (gB_w bo4914' (by decide) (by decide)), (by have qa0 : Int32.toInt (-1) = (-1) := (by decide); have qa1 : Int32.toInt 0 = 0 := (by decide); have qa2 : Int32.toInt 1 = 1 := (by decide); omega)⟩
        · have bz4922' : gB z4922 0 0 := ⟨by omega, by omega⟩
          have bp4665' : gB p4665 0 0 := ⟨by omega, by omega⟩
          change G _ _ _ _ _ _ _ (.int (-1) :: _) _ _ _
          refine G_ws (ws' := [(q4658, .inr (14, [.ref q4659, .int p4661, .int p4662, .int o4914, .int p4664])), (q4659, .inr (15, [.ref q4660, .int p4665])), (q4660, .inl (I .byte, 8192, .inl f4666))]) (cs' := 0) (sl' := 0) rfl rfl rfl ?_
          refine G_istore_n (L' := [(3, .int (-1)), (2, .int (-1)), (1, .int 0), (0, .ref q4658)]) d_cX9_advance_59 (Nat.le_of_ble_eq_true rfl) rfl ?_
          refine G_aload_n 3 d_cX9_advance_60 rfl ?_
          refine G_iconst 0 d_cX9_advance_61 (by decide +kernel) ?_
          refine G_putf (ws' := [(q4658, .inr (14, [.ref q4659, .int p4661, .int 0, .int o4914, .int p4664])), (q4659, .inr (15, [.ref q4660, .int p4665])), (q4660, .inl (I .byte, 8192, .inl f4666))]) 0 2 d_cX9_advance_62 rfl (gk_X9 D I) (Nat.le_of_ble_eq_true rfl) w_1_81 rfl rfl rfl (Nat.le_of_ble_eq_true rfl) rfl ?_
          refine G_iload_n 1 d_cX9_advance_65 rfl ?_
          refine G_iconst (-1) d_cX9_advance_66 (by decide +kernel) ?_
          refine G_icmp_ne 86 d_cX9_advance_67 (by decide +kernel) (fun hc => absurd hc (by decide)) (fun _ => ?_)
          refine G_aload_n 3 d_cX9_advance_70 rfl ?_
          refine G_iconst 1 d_cX9_advance_71 (by decide +kernel) ?_
          refine G_putf (ws' := [(q4658, .inr (14, [.ref q4659, .int 1, .int 0, .int o4914, .int p4664])), (q4659, .inr (15, [.ref q4660, .int p4665])), (q4660, .inl (I .byte, 8192, .inl f4666))]) 0 1 d_cX9_advance_72 rfl (gk_X9 D I) (Nat.le_of_ble_eq_true rfl) w_1_80 rfl rfl rfl (Nat.le_of_ble_eq_true rfl) rfl ?_
          refine G_aload_n 3 d_cX9_advance_75 rfl ?_
          refine G_aload_n 3 d_cX9_advance_76 rfl ?_
          refine G_getf 0 3 d_cX9_advance_77 rfl (gk_X9 D I) (Nat.le_of_ble_eq_true rfl) w_1_82 rfl ?_
          refine G_putf (ws' := [(q4658, .inr (14, [.ref q4659, .int 1, .int 0, .int o4914, .int o4914])), (q4659, .inr (15, [.ref q4660, .int p4665])), (q4660, .inl (I .byte, 8192, .inl f4666))]) 0 4 d_cX9_advance_80 rfl (gk_X9 D I) (Nat.le_of_ble_eq_true rfl) w_1_83 rfl rfl rfl (Nat.le_of_ble_eq_true rfl) rfl ?_
          refine G_goto 194 d_cX9_advance_83 (by decide +kernel) ?_
          exact G_vret d_cX9_advance_194 rfl (Nat.le_of_ble_eq_true rfl) (Nat.le_of_ble_eq_true rfl) ⟨1, 0, o4914, o4914, rfl, rfl, (gB_w (gBl (show Int32.toInt 1 = 1 by decide)) (by decide) (by decide)), (gB_w (gBl (show Int32.toInt 0 = 0 by decide)) (by decide) (by decide)), (gB_w bo4914' (by decide) (by decide)), (gB_w bo4914' (by decide) (by decide)), (by have qa0 : Int32.toInt (-1) = (-1) := (by decide); have qa1 : Int32.toInt 0 = 0 := (by decide); have qa2 : Int32.toInt 1 = 1 := (by decide); omega)⟩
        · have bz4922' : gB z4922 0 0 := ⟨by omega, by omega⟩
          have bp4665' : gB p4665 1 8192 := ⟨by omega, by omega⟩
          change G _ _ _ _ _ _ _ (.int z4926 :: _) _ _ _
          refine G_ws (ws' := [(q4658, .inr (14, [.ref q4659, .int p4661, .int p4662, .int o4914, .int p4664])), (q4659, .inr (15, [.ref q4660, .int p4665])), (q4660, .inl (I .byte, 8192, .inl f4666))]) (cs' := 0) (sl' := 0) rfl rfl rfl ?_
          refine G_istore_n (L' := [(3, .int z4926), (2, .int (-1)), (1, .int 0), (0, .ref q4658)]) d_cX9_advance_59 (Nat.le_of_ble_eq_true rfl) rfl ?_
          refine G_aload_n 3 d_cX9_advance_60 rfl ?_
          refine G_iconst 0 d_cX9_advance_61 (by decide +kernel) ?_
          refine G_putf (ws' := [(q4658, .inr (14, [.ref q4659, .int p4661, .int 0, .int o4914, .int p4664])), (q4659, .inr (15, [.ref q4660, .int p4665])), (q4660, .inl (I .byte, 8192, .inl f4666))]) 0 2 d_cX9_advance_62 rfl (gk_X9 D I) (Nat.le_of_ble_eq_true rfl) w_1_81 rfl rfl rfl (Nat.le_of_ble_eq_true rfl) rfl ?_
          refine G_iload_n 1 d_cX9_advance_65 rfl ?_
          refine G_iconst (-1) d_cX9_advance_66 (by decide +kernel) ?_
          refine G_icmp_ne 86 d_cX9_advance_67 (by decide +kernel) (fun hc => absurd hc (by decide)) (fun _ => ?_)
          refine G_aload_n 3 d_cX9_advance_70 rfl ?_
          refine G_iconst 1 d_cX9_advance_71 (by decide +kernel) ?_
          refine G_putf (ws' := [(q4658, .inr (14, [.ref q4659, .int 1, .int 0, .int o4914, .int p4664])), (q4659, .inr (15, [.ref q4660, .int p4665])), (q4660, .inl (I .byte, 8192, .inl f4666))]) 0 1 d_cX9_advance_72 rfl (gk_X9 D I) (Nat.le_of_ble_eq_true rfl) w_1_80 rfl rfl rfl (Nat.le_of_ble_eq_true rfl) rfl ?_
          refine G_aload_n 3 d_cX9_advance_75 rfl ?_
          refine G_aload_n 3 d_cX9_advance_76 rfl ?_
          refine G_getf 0 3 d_cX9_advance_77 rfl (gk_X9 D I) (Nat.le_of_ble_eq_true rfl) w_1_82 rfl ?_
          refine G_putf (ws' := [(q4658, .inr (14, [.ref q4659, .int 1, .int 0, .int o4914, .int o4914])), (q4659, .inr (15, [.ref q4660, .int p4665])), (q4660, .inl (I .byte, 8192, .inl f4666))]) 0 4 d_cX9_advance_80 rfl (gk_X9 D I) (Nat.le_of_ble_eq_true rfl) w_1_83 rfl rfl rfl (Nat.le_of_ble_eq_true rfl) rfl ?_
          refine G_goto 194 d_cX9_advance_83 (by decide +kernel) ?_
          exact G_vret d_cX9_advance_194 rfl (Nat.le_of_ble_eq_true rfl) (Nat.le_of_ble_eq_true rfl) ⟨1, 0, o4914, o4914, rfl, rfl, (gB_w (gBl (show Int32.toInt 1 = 1 by decide)) (by decide) (by decide)), (gB_w (gBl (show Int32.toInt 0 = 0 by decide)) (by decide) (by decide)), (gB_w bo4914' (by decide) (by decide)), (gB_w bo4914' (by decide) (by decide)), (by have qa0 : Int32.toInt (-1) = (-1) := (by decide); have qa1 : Int32.toInt 0 = 0 := (by decide); have qa2 : Int32.toInt 1 = 1 := (by decide); omega)⟩
      · have bo4914' : gB o4914 0 8192 := ⟨by omega, by omega⟩
        change G _ _ _ _ _ _ _ (.int (-1) :: _) _ _ _
        refine G_ws (ws' := [(q4658, .inr (14, [.ref q4659, .int p4661, .int p4662, .int o4914, .int p4664])), (q4659, .inr (15, [.ref q4660, .int p4665])), (q4660, .inl (I .byte, 8192, .inl f4666))]) (cs' := 0) (sl' := 0) rfl rfl rfl ?_
        refine G_istore_n (L' := [(2, .int (-1)), (1, .int 0), (0, .ref q4658)]) d_cX9_advance_45 (Nat.le_of_ble_eq_true rfl) rfl ?_
        refine G_aload_n 2 d_cX9_advance_46 rfl ?_
        refine G_getf 0 0 d_cX9_advance_47 rfl (gk_X9 D I) (Nat.le_of_ble_eq_true rfl) w_1_79 rfl ?_
        refine G_aload_n 2 d_cX9_advance_50 rfl ?_
        refine G_getf 0 3 d_cX9_advance_51 rfl (gk_X9 D I) (Nat.le_of_ble_eq_true rfl) w_1_82 rfl ?_
        refine G_iconst 1 d_cX9_advance_54 (by decide +kernel) ?_
        refine G_iadd d_cX9_advance_55 (G_nam fun z4930 hz4930 => ?_)
        have ez4930 : z4930.toInt = o4914.toInt + 1 := by rw [gI_add hz4930 bo4914' (gBl (show Int32.toInt 1 = 1 by decide)) (by decide) (by decide), show Int32.toInt 1 = 1 from by decide]
        have bz4930 : gB z4930 1 8193 := gB_add (gI_add hz4930 bo4914' (gBl (show Int32.toInt 1 = 1 by decide)) (by decide) (by decide)) bo4914' (gBl (show Int32.toInt 1 = 1 by decide)) (by decide) (by decide)
        refine G_callV (As := [.int z4930]) (wr := [(q4658, .inr (14, [.ref q4659, .int p4661, .int p4662, .int o4914, .int p4664]))]) (gV_ok D I) (ct_31_Tape_byteAt l hl0 D I q4659 q4660 z4930 p4665 f4666 bp4665 bf4666) d_cX9_advance_56 ⟨w_3_20, w_1_2, w_3_23, by decide, rfl, (Nat.le_of_ble_eq_true rfl), (Nat.le_of_ble_eq_true rfl)⟩ w_3_21 w_3_22 1 rfl rfl [1, 2] [0] rfl rfl rfl rfl (by decide) (Nat.le_of_ble_eq_true rfl) (Nat.le_of_ble_eq_true rfl) (Nat.le_of_ble_eq_true rfl) (fun r w hp => ?_) (fun _ _ _ z => z.elim)
        rcases hp with ⟨rfl, rfl, r4931⟩ | ⟨rfl, rfl, r4932, r4933⟩ | ⟨z4934, rfl, rfl, r4935, r4936, r4937⟩
        · exact absurd (show False by omega) not_false
        · change G _ _ _ _ _ _ _ (.int (-1) :: _) _ _ _
          refine G_ws (ws' := [(q4658, .inr (14, [.ref q4659, .int p4661, .int p4662, .int o4914, .int p4664])), (q4659, .inr (15, [.ref q4660, .int p4665])), (q4660, .inl (I .byte, 8192, .inl f4666))]) (cs' := 0) (sl' := 0) rfl rfl rfl ?_
          refine G_istore_n (L' := [(3, .int (-1)), (2, .int (-1)), (1, .int 0), (0, .ref q4658)]) d_cX9_advance_59 (Nat.le_of_ble_eq_true rfl) rfl ?_
          refine G_aload_n 3 d_cX9_advance_60 rfl ?_
          refine G_iconst 0 d_cX9_advance_61 (by decide +kernel) ?_
          refine G_putf (ws' := [(q4658, .inr (14, [.ref q4659, .int p4661, .int 0, .int o4914, .int p4664])), (q4659, .inr (15, [.ref q4660, .int p4665])), (q4660, .inl (I .byte, 8192, .inl f4666))]) 0 2 d_cX9_advance_62 rfl (gk_X9 D I) (Nat.le_of_ble_eq_true rfl) w_1_81 rfl rfl rfl (Nat.le_of_ble_eq_true rfl) rfl ?_
          refine G_iload_n 1 d_cX9_advance_65 rfl ?_
          refine G_iconst (-1) d_cX9_advance_66 (by decide +kernel) ?_
          refine G_icmp_ne 86 d_cX9_advance_67 (by decide +kernel) (fun hc => absurd hc (by decide)) (fun _ => ?_)
          refine G_aload_n 3 d_cX9_advance_70 rfl ?_
          refine G_iconst 1 d_cX9_advance_71 (by decide +kernel) ?_
          refine G_putf (ws' := [(q4658, .inr (14, [.ref q4659, .int 1, .int 0, .int o4914, .int p4664])), (q4659, .inr (15, [.ref q4660, .int p4665])), (q4660, .inl (I .byte, 8192, .inl f4666))]) 0 1 d_cX9_advance_72 rfl (gk_X9 D I) (Nat.le_of_ble_eq_true rfl) w_1_80 rfl rfl rfl (Nat.le_of_ble_eq_true rfl) rfl ?_
          refine G_aload_n 3 d_cX9_advance_75 rfl ?_
          refine G_aload_n 3 d_cX9_advance_76 rfl ?_
          refine G_getf 0 3 d_cX9_advance_77 rfl (gk_X9 D I) (Nat.le_of_ble_eq_true rfl) w_1_82 rfl ?_
          refine G_putf (ws' := [(q4658, .inr (14, [.ref q4659, .int 1, .int 0, .int o4914, .int o4914])), (q4659, .inr (15, [.ref q4660, .int p4665])), (q4660, .inl (I .byte, 8192, .inl f4666))]) 0 4 d_cX9_advance_80 rfl (gk_X9 D I) (Nat.le_of_ble_eq_true rfl) w_1_83 rfl rfl rfl (Nat.le_of_ble_eq_true rfl) rfl ?_
          refine G_goto 194 d_cX9_advance_83 (by decide +kernel) ?_
          exact G_vret d_cX9_advance_194 rfl (Nat.le_of_ble_eq_true rfl) (Nat.le_of_ble_eq_true rfl) ⟨1, 0, o4914, o4914, rfl, rfl, (gB_w (gBl (show Int32.toInt 1 = 1 by decide)) (by decide) (by decide)), (gB_w (gBl (show Int32.toInt 0 = 0 by decide)) (by decide) (by decide)), (gB_w bo4914' (by decide) (by decide)), (gB_w bo4914' (by decide) (by decide)), (by have qa0 : Int32.toInt (-1) = (-1) := (by decide); have qa1 : Int32.toInt 0 = 0 := (by decide); have qa2 : Int32.toInt 1 = 1 := (by decide); omega)⟩
        · have bz4930' : gB z4930 1 8191 := ⟨by omega, by omega⟩
          have bp4665' : gB p4665 2 8192 := ⟨by omega, by omega⟩
          change G _ _ _ _ _ _ _ (.int z4934 :: _) _ _ _
          refine G_ws (ws' := [(q4658, .inr (14, [.ref q4659, .int p4661, .int p4662, .int o4914, .int p4664])), (q4659, .inr (15, [.ref q4660, .int p4665])), (q4660, .inl (I .byte, 8192, .inl f4666))]) (cs' := 0) (sl' := 0) rfl rfl rfl ?_
          refine G_istore_n (L' := [(3, .int z4934), (2, .int (-1)), (1, .int 0), (0, .ref q4658)]) d_cX9_advance_59 (Nat.le_of_ble_eq_true rfl) rfl ?_
          refine G_aload_n 3 d_cX9_advance_60 rfl ?_
          refine G_iconst 0 d_cX9_advance_61 (by decide +kernel) ?_
          refine G_putf (ws' := [(q4658, .inr (14, [.ref q4659, .int p4661, .int 0, .int o4914, .int p4664])), (q4659, .inr (15, [.ref q4660, .int p4665])), (q4660, .inl (I .byte, 8192, .inl f4666))]) 0 2 d_cX9_advance_62 rfl (gk_X9 D I) (Nat.le_of_ble_eq_true rfl) w_1_81 rfl rfl rfl (Nat.le_of_ble_eq_true rfl) rfl ?_
          refine G_iload_n 1 d_cX9_advance_65 rfl ?_
          refine G_iconst (-1) d_cX9_advance_66 (by decide +kernel) ?_
          refine G_icmp_ne 86 d_cX9_advance_67 (by decide +kernel) (fun hc => absurd hc (by decide)) (fun _ => ?_)
          refine G_aload_n 3 d_cX9_advance_70 rfl ?_
          refine G_iconst 1 d_cX9_advance_71 (by decide +kernel) ?_
          refine G_putf (ws' := [(q4658, .inr (14, [.ref q4659, .int 1, .int 0, .int o4914, .int p4664])), (q4659, .inr (15, [.ref q4660, .int p4665])), (q4660, .inl (I .byte, 8192, .inl f4666))]) 0 1 d_cX9_advance_72 rfl (gk_X9 D I) (Nat.le_of_ble_eq_true rfl) w_1_80 rfl rfl rfl (Nat.le_of_ble_eq_true rfl) rfl ?_
          refine G_aload_n 3 d_cX9_advance_75 rfl ?_
          refine G_aload_n 3 d_cX9_advance_76 rfl ?_
          refine G_getf 0 3 d_cX9_advance_77 rfl (gk_X9 D I) (Nat.le_of_ble_eq_true rfl) w_1_82 rfl ?_
          refine G_putf (ws' := [(q4658, .inr (14, [.ref q4659, .int 1, .int 0, .int o4914, .int o4914])), (q4659, .inr (15, [.ref q4660, .int p4665])), (q4660, .inl (I .byte, 8192, .inl f4666))]) 0 4 d_cX9_advance_80 rfl (gk_X9 D I) (Nat.le_of_ble_eq_true rfl) w_1_83 rfl rfl rfl (Nat.le_of_ble_eq_true rfl) rfl ?_
          refine G_goto 194 d_cX9_advance_83 (by decide +kernel) ?_
          exact G_vret d_cX9_advance_194 rfl (Nat.le_of_ble_eq_true rfl) (Nat.le_of_ble_eq_true rfl) ⟨1, 0, o4914, o4914, rfl, rfl, (gB_w (gBl (show Int32.toInt 1 = 1 by decide)) (by decide) (by decide)), (gB_w (gBl (show Int32.toInt 0 = 0 by decide)) (by decide) (by decide)), (gB_w bo4914' (by decide) (by decide)), (gB_w bo4914' (by decide) (by decide)), (by have qa0 : Int32.toInt (-1) = (-1) := (by decide); have qa1 : Int32.toInt 0 = 0 := (by decide); have qa2 : Int32.toInt 1 = 1 := (by decide); omega)⟩
      · have bo4914' : gB o4914 0 8192 := ⟨by omega, by omega⟩
        have bo4914'' : gB o4914 0 8191 := ⟨by omega, by omega⟩
        have bp4665' : gB p4665 1 8192 := ⟨by omega, by omega⟩
        change G _ _ _ _ _ _ _ (.int z4918 :: _) _ _ _
        refine G_ws (ws' := [(q4658, .inr (14, [.ref q4659, .int p4661, .int p4662, .int o4914, .int p4664])), (q4659, .inr (15, [.ref q4660, .int p4665])), (q4660, .inl (I .byte, 8192, .inl f4666))]) (cs' := 0) (sl' := 0) rfl rfl rfl ?_
        refine G_istore_n (L' := [(2, .int z4918), (1, .int 0), (0, .ref q4658)]) d_cX9_advance_45 (Nat.le_of_ble_eq_true rfl) rfl ?_
        refine G_aload_n 2 d_cX9_advance_46 rfl ?_
        refine G_getf 0 0 d_cX9_advance_47 rfl (gk_X9 D I) (Nat.le_of_ble_eq_true rfl) w_1_79 rfl ?_
        refine G_aload_n 2 d_cX9_advance_50 rfl ?_
        refine G_getf 0 3 d_cX9_advance_51 rfl (gk_X9 D I) (Nat.le_of_ble_eq_true rfl) w_1_82 rfl ?_
        refine G_iconst 1 d_cX9_advance_54 (by decide +kernel) ?_
        refine G_iadd d_cX9_advance_55 (G_nam fun z4938 hz4938 => ?_)
        have ez4938 : z4938.toInt = o4914.toInt + 1 := by rw [gI_add hz4938 bo4914'' (gBl (show Int32.toInt 1 = 1 by decide)) (by decide) (by decide), show Int32.toInt 1 = 1 from by decide]
        have bz4938 : gB z4938 1 8192 := gB_add (gI_add hz4938 bo4914'' (gBl (show Int32.toInt 1 = 1 by decide)) (by decide) (by decide)) bo4914'' (gBl (show Int32.toInt 1 = 1 by decide)) (by decide) (by decide)
        refine G_callV (As := [.int z4938]) (wr := [(q4658, .inr (14, [.ref q4659, .int p4661, .int p4662, .int o4914, .int p4664]))]) (gV_ok D I) (ct_31_Tape_byteAt l hl0 D I q4659 q4660 z4938 p4665 f4666 (gB_w bp4665' (by decide) (by decide)) bf4666) d_cX9_advance_56 ⟨w_3_20, w_1_2, w_3_23, by decide, rfl, (Nat.le_of_ble_eq_true rfl), (Nat.le_of_ble_eq_true rfl)⟩ w_3_21 w_3_22 1 rfl rfl [1, 2] [0] rfl rfl rfl rfl (by decide) (Nat.le_of_ble_eq_true rfl) (Nat.le_of_ble_eq_true rfl) (Nat.le_of_ble_eq_true rfl) (fun r w hp => ?_) (fun _ _ _ z => z.elim)
        rcases hp with ⟨rfl, rfl, r4939⟩ | ⟨rfl, rfl, r4940, r4941⟩ | ⟨z4942, rfl, rfl, r4943, r4944, r4945⟩
        · exact absurd (show False by omega) not_false
        · change G _ _ _ _ _ _ _ (.int (-1) :: _) _ _ _
          refine G_ws (ws' := [(q4658, .inr (14, [.ref q4659, .int p4661, .int p4662, .int o4914, .int p4664])), (q4659, .inr (15, [.ref q4660, .int p4665])), (q4660, .inl (I .byte, 8192, .inl f4666))]) (cs' := 0) (sl' := 0) rfl rfl rfl ?_
          refine G_istore_n (L' := [(3, .int (-1)), (2, .int z4918), (1, .int 0), (0, .ref q4658)]) d_cX9_advance_59 (Nat.le_of_ble_eq_true rfl) rfl ?_
          refine G_aload_n 3 d_cX9_advance_60 rfl ?_
          refine G_iconst 0 d_cX9_advance_61 (by decide +kernel) ?_
          refine G_putf (ws' := [(q4658, .inr (14, [.ref q4659, .int p4661, .int 0, .int o4914, .int p4664])), (q4659, .inr (15, [.ref q4660, .int p4665])), (q4660, .inl (I .byte, 8192, .inl f4666))]) 0 2 d_cX9_advance_62 rfl (gk_X9 D I) (Nat.le_of_ble_eq_true rfl) w_1_81 rfl rfl rfl (Nat.le_of_ble_eq_true rfl) rfl ?_
          refine G_iload_n 1 d_cX9_advance_65 rfl ?_
          refine G_iconst (-1) d_cX9_advance_66 (by decide +kernel) ?_
          refine G_icmp_ne 86 d_cX9_advance_67 (by decide +kernel) (fun _ => ?_) (fun hc => absurd (show False by have := gj_eq hc (show Int32.toInt (-1) = (-1) by decide); omega) not_false)
          refine G_iload_n 1 d_cX9_advance_86 rfl ?_
          refine G_callS (As := [.int z4918]) (wr := [(q4658, .inr (14, [.ref q4659, .int p4661, .int 0, .int o4914, .int p4664])), (q4659, .inr (15, [.ref q4660, .int p4665])), (q4660, .inl (I .byte, 8192, .inl f4666))]) (gV_ok D I) (ct_304_Signs_isDigit l hl0 D I z4918 ) d_cX9_advance_87 ⟨w_3_24, w_1_4, w_3_26, by decide, rfl, (Nat.le_of_ble_eq_true rfl), (Nat.le_of_ble_eq_true rfl)⟩ w_3_25 [] [0, 1, 2] rfl rfl rfl rfl (by decide) (Nat.le_of_ble_eq_true rfl) (Nat.le_of_ble_eq_true rfl) (Nat.le_of_ble_eq_true rfl) (fun r w hp => ?_) (fun _ _ _ z => z.elim)
          rcases hp with ⟨rfl, rfl, r4946⟩ | ⟨rfl, rfl, r4947, r4948⟩ | ⟨rfl, rfl, r4949, r4950⟩
          · have r4921' : gB z4918 0 47 := ⟨by omega, by omega⟩
            change G _ _ _ _ _ _ _ (.int 0 :: _) _ _ _
            refine G_ws (ws' := [(q4658, .inr (14, [.ref q4659, .int p4661, .int 0, .int o4914, .int p4664])), (q4659, .inr (15, [.ref q4660, .int p4665])), (q4660, .inl (I .byte, 8192, .inl f4666))]) (cs' := 0) (sl' := 0) rfl rfl rfl ?_
            refine G_if_ne 110 d_cX9_advance_90 (by decide +kernel) (fun hc => absurd hc (by decide)) (fun _ => ?_)
            refine G_iload_n 1 d_cX9_advance_93 rfl ?_
            refine G_bipush 45 d_cX9_advance_94 (by decide +kernel) ?_
            refine G_icmp_ne 128 d_cX9_advance_96 (by decide +kernel) (fun hc4951 => ?_) (fun hc4951 => ?_)
            · have r4952 : z4918.toInt ≠ 45 := gj_neq hc4951 (show Int32.toInt 45 = 45 by decide)
              refine G_iload_n 1 d_cX9_advance_128 rfl ?_
              refine G_bipush 118 d_cX9_advance_129 (by decide +kernel) ?_
              refine G_icmp_ne 151 d_cX9_advance_131 (by decide +kernel) (fun _ => ?_) (fun hc => absurd (show False by have := gj_eq hc (show Int32.toInt 118 = 118 by decide); omega) not_false)
              refine G_iload_n 1 d_cX9_advance_151 rfl ?_
              refine G_bipush 98 d_cX9_advance_152 (by decide +kernel) ?_
              refine G_icmp_ne 174 d_cX9_advance_154 (by decide +kernel) (fun _ => ?_) (fun hc => absurd (show False by have := gj_eq hc (show Int32.toInt 98 = 98 by decide); omega) not_false)
              refine G_iload_n 1 d_cX9_advance_174 rfl ?_
              refine G_callS (As := [.int z4918]) (wr := [(q4658, .inr (14, [.ref q4659, .int p4661, .int 0, .int o4914, .int p4664])), (q4659, .inr (15, [.ref q4660, .int p4665])), (q4660, .inl (I .byte, 8192, .inl f4666))]) (gV_ok D I) (ct_312_Signs_isLetter l hl0 D I z4918 ) d_cX9_advance_175 ⟨w_3_45, w_1_4, w_3_47, by decide, rfl, (Nat.le_of_ble_eq_true rfl), (Nat.le_of_ble_eq_true rfl)⟩ w_3_46 [] [0, 1, 2] rfl rfl rfl rfl (by decide) (Nat.le_of_ble_eq_true rfl) (Nat.le_of_ble_eq_true rfl) (Nat.le_of_ble_eq_true rfl) (fun r w hp => ?_) (fun _ _ _ z => z.elim)
              rcases hp with ⟨rfl, rfl, r4953⟩ | ⟨rfl, rfl, r4954, r4955⟩ | ⟨rfl, rfl, r4956, r4957⟩
              · change G _ _ _ _ _ _ _ (.int 0 :: _) _ _ _
                refine G_ws (ws' := [(q4658, .inr (14, [.ref q4659, .int p4661, .int 0, .int o4914, .int p4664])), (q4659, .inr (15, [.ref q4660, .int p4665])), (q4660, .inl (I .byte, 8192, .inl f4666))]) (cs' := 0) (sl' := 0) rfl rfl rfl ?_
                refine G_if_eq 188 d_cX9_advance_178 (by decide +kernel) (fun _ => ?_) (fun hc => absurd hc (by decide))
                refine G_aload_n 3 d_cX9_advance_188 rfl ?_
                refine G_iload_n 1 d_cX9_advance_189 rfl ?_
                refine G_iload_n 0 d_cX9_advance_190 rfl ?_
                refine G_callV (As := [.int z4918, .int (-1)]) (wr := []) (gV_ok D I) (ct_4624_Signs_takeMark l hl0 D I q4658 q4659 q4660 z4918 (-1) p4661 0 o4914 p4664 p4665 f4666 (gB_w bp4665' (by decide) (by decide)) bf4666 (by have qa0 : Int32.toInt (-1) = (-1) := (by decide); have qa1 : Int32.toInt 0 = 0 := (by decide); omega)) d_cX9_advance_191 ⟨w_3_109, w_1_4, w_3_112, by decide, rfl, (Nat.le_of_ble_eq_true rfl), (Nat.le_of_ble_eq_true rfl)⟩ w_3_111 w_p_6 0 rfl rfl [0, 1, 2] [] rfl rfl rfl rfl (by decide) (Nat.le_of_ble_eq_true rfl) (Nat.le_of_ble_eq_true rfl) (Nat.le_of_ble_eq_true rfl) (fun r w hp => ?_) (fun _ _ _ z => z.elim)
                obtain ⟨o4958, o4959, o4960, rfl, rfl, bo4958, bo4959, bo4960, x4961⟩ := hp
                change G _ _ _ _ _ _ _ _ _ _ _
                refine G_ws (ws' := [(q4658, .inr (14, [.ref q4659, .int o4958, .int o4959, .int o4914, .int o4960])), (q4659, .inr (15, [.ref q4660, .int p4665])), (q4660, .inl (I .byte, 8192, .inl f4666))]) (cs' := 0) (sl' := 0) rfl rfl rfl ?_
                exact G_vret d_cX9_advance_194 rfl (Nat.le_of_ble_eq_true rfl) (Nat.le_of_ble_eq_true rfl) ⟨o4958, o4959, o4914, o4960, rfl, rfl, (gB_w bo4958 (by decide) (by decide)), (gB_w bo4959 (by decide) (by decide)), (gB_w bo4914'' (by decide) (by decide)), bo4960, (by have qa0 : Int32.toInt (-1) = (-1) := (by decide); have qa1 : Int32.toInt 0 = 0 := (by decide); omega)⟩
              · exact absurd (show False by omega) not_false
              · exact absurd (show False by omega) not_false
            · have r4962 : z4918.toInt = 45 := gj_eq hc4951 (show Int32.toInt 45 = 45 by decide)
              have r4921'' : gB z4918 45 45 := ⟨by omega, by omega⟩
              refine G_iload_n 0 d_cX9_advance_99 rfl ?_
              refine G_callS (As := [.int (-1)]) (wr := [(q4658, .inr (14, [.ref q4659, .int p4661, .int 0, .int o4914, .int p4664])), (q4659, .inr (15, [.ref q4660, .int p4665])), (q4660, .inl (I .byte, 8192, .inl f4666))]) (gV_ok D I) (ct_304_Signs_isDigit l hl0 D I (-1) ) d_cX9_advance_100 ⟨w_3_24, w_1_4, w_3_26, by decide, rfl, (Nat.le_of_ble_eq_true rfl), (Nat.le_of_ble_eq_true rfl)⟩ w_3_25 [] [0, 1, 2] rfl rfl rfl rfl (by decide) (Nat.le_of_ble_eq_true rfl) (Nat.le_of_ble_eq_true rfl) (Nat.le_of_ble_eq_true rfl) (fun r w hp => ?_) (fun _ _ _ z => z.elim)
              rcases hp with ⟨rfl, rfl, r4963⟩ | ⟨rfl, rfl, r4964, r4965⟩ | ⟨rfl, rfl, r4966, r4967⟩
              · rw [show Int32.toInt (-1) = (-1) from by decide] at r4963
                change G _ _ _ _ _ _ _ (.int 0 :: _) _ _ _
                refine G_ws (ws' := [(q4658, .inr (14, [.ref q4659, .int p4661, .int 0, .int o4914, .int p4664])), (q4659, .inr (15, [.ref q4660, .int p4665])), (q4660, .inl (I .byte, 8192, .inl f4666))]) (cs' := 0) (sl' := 0) rfl rfl rfl ?_
                refine G_if_eq 128 d_cX9_advance_103 (by decide +kernel) (fun _ => ?_) (fun hc => absurd hc (by decide))
                refine G_iload_n 1 d_cX9_advance_128 rfl ?_
                refine G_bipush 118 d_cX9_advance_129 (by decide +kernel) ?_
                refine G_icmp_ne 151 d_cX9_advance_131 (by decide +kernel) (fun _ => ?_) (fun hc => absurd (show False by have := gj_eq hc (show Int32.toInt 118 = 118 by decide); omega) not_false)
                refine G_iload_n 1 d_cX9_advance_151 rfl ?_
                refine G_bipush 98 d_cX9_advance_152 (by decide +kernel) ?_
                refine G_icmp_ne 174 d_cX9_advance_154 (by decide +kernel) (fun _ => ?_) (fun hc => absurd (show False by have := gj_eq hc (show Int32.toInt 98 = 98 by decide); omega) not_false)
                refine G_iload_n 1 d_cX9_advance_174 rfl ?_
                refine G_callS (As := [.int z4918]) (wr := [(q4658, .inr (14, [.ref q4659, .int p4661, .int 0, .int o4914, .int p4664])), (q4659, .inr (15, [.ref q4660, .int p4665])), (q4660, .inl (I .byte, 8192, .inl f4666))]) (gV_ok D I) (ct_312_Signs_isLetter l hl0 D I z4918 ) d_cX9_advance_175 ⟨w_3_45, w_1_4, w_3_47, by decide, rfl, (Nat.le_of_ble_eq_true rfl), (Nat.le_of_ble_eq_true rfl)⟩ w_3_46 [] [0, 1, 2] rfl rfl rfl rfl (by decide) (Nat.le_of_ble_eq_true rfl) (Nat.le_of_ble_eq_true rfl) (Nat.le_of_ble_eq_true rfl) (fun r w hp => ?_) (fun _ _ _ z => z.elim)
                rcases hp with ⟨rfl, rfl, r4968⟩ | ⟨rfl, rfl, r4969, r4970⟩ | ⟨rfl, rfl, r4971, r4972⟩
                · change G _ _ _ _ _ _ _ (.int 0 :: _) _ _ _
                  refine G_ws (ws' := [(q4658, .inr (14, [.ref q4659, .int p4661, .int 0, .int o4914, .int p4664])), (q4659, .inr (15, [.ref q4660, .int p4665])), (q4660, .inl (I .byte, 8192, .inl f4666))]) (cs' := 0) (sl' := 0) rfl rfl rfl ?_
                  refine G_if_eq 188 d_cX9_advance_178 (by decide +kernel) (fun _ => ?_) (fun hc => absurd hc (by decide))
                  refine G_aload_n 3 d_cX9_advance_188 rfl ?_
                  refine G_iload_n 1 d_cX9_advance_189 rfl ?_
                  refine G_iload_n 0 d_cX9_advance_190 rfl ?_
                  refine G_callV (As := [.int z4918, .int (-1)]) (wr := []) (gV_ok D I) (ct_4624_Signs_takeMark l hl0 D I q4658 q4659 q4660 z4918 (-1) p4661 0 o4914 p4664 p4665 f4666 (gB_w bp4665' (by decide) (by decide)) bf4666 (by have qa0 : Int32.toInt (-1) = (-1) := (by decide); have qa1 : Int32.toInt 0 = 0 := (by decide); omega)) d_cX9_advance_191 ⟨w_3_109, w_1_4, w_3_112, by decide, rfl, (Nat.le_of_ble_eq_true rfl), (Nat.le_of_ble_eq_true rfl)⟩ w_3_111 w_p_6 0 rfl rfl [0, 1, 2] [] rfl rfl rfl rfl (by decide) (Nat.le_of_ble_eq_true rfl) (Nat.le_of_ble_eq_true rfl) (Nat.le_of_ble_eq_true rfl) (fun r w hp => ?_) (fun _ _ _ z => z.elim)
                  obtain ⟨o4973, o4974, o4975, rfl, rfl, bo4973, bo4974, bo4975, x4976⟩ := hp
                  change G _ _ _ _ _ _ _ _ _ _ _
                  refine G_ws (ws' := [(q4658, .inr (14, [.ref q4659, .int o4973, .int o4974, .int o4914, .int o4975])), (q4659, .inr (15, [.ref q4660, .int p4665])), (q4660, .inl (I .byte, 8192, .inl f4666))]) (cs' := 0) (sl' := 0) rfl rfl rfl ?_
                  exact G_vret d_cX9_advance_194 rfl (Nat.le_of_ble_eq_true rfl) (Nat.le_of_ble_eq_true rfl) ⟨o4973, o4974, o4914, o4975, rfl, rfl, (gB_w bo4973 (by decide) (by decide)), (gB_w bo4974 (by decide) (by decide)), (gB_w bo4914'' (by decide) (by decide)), bo4975, (by have qa0 : Int32.toInt (-1) = (-1) := (by decide); have qa1 : Int32.toInt 0 = 0 := (by decide); omega)⟩
                · exact absurd (show False by omega) not_false
                · exact absurd (show False by omega) not_false
              · rw [show Int32.toInt (-1) = (-1) from by decide] at r4964
                exact absurd (show False by omega) not_false
              · rw [show Int32.toInt (-1) = (-1) from by decide] at r4966
                exact absurd (show False by omega) not_false
          · have r4921' : gB z4918 48 255 := ⟨by omega, by omega⟩
            have r4921'' : gB z4918 58 255 := ⟨by omega, by omega⟩
            change G _ _ _ _ _ _ _ (.int 0 :: _) _ _ _
            refine G_ws (ws' := [(q4658, .inr (14, [.ref q4659, .int p4661, .int 0, .int o4914, .int p4664])), (q4659, .inr (15, [.ref q4660, .int p4665])), (q4660, .inl (I .byte, 8192, .inl f4666))]) (cs' := 0) (sl' := 0) rfl rfl rfl ?_
            refine G_if_ne 110 d_cX9_advance_90 (by decide +kernel) (fun hc => absurd hc (by decide)) (fun _ => ?_)
            refine G_iload_n 1 d_cX9_advance_93 rfl ?_
            refine G_bipush 45 d_cX9_advance_94 (by decide +kernel) ?_
            refine G_icmp_ne 128 d_cX9_advance_96 (by decide +kernel) (fun _ => ?_) (fun hc => absurd (show False by have := gj_eq hc (show Int32.toInt 45 = 45 by decide); omega) not_false)
            refine G_iload_n 1 d_cX9_advance_128 rfl ?_
            refine G_bipush 118 d_cX9_advance_129 (by decide +kernel) ?_
            refine G_icmp_ne 151 d_cX9_advance_131 (by decide +kernel) (fun hc4977 => ?_) (fun hc4977 => ?_)
            · have r4978 : z4918.toInt ≠ 118 := gj_neq hc4977 (show Int32.toInt 118 = 118 by decide)
              refine G_iload_n 1 d_cX9_advance_151 rfl ?_
              refine G_bipush 98 d_cX9_advance_152 (by decide +kernel) ?_
              refine G_icmp_ne 174 d_cX9_advance_154 (by decide +kernel) (fun hc4979 => ?_) (fun hc4979 => ?_)
              · have r4980 : z4918.toInt ≠ 98 := gj_neq hc4979 (show Int32.toInt 98 = 98 by decide)
                refine G_iload_n 1 d_cX9_advance_174 rfl ?_
                refine G_callS (As := [.int z4918]) (wr := [(q4658, .inr (14, [.ref q4659, .int p4661, .int 0, .int o4914, .int p4664])), (q4659, .inr (15, [.ref q4660, .int p4665])), (q4660, .inl (I .byte, 8192, .inl f4666))]) (gV_ok D I) (ct_312_Signs_isLetter l hl0 D I z4918 ) d_cX9_advance_175 ⟨w_3_45, w_1_4, w_3_47, by decide, rfl, (Nat.le_of_ble_eq_true rfl), (Nat.le_of_ble_eq_true rfl)⟩ w_3_46 [] [0, 1, 2] rfl rfl rfl rfl (by decide) (Nat.le_of_ble_eq_true rfl) (Nat.le_of_ble_eq_true rfl) (Nat.le_of_ble_eq_true rfl) (fun r w hp => ?_) (fun _ _ _ z => z.elim)
                rcases hp with ⟨rfl, rfl, r4981⟩ | ⟨rfl, rfl, r4982, r4983⟩ | ⟨rfl, rfl, r4984, r4985⟩
                · have r4921''' : gB z4918 58 96 := ⟨by omega, by omega⟩
                  change G _ _ _ _ _ _ _ (.int 0 :: _) _ _ _
                  refine G_ws (ws' := [(q4658, .inr (14, [.ref q4659, .int p4661, .int 0, .int o4914, .int p4664])), (q4659, .inr (15, [.ref q4660, .int p4665])), (q4660, .inl (I .byte, 8192, .inl f4666))]) (cs' := 0) (sl' := 0) rfl rfl rfl ?_
                  refine G_if_eq 188 d_cX9_advance_178 (by decide +kernel) (fun _ => ?_) (fun hc => absurd hc (by decide))
                  refine G_aload_n 3 d_cX9_advance_188 rfl ?_
                  refine G_iload_n 1 d_cX9_advance_189 rfl ?_
                  refine G_iload_n 0 d_cX9_advance_190 rfl ?_
                  refine G_callV (As := [.int z4918, .int (-1)]) (wr := []) (gV_ok D I) (ct_4624_Signs_takeMark l hl0 D I q4658 q4659 q4660 z4918 (-1) p4661 0 o4914 p4664 p4665 f4666 (gB_w bp4665' (by decide) (by decide)) bf4666 (by have qa0 : Int32.toInt (-1) = (-1) := (by decide); have qa1 : Int32.toInt 0 = 0 := (by decide); omega)) d_cX9_advance_191 ⟨w_3_109, w_1_4, w_3_112, by decide, rfl, (Nat.le_of_ble_eq_true rfl), (Nat.le_of_ble_eq_true rfl)⟩ w_3_111 w_p_6 0 rfl rfl [0, 1, 2] [] rfl rfl rfl rfl (by decide) (Nat.le_of_ble_eq_true rfl) (Nat.le_of_ble_eq_true rfl) (Nat.le_of_ble_eq_true rfl) (fun r w hp => ?_) (fun _ _ _ z => z.elim)
                  obtain ⟨o4986, o4987, o4988, rfl, rfl, bo4986, bo4987, bo4988, x4989⟩ := hp
                  change G _ _ _ _ _ _ _ _ _ _ _
                  refine G_ws (ws' := [(q4658, .inr (14, [.ref q4659, .int o4986, .int o4987, .int o4914, .int o4988])), (q4659, .inr (15, [.ref q4660, .int p4665])), (q4660, .inl (I .byte, 8192, .inl f4666))]) (cs' := 0) (sl' := 0) rfl rfl rfl ?_
                  exact G_vret d_cX9_advance_194 rfl (Nat.le_of_ble_eq_true rfl) (Nat.le_of_ble_eq_true rfl) ⟨o4986, o4987, o4914, o4988, rfl, rfl, (gB_w bo4986 (by decide) (by decide)), (gB_w bo4987 (by decide) (by decide)), (gB_w bo4914'' (by decide) (by decide)), bo4988, (by have qa0 : Int32.toInt (-1) = (-1) := (by decide); have qa1 : Int32.toInt 0 = 0 := (by decide); omega)⟩
                · have r4921''' : gB z4918 97 255 := ⟨by omega, by omega⟩
                  have r4921'''' : gB z4918 123 255 := ⟨by omega, by omega⟩
                  change G _ _ _ _ _ _ _ (.int 0 :: _) _ _ _
                  refine G_ws (ws' := [(q4658, .inr (14, [.ref q4659, .int p4661, .int 0, .int o4914, .int p4664])), (q4659, .inr (15, [.ref q4660, .int p4665])), (q4660, .inl (I .byte, 8192, .inl f4666))]) (cs' := 0) (sl' := 0) rfl rfl rfl ?_
                  refine G_if_eq 188 d_cX9_advance_178 (by decide +kernel) (fun _ => ?_) (fun hc => absurd hc (by decide))
                  refine G_aload_n 3 d_cX9_advance_188 rfl ?_
                  refine G_iload_n 1 d_cX9_advance_189 rfl ?_
                  refine G_iload_n 0 d_cX9_advance_190 rfl ?_
                  refine G_callV (As := [.int z4918, .int (-1)]) (wr := []) (gV_ok D I) (ct_4624_Signs_takeMark l hl0 D I q4658 q4659 q4660 z4918 (-1) p4661 0 o4914 p4664 p4665 f4666 (gB_w bp4665' (by decide) (by decide)) bf4666 (by have qa0 : Int32.toInt (-1) = (-1) := (by decide); have qa1 : Int32.toInt 0 = 0 := (by decide); omega)) d_cX9_advance_191 ⟨w_3_109, w_1_4, w_3_112, by decide, rfl, (Nat.le_of_ble_eq_true rfl), (Nat.le_of_ble_eq_true rfl)⟩ w_3_111 w_p_6 0 rfl rfl [0, 1, 2] [] rfl rfl rfl rfl (by decide) (Nat.le_of_ble_eq_true rfl) (Nat.le_of_ble_eq_true rfl) (Nat.le_of_ble_eq_true rfl) (fun r w hp => ?_) (fun _ _ _ z => z.elim)
                  obtain ⟨o4990, o4991, o4992, rfl, rfl, bo4990, bo4991, bo4992, x4993⟩ := hp
                  change G _ _ _ _ _ _ _ _ _ _ _
                  refine G_ws (ws' := [(q4658, .inr (14, [.ref q4659, .int o4990, .int o4991, .int o4914, .int o4992])), (q4659, .inr (15, [.ref q4660, .int p4665])), (q4660, .inl (I .byte, 8192, .inl f4666))]) (cs' := 0) (sl' := 0) rfl rfl rfl ?_
                  exact G_vret d_cX9_advance_194 rfl (Nat.le_of_ble_eq_true rfl) (Nat.le_of_ble_eq_true rfl) ⟨o4990, o4991, o4914, o4992, rfl, rfl, (gB_w bo4990 (by decide) (by decide)), (gB_w bo4991 (by decide) (by decide)), (gB_w bo4914'' (by decide) (by decide)), bo4992, (by have qa0 : Int32.toInt (-1) = (-1) := (by decide); have qa1 : Int32.toInt 0 = 0 := (by decide); omega)⟩
                · have r4921''' : gB z4918 97 255 := ⟨by omega, by omega⟩
                  have r4921'''' : gB z4918 97 122 := ⟨by omega, by omega⟩
                  change G _ _ _ _ _ _ _ (.int 1 :: _) _ _ _
                  refine G_ws (ws' := [(q4658, .inr (14, [.ref q4659, .int p4661, .int 0, .int o4914, .int p4664])), (q4659, .inr (15, [.ref q4660, .int p4665])), (q4660, .inl (I .byte, 8192, .inl f4666))]) (cs' := 0) (sl' := 0) rfl rfl rfl ?_
                  refine G_if_eq 188 d_cX9_advance_178 (by decide +kernel) (fun hc => absurd hc (by decide)) (fun _ => ?_)
                  refine G_aload_n 3 d_cX9_advance_181 rfl ?_
                  refine G_callV (As := []) (wr := []) (gV_ok D I) (ct_3805_Signs_takeWord l hl0 D I q4658 q4659 q4660 p4661 0 o4914 p4664 p4665 f4666 (gB_w bp4665' (by decide) (by decide)) bf4666 (by have qa0 : Int32.toInt (-1) = (-1) := (by decide); have qa1 : Int32.toInt 0 = 0 := (by decide); omega)) d_cX9_advance_182 ⟨w_3_48, w_1_4, w_3_51, by decide, rfl, (Nat.le_of_ble_eq_true rfl), (Nat.le_of_ble_eq_true rfl)⟩ w_3_50 w_p_4 0 rfl rfl [0, 1, 2] [] rfl rfl rfl rfl (by decide) (Nat.le_of_ble_eq_true rfl) (Nat.le_of_ble_eq_true rfl) (Nat.le_of_ble_eq_true rfl) (fun r w hp => ?_) (fun _ _ _ z => z.elim)
                  obtain ⟨o4994, o4995, rfl, rfl, bo4994, bo4995, x4996⟩ := hp
                  rw [show Int32.toInt 0 = 0 from by decide] at x4996
                  change G _ _ _ _ _ _ _ _ _ _ _
                  refine G_ws (ws' := [(q4658, .inr (14, [.ref q4659, .int o4994, .int 0, .int o4914, .int o4995])), (q4659, .inr (15, [.ref q4660, .int p4665])), (q4660, .inl (I .byte, 8192, .inl f4666))]) (cs' := 0) (sl' := 0) rfl rfl rfl ?_
                  refine G_goto 194 d_cX9_advance_185 (by decide +kernel) ?_
                  exact G_vret d_cX9_advance_194 rfl (Nat.le_of_ble_eq_true rfl) (Nat.le_of_ble_eq_true rfl) ⟨o4994, 0, o4914, o4995, rfl, rfl, bo4994, (gB_w (gBl (show Int32.toInt 0 = 0 by decide)) (by decide) (by decide)), (gB_w bo4914'' (by decide) (by decide)), bo4995, (by have qa0 : Int32.toInt (-1) = (-1) := (by decide); have qa1 : Int32.toInt 0 = 0 := (by decide); omega)⟩
              · have r4997 : z4918.toInt = 98 := gj_eq hc4979 (show Int32.toInt 98 = 98 by decide)
                have r4921''' : gB z4918 98 98 := ⟨by omega, by omega⟩
                refine G_iload_n 0 d_cX9_advance_157 rfl ?_
                refine G_callS (As := [.int (-1)]) (wr := [(q4658, .inr (14, [.ref q4659, .int p4661, .int 0, .int o4914, .int p4664])), (q4659, .inr (15, [.ref q4660, .int p4665])), (q4660, .inl (I .byte, 8192, .inl f4666))]) (gV_ok D I) (ct_304_Signs_isDigit l hl0 D I (-1) ) d_cX9_advance_158 ⟨w_3_24, w_1_4, w_3_26, by decide, rfl, (Nat.le_of_ble_eq_true rfl), (Nat.le_of_ble_eq_true rfl)⟩ w_3_25 [] [0, 1, 2] rfl rfl rfl rfl (by decide) (Nat.le_of_ble_eq_true rfl) (Nat.le_of_ble_eq_true rfl) (Nat.le_of_ble_eq_true rfl) (fun r w hp => ?_) (fun _ _ _ z => z.elim)
                rcases hp with ⟨rfl, rfl, r4998⟩ | ⟨rfl, rfl, r4999, r5000⟩ | ⟨rfl, rfl, r5001, r5002⟩
                · rw [show Int32.toInt (-1) = (-1) from by decide] at r4998
                  change G _ _ _ _ _ _ _ (.int 0 :: _) _ _ _
                  refine G_ws (ws' := [(q4658, .inr (14, [.ref q4659, .int p4661, .int 0, .int o4914, .int p4664])), (q4659, .inr (15, [.ref q4660, .int p4665])), (q4660, .inl (I .byte, 8192, .inl f4666))]) (cs' := 0) (sl' := 0) rfl rfl rfl ?_
                  refine G_if_eq 174 d_cX9_advance_161 (by decide +kernel) (fun _ => ?_) (fun hc => absurd hc (by decide))
                  refine G_iload_n 1 d_cX9_advance_174 rfl ?_
                  refine G_callS (As := [.int z4918]) (wr := [(q4658, .inr (14, [.ref q4659, .int p4661, .int 0, .int o4914, .int p4664])), (q4659, .inr (15, [.ref q4660, .int p4665])), (q4660, .inl (I .byte, 8192, .inl f4666))]) (gV_ok D I) (ct_312_Signs_isLetter l hl0 D I z4918 ) d_cX9_advance_175 ⟨w_3_45, w_1_4, w_3_47, by decide, rfl, (Nat.le_of_ble_eq_true rfl), (Nat.le_of_ble_eq_true rfl)⟩ w_3_46 [] [0, 1, 2] rfl rfl rfl rfl (by decide) (Nat.le_of_ble_eq_true rfl) (Nat.le_of_ble_eq_true rfl) (Nat.le_of_ble_eq_true rfl) (fun r w hp => ?_) (fun _ _ _ z => z.elim)
                  rcases hp with ⟨rfl, rfl, r5003⟩ | ⟨rfl, rfl, r5004, r5005⟩ | ⟨rfl, rfl, r5006, r5007⟩
                  · exact absurd (show False by omega) not_false
                  · exact absurd (show False by omega) not_false
                  · change G _ _ _ _ _ _ _ (.int 1 :: _) _ _ _
                    refine G_ws (ws' := [(q4658, .inr (14, [.ref q4659, .int p4661, .int 0, .int o4914, .int p4664])), (q4659, .inr (15, [.ref q4660, .int p4665])), (q4660, .inl (I .byte, 8192, .inl f4666))]) (cs' := 0) (sl' := 0) rfl rfl rfl ?_
                    refine G_if_eq 188 d_cX9_advance_178 (by decide +kernel) (fun hc => absurd hc (by decide)) (fun _ => ?_)
                    refine G_aload_n 3 d_cX9_advance_181 rfl ?_
                    refine G_callV (As := []) (wr := []) (gV_ok D I) (ct_3805_Signs_takeWord l hl0 D I q4658 q4659 q4660 p4661 0 o4914 p4664 p4665 f4666 (gB_w bp4665' (by decide) (by decide)) bf4666 (by have qa0 : Int32.toInt (-1) = (-1) := (by decide); have qa1 : Int32.toInt 0 = 0 := (by decide); omega)) d_cX9_advance_182 ⟨w_3_48, w_1_4, w_3_51, by decide, rfl, (Nat.le_of_ble_eq_true rfl), (Nat.le_of_ble_eq_true rfl)⟩ w_3_50 w_p_4 0 rfl rfl [0, 1, 2] [] rfl rfl rfl rfl (by decide) (Nat.le_of_ble_eq_true rfl) (Nat.le_of_ble_eq_true rfl) (Nat.le_of_ble_eq_true rfl) (fun r w hp => ?_) (fun _ _ _ z => z.elim)
                    obtain ⟨o5008, o5009, rfl, rfl, bo5008, bo5009, x5010⟩ := hp
                    rw [show Int32.toInt 0 = 0 from by decide] at x5010
                    change G _ _ _ _ _ _ _ _ _ _ _
                    refine G_ws (ws' := [(q4658, .inr (14, [.ref q4659, .int o5008, .int 0, .int o4914, .int o5009])), (q4659, .inr (15, [.ref q4660, .int p4665])), (q4660, .inl (I .byte, 8192, .inl f4666))]) (cs' := 0) (sl' := 0) rfl rfl rfl ?_
                    refine G_goto 194 d_cX9_advance_185 (by decide +kernel) ?_
                    exact G_vret d_cX9_advance_194 rfl (Nat.le_of_ble_eq_true rfl) (Nat.le_of_ble_eq_true rfl) ⟨o5008, 0, o4914, o5009, rfl, rfl, bo5008, (gB_w (gBl (show Int32.toInt 0 = 0 by decide)) (by decide) (by decide)), (gB_w bo4914'' (by decide) (by decide)), bo5009, (by have qa0 : Int32.toInt (-1) = (-1) := (by decide); have qa1 : Int32.toInt 0 = 0 := (by decide); omega)⟩
                · rw [show Int32.toInt (-1) = (-1) from by decide] at r4999
                  exact absurd (show False by omega) not_false
                · rw [show Int32.toInt (-1) = (-1) from by decide] at r5001
                  exact absurd (show False by omega) not_false
            · have r5011 : z4918.toInt = 118 := gj_eq hc4977 (show Int32.toInt 118 = 118 by decide)
              have r4921''' : gB z4918 118 118 := ⟨by omega, by omega⟩
              refine G_iload_n 0 d_cX9_advance_134 rfl ?_
              refine G_callS (As := [.int (-1)]) (wr := [(q4658, .inr (14, [.ref q4659, .int p4661, .int 0, .int o4914, .int p4664])), (q4659, .inr (15, [.ref q4660, .int p4665])), (q4660, .inl (I .byte, 8192, .inl f4666))]) (gV_ok D I) (ct_304_Signs_isDigit l hl0 D I (-1) ) d_cX9_advance_135 ⟨w_3_24, w_1_4, w_3_26, by decide, rfl, (Nat.le_of_ble_eq_true rfl), (Nat.le_of_ble_eq_true rfl)⟩ w_3_25 [] [0, 1, 2] rfl rfl rfl rfl (by decide) (Nat.le_of_ble_eq_true rfl) (Nat.le_of_ble_eq_true rfl) (Nat.le_of_ble_eq_true rfl) (fun r w hp => ?_) (fun _ _ _ z => z.elim)
              rcases hp with ⟨rfl, rfl, r5012⟩ | ⟨rfl, rfl, r5013, r5014⟩ | ⟨rfl, rfl, r5015, r5016⟩
              · rw [show Int32.toInt (-1) = (-1) from by decide] at r5012
                change G _ _ _ _ _ _ _ (.int 0 :: _) _ _ _
                refine G_ws (ws' := [(q4658, .inr (14, [.ref q4659, .int p4661, .int 0, .int o4914, .int p4664])), (q4659, .inr (15, [.ref q4660, .int p4665])), (q4660, .inl (I .byte, 8192, .inl f4666))]) (cs' := 0) (sl' := 0) rfl rfl rfl ?_
                refine G_if_eq 151 d_cX9_advance_138 (by decide +kernel) (fun _ => ?_) (fun hc => absurd hc (by decide))
                refine G_iload_n 1 d_cX9_advance_151 rfl ?_
                refine G_bipush 98 d_cX9_advance_152 (by decide +kernel) ?_
                refine G_icmp_ne 174 d_cX9_advance_154 (by decide +kernel) (fun _ => ?_) (fun hc => absurd (show False by have := gj_eq hc (show Int32.toInt 98 = 98 by decide); omega) not_false)
                refine G_iload_n 1 d_cX9_advance_174 rfl ?_
                refine G_callS (As := [.int z4918]) (wr := [(q4658, .inr (14, [.ref q4659, .int p4661, .int 0, .int o4914, .int p4664])), (q4659, .inr (15, [.ref q4660, .int p4665])), (q4660, .inl (I .byte, 8192, .inl f4666))]) (gV_ok D I) (ct_312_Signs_isLetter l hl0 D I z4918 ) d_cX9_advance_175 ⟨w_3_45, w_1_4, w_3_47, by decide, rfl, (Nat.le_of_ble_eq_true rfl), (Nat.le_of_ble_eq_true rfl)⟩ w_3_46 [] [0, 1, 2] rfl rfl rfl rfl (by decide) (Nat.le_of_ble_eq_true rfl) (Nat.le_of_ble_eq_true rfl) (Nat.le_of_ble_eq_true rfl) (fun r w hp => ?_) (fun _ _ _ z => z.elim)
                rcases hp with ⟨rfl, rfl, r5017⟩ | ⟨rfl, rfl, r5018, r5019⟩ | ⟨rfl, rfl, r5020, r5021⟩
                · exact absurd (show False by omega) not_false
                · exact absurd (show False by omega) not_false
                · change G _ _ _ _ _ _ _ (.int 1 :: _) _ _ _
                  refine G_ws (ws' := [(q4658, .inr (14, [.ref q4659, .int p4661, .int 0, .int o4914, .int p4664])), (q4659, .inr (15, [.ref q4660, .int p4665])), (q4660, .inl (I .byte, 8192, .inl f4666))]) (cs' := 0) (sl' := 0) rfl rfl rfl ?_
                  refine G_if_eq 188 d_cX9_advance_178 (by decide +kernel) (fun hc => absurd hc (by decide)) (fun _ => ?_)
                  refine G_aload_n 3 d_cX9_advance_181 rfl ?_
                  refine G_callV (As := []) (wr := []) (gV_ok D I) (ct_3805_Signs_takeWord l hl0 D I q4658 q4659 q4660 p4661 0 o4914 p4664 p4665 f4666 (gB_w bp4665' (by decide) (by decide)) bf4666 (by have qa0 : Int32.toInt (-1) = (-1) := (by decide); have qa1 : Int32.toInt 0 = 0 := (by decide); omega)) d_cX9_advance_182 ⟨w_3_48, w_1_4, w_3_51, by decide, rfl, (Nat.le_of_ble_eq_true rfl), (Nat.le_of_ble_eq_true rfl)⟩ w_3_50 w_p_4 0 rfl rfl [0, 1, 2] [] rfl rfl rfl rfl (by decide) (Nat.le_of_ble_eq_true rfl) (Nat.le_of_ble_eq_true rfl) (Nat.le_of_ble_eq_true rfl) (fun r w hp => ?_) (fun _ _ _ z => z.elim)
                  obtain ⟨o5022, o5023, rfl, rfl, bo5022, bo5023, x5024⟩ := hp
                  rw [show Int32.toInt 0 = 0 from by decide] at x5024
                  change G _ _ _ _ _ _ _ _ _ _ _
                  refine G_ws (ws' := [(q4658, .inr (14, [.ref q4659, .int o5022, .int 0, .int o4914, .int o5023])), (q4659, .inr (15, [.ref q4660, .int p4665])), (q4660, .inl (I .byte, 8192, .inl f4666))]) (cs' := 0) (sl' := 0) rfl rfl rfl ?_
                  refine G_goto 194 d_cX9_advance_185 (by decide +kernel) ?_
                  exact G_vret d_cX9_advance_194 rfl (Nat.le_of_ble_eq_true rfl) (Nat.le_of_ble_eq_true rfl) ⟨o5022, 0, o4914, o5023, rfl, rfl, bo5022, (gB_w (gBl (show Int32.toInt 0 = 0 by decide)) (by decide) (by decide)), (gB_w bo4914'' (by decide) (by decide)), bo5023, (by have qa0 : Int32.toInt (-1) = (-1) := (by decide); have qa1 : Int32.toInt 0 = 0 := (by decide); omega)⟩
              · rw [show Int32.toInt (-1) = (-1) from by decide] at r5013
                exact absurd (show False by omega) not_false
              · rw [show Int32.toInt (-1) = (-1) from by decide] at r5015
                exact absurd (show False by omega) not_false
          · have r4921' : gB z4918 48 255 := ⟨by omega, by omega⟩
            have r4921'' : gB z4918 48 57 := ⟨by omega, by omega⟩
            change G _ _ _ _ _ _ _ (.int 1 :: _) _ _ _
            refine G_ws (ws' := [(q4658, .inr (14, [.ref q4659, .int p4661, .int 0, .int o4914, .int p4664])), (q4659, .inr (15, [.ref q4660, .int p4665])), (q4660, .inl (I .byte, 8192, .inl f4666))]) (cs' := 0) (sl' := 0) rfl rfl rfl ?_
            refine G_if_ne 110 d_cX9_advance_90 (by decide +kernel) (fun _ => ?_) (fun hc => absurd hc (by decide))
            refine G_aload_n 3 d_cX9_advance_110 rfl ?_
            refine G_iload_n 1 d_cX9_advance_111 rfl ?_
            refine G_bipush 45 d_cX9_advance_112 (by decide +kernel) ?_
            refine G_icmp_ne 121 d_cX9_advance_114 (by decide +kernel) (fun _ => ?_) (fun hc => absurd (show False by have := gj_eq hc (show Int32.toInt 45 = 45 by decide); omega) not_false)
            refine G_iconst 0 d_cX9_advance_121 (by decide +kernel) ?_
            refine G_callV (As := [.int 0]) (wr := []) (gV_ok D I) (ct_628_Signs_takeNumber l hl0 D I q4658 q4659 q4660 0 p4661 0 o4914 p4664 p4665 f4666 (gB_w (gBl (show Int32.toInt 0 = 0 by decide)) (by decide) (by decide)) (gB_w bp4665' (by decide) (by decide)) bf4666 (by have qa0 : Int32.toInt (-1) = (-1) := (by decide); have qa1 : Int32.toInt 0 = 0 := (by decide); omega)) d_cX9_advance_122 ⟨w_3_27, w_1_4, w_3_30, by decide, rfl, (Nat.le_of_ble_eq_true rfl), (Nat.le_of_ble_eq_true rfl)⟩ w_3_29 w_p_1 0 rfl rfl [0, 1, 2] [] rfl rfl rfl rfl (by decide) (Nat.le_of_ble_eq_true rfl) (Nat.le_of_ble_eq_true rfl) (Nat.le_of_ble_eq_true rfl) (fun r w hp => ?_) (fun _ _ _ z => z.elim)
            obtain ⟨o5025, o5026, o5027, rfl, rfl, bo5025, bo5026, bo5027, x5028⟩ := hp
            change G _ _ _ _ _ _ _ _ _ _ _
            refine G_ws (ws' := [(q4658, .inr (14, [.ref q4659, .int o5025, .int o5026, .int o4914, .int o5027])), (q4659, .inr (15, [.ref q4660, .int p4665])), (q4660, .inl (I .byte, 8192, .inl f4666))]) (cs' := 0) (sl' := 0) rfl rfl rfl ?_
            refine G_goto 194 d_cX9_advance_125 (by decide +kernel) ?_
            exact G_vret d_cX9_advance_194 rfl (Nat.le_of_ble_eq_true rfl) (Nat.le_of_ble_eq_true rfl) ⟨o5025, o5026, o4914, o5027, rfl, rfl, (gB_w bo5025 (by decide) (by decide)), bo5026, (gB_w bo4914'' (by decide) (by decide)), bo5027, (by have qa0 : Int32.toInt (-1) = (-1) := (by decide); have qa1 : Int32.toInt 0 = 0 := (by decide); omega)⟩
        · have bz4938' : gB z4938 1 8191 := ⟨by omega, by omega⟩
          have bp4665'' : gB p4665 2 8192 := ⟨by omega, by omega⟩
          change G _ _ _ _ _ _ _ (.int z4942 :: _) _ _ _
          refine G_ws (ws' := [(q4658, .inr (14, [.ref q4659, .int p4661, .int p4662, .int o4914, .int p4664])), (q4659, .inr (15, [.ref q4660, .int p4665])), (q4660, .inl (I .byte, 8192, .inl f4666))]) (cs' := 0) (sl' := 0) rfl rfl rfl ?_
          refine G_istore_n (L' := [(3, .int z4942), (2, .int z4918), (1, .int 0), (0, .ref q4658)]) d_cX9_advance_59 (Nat.le_of_ble_eq_true rfl) rfl ?_
          refine G_aload_n 3 d_cX9_advance_60 rfl ?_
          refine G_iconst 0 d_cX9_advance_61 (by decide +kernel) ?_
          refine G_putf (ws' := [(q4658, .inr (14, [.ref q4659, .int p4661, .int 0, .int o4914, .int p4664])), (q4659, .inr (15, [.ref q4660, .int p4665])), (q4660, .inl (I .byte, 8192, .inl f4666))]) 0 2 d_cX9_advance_62 rfl (gk_X9 D I) (Nat.le_of_ble_eq_true rfl) w_1_81 rfl rfl rfl (Nat.le_of_ble_eq_true rfl) rfl ?_
          refine G_iload_n 1 d_cX9_advance_65 rfl ?_
          refine G_iconst (-1) d_cX9_advance_66 (by decide +kernel) ?_
          refine G_icmp_ne 86 d_cX9_advance_67 (by decide +kernel) (fun _ => ?_) (fun hc => absurd (show False by have := gj_eq hc (show Int32.toInt (-1) = (-1) by decide); omega) not_false)
          refine G_iload_n 1 d_cX9_advance_86 rfl ?_
          refine G_callS (As := [.int z4918]) (wr := [(q4658, .inr (14, [.ref q4659, .int p4661, .int 0, .int o4914, .int p4664])), (q4659, .inr (15, [.ref q4660, .int p4665])), (q4660, .inl (I .byte, 8192, .inl f4666))]) (gV_ok D I) (ct_304_Signs_isDigit l hl0 D I z4918 ) d_cX9_advance_87 ⟨w_3_24, w_1_4, w_3_26, by decide, rfl, (Nat.le_of_ble_eq_true rfl), (Nat.le_of_ble_eq_true rfl)⟩ w_3_25 [] [0, 1, 2] rfl rfl rfl rfl (by decide) (Nat.le_of_ble_eq_true rfl) (Nat.le_of_ble_eq_true rfl) (Nat.le_of_ble_eq_true rfl) (fun r w hp => ?_) (fun _ _ _ z => z.elim)
          rcases hp with ⟨rfl, rfl, r5029⟩ | ⟨rfl, rfl, r5030, r5031⟩ | ⟨rfl, rfl, r5032, r5033⟩
          · have r4921' : gB z4918 0 47 := ⟨by omega, by omega⟩
            change G _ _ _ _ _ _ _ (.int 0 :: _) _ _ _
            refine G_ws (ws' := [(q4658, .inr (14, [.ref q4659, .int p4661, .int 0, .int o4914, .int p4664])), (q4659, .inr (15, [.ref q4660, .int p4665])), (q4660, .inl (I .byte, 8192, .inl f4666))]) (cs' := 0) (sl' := 0) rfl rfl rfl ?_
            refine G_if_ne 110 d_cX9_advance_90 (by decide +kernel) (fun hc => absurd hc (by decide)) (fun _ => ?_)
            refine G_iload_n 1 d_cX9_advance_93 rfl ?_
            refine G_bipush 45 d_cX9_advance_94 (by decide +kernel) ?_
            refine G_icmp_ne 128 d_cX9_advance_96 (by decide +kernel) (fun hc5034 => ?_) (fun hc5034 => ?_)
            · have r5035 : z4918.toInt ≠ 45 := gj_neq hc5034 (show Int32.toInt 45 = 45 by decide)
              refine G_iload_n 1 d_cX9_advance_128 rfl ?_
              refine G_bipush 118 d_cX9_advance_129 (by decide +kernel) ?_
              refine G_icmp_ne 151 d_cX9_advance_131 (by decide +kernel) (fun _ => ?_) (fun hc => absurd (show False by have := gj_eq hc (show Int32.toInt 118 = 118 by decide); omega) not_false)
              refine G_iload_n 1 d_cX9_advance_151 rfl ?_
              refine G_bipush 98 d_cX9_advance_152 (by decide +kernel) ?_
              refine G_icmp_ne 174 d_cX9_advance_154 (by decide +kernel) (fun _ => ?_) (fun hc => absurd (show False by have := gj_eq hc (show Int32.toInt 98 = 98 by decide); omega) not_false)
              refine G_iload_n 1 d_cX9_advance_174 rfl ?_
              refine G_callS (As := [.int z4918]) (wr := [(q4658, .inr (14, [.ref q4659, .int p4661, .int 0, .int o4914, .int p4664])), (q4659, .inr (15, [.ref q4660, .int p4665])), (q4660, .inl (I .byte, 8192, .inl f4666))]) (gV_ok D I) (ct_312_Signs_isLetter l hl0 D I z4918 ) d_cX9_advance_175 ⟨w_3_45, w_1_4, w_3_47, by decide, rfl, (Nat.le_of_ble_eq_true rfl), (Nat.le_of_ble_eq_true rfl)⟩ w_3_46 [] [0, 1, 2] rfl rfl rfl rfl (by decide) (Nat.le_of_ble_eq_true rfl) (Nat.le_of_ble_eq_true rfl) (Nat.le_of_ble_eq_true rfl) (fun r w hp => ?_) (fun _ _ _ z => z.elim)
              rcases hp with ⟨rfl, rfl, r5036⟩ | ⟨rfl, rfl, r5037, r5038⟩ | ⟨rfl, rfl, r5039, r5040⟩
              · change G _ _ _ _ _ _ _ (.int 0 :: _) _ _ _
                refine G_ws (ws' := [(q4658, .inr (14, [.ref q4659, .int p4661, .int 0, .int o4914, .int p4664])), (q4659, .inr (15, [.ref q4660, .int p4665])), (q4660, .inl (I .byte, 8192, .inl f4666))]) (cs' := 0) (sl' := 0) rfl rfl rfl ?_
                refine G_if_eq 188 d_cX9_advance_178 (by decide +kernel) (fun _ => ?_) (fun hc => absurd hc (by decide))
                refine G_aload_n 3 d_cX9_advance_188 rfl ?_
                refine G_iload_n 1 d_cX9_advance_189 rfl ?_
                refine G_iload_n 0 d_cX9_advance_190 rfl ?_
                refine G_callV (As := [.int z4918, .int z4942]) (wr := []) (gV_ok D I) (ct_4624_Signs_takeMark l hl0 D I q4658 q4659 q4660 z4918 z4942 p4661 0 o4914 p4664 p4665 f4666 (gB_w bp4665'' (by decide) (by decide)) bf4666 (by have qa0 : Int32.toInt 0 = 0 := (by decide); omega)) d_cX9_advance_191 ⟨w_3_109, w_1_4, w_3_112, by decide, rfl, (Nat.le_of_ble_eq_true rfl), (Nat.le_of_ble_eq_true rfl)⟩ w_3_111 w_p_6 0 rfl rfl [0, 1, 2] [] rfl rfl rfl rfl (by decide) (Nat.le_of_ble_eq_true rfl) (Nat.le_of_ble_eq_true rfl) (Nat.le_of_ble_eq_true rfl) (fun r w hp => ?_) (fun _ _ _ z => z.elim)
                obtain ⟨o5041, o5042, o5043, rfl, rfl, bo5041, bo5042, bo5043, x5044⟩ := hp
                change G _ _ _ _ _ _ _ _ _ _ _
                refine G_ws (ws' := [(q4658, .inr (14, [.ref q4659, .int o5041, .int o5042, .int o4914, .int o5043])), (q4659, .inr (15, [.ref q4660, .int p4665])), (q4660, .inl (I .byte, 8192, .inl f4666))]) (cs' := 0) (sl' := 0) rfl rfl rfl ?_
                exact G_vret d_cX9_advance_194 rfl (Nat.le_of_ble_eq_true rfl) (Nat.le_of_ble_eq_true rfl) ⟨o5041, o5042, o4914, o5043, rfl, rfl, (gB_w bo5041 (by decide) (by decide)), (gB_w bo5042 (by decide) (by decide)), (gB_w bo4914'' (by decide) (by decide)), bo5043, (by have qa0 : Int32.toInt 0 = 0 := (by decide); omega)⟩
              · exact absurd (show False by omega) not_false
              · exact absurd (show False by omega) not_false
            · have r5045 : z4918.toInt = 45 := gj_eq hc5034 (show Int32.toInt 45 = 45 by decide)
              have r4921'' : gB z4918 45 45 := ⟨by omega, by omega⟩
              refine G_iload_n 0 d_cX9_advance_99 rfl ?_
              refine G_callS (As := [.int z4942]) (wr := [(q4658, .inr (14, [.ref q4659, .int p4661, .int 0, .int o4914, .int p4664])), (q4659, .inr (15, [.ref q4660, .int p4665])), (q4660, .inl (I .byte, 8192, .inl f4666))]) (gV_ok D I) (ct_304_Signs_isDigit l hl0 D I z4942 ) d_cX9_advance_100 ⟨w_3_24, w_1_4, w_3_26, by decide, rfl, (Nat.le_of_ble_eq_true rfl), (Nat.le_of_ble_eq_true rfl)⟩ w_3_25 [] [0, 1, 2] rfl rfl rfl rfl (by decide) (Nat.le_of_ble_eq_true rfl) (Nat.le_of_ble_eq_true rfl) (Nat.le_of_ble_eq_true rfl) (fun r w hp => ?_) (fun _ _ _ z => z.elim)
              rcases hp with ⟨rfl, rfl, r5046⟩ | ⟨rfl, rfl, r5047, r5048⟩ | ⟨rfl, rfl, r5049, r5050⟩
              · have r4945' : gB z4942 0 47 := ⟨by omega, by omega⟩
                change G _ _ _ _ _ _ _ (.int 0 :: _) _ _ _
                refine G_ws (ws' := [(q4658, .inr (14, [.ref q4659, .int p4661, .int 0, .int o4914, .int p4664])), (q4659, .inr (15, [.ref q4660, .int p4665])), (q4660, .inl (I .byte, 8192, .inl f4666))]) (cs' := 0) (sl' := 0) rfl rfl rfl ?_
                refine G_if_eq 128 d_cX9_advance_103 (by decide +kernel) (fun _ => ?_) (fun hc => absurd hc (by decide))
                refine G_iload_n 1 d_cX9_advance_128 rfl ?_
                refine G_bipush 118 d_cX9_advance_129 (by decide +kernel) ?_
                refine G_icmp_ne 151 d_cX9_advance_131 (by decide +kernel) (fun _ => ?_) (fun hc => absurd (show False by have := gj_eq hc (show Int32.toInt 118 = 118 by decide); omega) not_false)
                refine G_iload_n 1 d_cX9_advance_151 rfl ?_
                refine G_bipush 98 d_cX9_advance_152 (by decide +kernel) ?_
                refine G_icmp_ne 174 d_cX9_advance_154 (by decide +kernel) (fun _ => ?_) (fun hc => absurd (show False by have := gj_eq hc (show Int32.toInt 98 = 98 by decide); omega) not_false)
                refine G_iload_n 1 d_cX9_advance_174 rfl ?_
                refine G_callS (As := [.int z4918]) (wr := [(q4658, .inr (14, [.ref q4659, .int p4661, .int 0, .int o4914, .int p4664])), (q4659, .inr (15, [.ref q4660, .int p4665])), (q4660, .inl (I .byte, 8192, .inl f4666))]) (gV_ok D I) (ct_312_Signs_isLetter l hl0 D I z4918 ) d_cX9_advance_175 ⟨w_3_45, w_1_4, w_3_47, by decide, rfl, (Nat.le_of_ble_eq_true rfl), (Nat.le_of_ble_eq_true rfl)⟩ w_3_46 [] [0, 1, 2] rfl rfl rfl rfl (by decide) (Nat.le_of_ble_eq_true rfl) (Nat.le_of_ble_eq_true rfl) (Nat.le_of_ble_eq_true rfl) (fun r w hp => ?_) (fun _ _ _ z => z.elim)
                rcases hp with ⟨rfl, rfl, r5051⟩ | ⟨rfl, rfl, r5052, r5053⟩ | ⟨rfl, rfl, r5054, r5055⟩
                · change G _ _ _ _ _ _ _ (.int 0 :: _) _ _ _
                  refine G_ws (ws' := [(q4658, .inr (14, [.ref q4659, .int p4661, .int 0, .int o4914, .int p4664])), (q4659, .inr (15, [.ref q4660, .int p4665])), (q4660, .inl (I .byte, 8192, .inl f4666))]) (cs' := 0) (sl' := 0) rfl rfl rfl ?_
                  refine G_if_eq 188 d_cX9_advance_178 (by decide +kernel) (fun _ => ?_) (fun hc => absurd hc (by decide))
                  refine G_aload_n 3 d_cX9_advance_188 rfl ?_
                  refine G_iload_n 1 d_cX9_advance_189 rfl ?_
                  refine G_iload_n 0 d_cX9_advance_190 rfl ?_
                  refine G_callV (As := [.int z4918, .int z4942]) (wr := []) (gV_ok D I) (ct_4624_Signs_takeMark l hl0 D I q4658 q4659 q4660 z4918 z4942 p4661 0 o4914 p4664 p4665 f4666 (gB_w bp4665'' (by decide) (by decide)) bf4666 (by have qa0 : Int32.toInt 0 = 0 := (by decide); omega)) d_cX9_advance_191 ⟨w_3_109, w_1_4, w_3_112, by decide, rfl, (Nat.le_of_ble_eq_true rfl), (Nat.le_of_ble_eq_true rfl)⟩ w_3_111 w_p_6 0 rfl rfl [0, 1, 2] [] rfl rfl rfl rfl (by decide) (Nat.le_of_ble_eq_true rfl) (Nat.le_of_ble_eq_true rfl) (Nat.le_of_ble_eq_true rfl) (fun r w hp => ?_) (fun _ _ _ z => z.elim)
                  obtain ⟨o5056, o5057, o5058, rfl, rfl, bo5056, bo5057, bo5058, x5059⟩ := hp
                  change G _ _ _ _ _ _ _ _ _ _ _
                  refine G_ws (ws' := [(q4658, .inr (14, [.ref q4659, .int o5056, .int o5057, .int o4914, .int o5058])), (q4659, .inr (15, [.ref q4660, .int p4665])), (q4660, .inl (I .byte, 8192, .inl f4666))]) (cs' := 0) (sl' := 0) rfl rfl rfl ?_
                  exact G_vret d_cX9_advance_194 rfl (Nat.le_of_ble_eq_true rfl) (Nat.le_of_ble_eq_true rfl) ⟨o5056, o5057, o4914, o5058, rfl, rfl, (gB_w bo5056 (by decide) (by decide)), (gB_w bo5057 (by decide) (by decide)), (gB_w bo4914'' (by decide) (by decide)), bo5058, (by have qa0 : Int32.toInt 0 = 0 := (by decide); omega)⟩
                · exact absurd (show False by omega) not_false
                · exact absurd (show False by omega) not_false
              · have r4945' : gB z4942 48 255 := ⟨by omega, by omega⟩
                have r4945'' : gB z4942 58 255 := ⟨by omega, by omega⟩
                change G _ _ _ _ _ _ _ (.int 0 :: _) _ _ _
                refine G_ws (ws' := [(q4658, .inr (14, [.ref q4659, .int p4661, .int 0, .int o4914, .int p4664])), (q4659, .inr (15, [.ref q4660, .int p4665])), (q4660, .inl (I .byte, 8192, .inl f4666))]) (cs' := 0) (sl' := 0) rfl rfl rfl ?_
                refine G_if_eq 128 d_cX9_advance_103 (by decide +kernel) (fun _ => ?_) (fun hc => absurd hc (by decide))
                refine G_iload_n 1 d_cX9_advance_128 rfl ?_
                refine G_bipush 118 d_cX9_advance_129 (by decide +kernel) ?_
                refine G_icmp_ne 151 d_cX9_advance_131 (by decide +kernel) (fun _ => ?_) (fun hc => absurd (show False by have := gj_eq hc (show Int32.toInt 118 = 118 by decide); omega) not_false)
                refine G_iload_n 1 d_cX9_advance_151 rfl ?_
                refine G_bipush 98 d_cX9_advance_152 (by decide +kernel) ?_
                refine G_icmp_ne 174 d_cX9_advance_154 (by decide +kernel) (fun _ => ?_) (fun hc => absurd (show False by have := gj_eq hc (show Int32.toInt 98 = 98 by decide); omega) not_false)
                refine G_iload_n 1 d_cX9_advance_174 rfl ?_
                refine G_callS (As := [.int z4918]) (wr := [(q4658, .inr (14, [.ref q4659, .int p4661, .int 0, .int o4914, .int p4664])), (q4659, .inr (15, [.ref q4660, .int p4665])), (q4660, .inl (I .byte, 8192, .inl f4666))]) (gV_ok D I) (ct_312_Signs_isLetter l hl0 D I z4918 ) d_cX9_advance_175 ⟨w_3_45, w_1_4, w_3_47, by decide, rfl, (Nat.le_of_ble_eq_true rfl), (Nat.le_of_ble_eq_true rfl)⟩ w_3_46 [] [0, 1, 2] rfl rfl rfl rfl (by decide) (Nat.le_of_ble_eq_true rfl) (Nat.le_of_ble_eq_true rfl) (Nat.le_of_ble_eq_true rfl) (fun r w hp => ?_) (fun _ _ _ z => z.elim)
                rcases hp with ⟨rfl, rfl, r5060⟩ | ⟨rfl, rfl, r5061, r5062⟩ | ⟨rfl, rfl, r5063, r5064⟩
                · change G _ _ _ _ _ _ _ (.int 0 :: _) _ _ _
                  refine G_ws (ws' := [(q4658, .inr (14, [.ref q4659, .int p4661, .int 0, .int o4914, .int p4664])), (q4659, .inr (15, [.ref q4660, .int p4665])), (q4660, .inl (I .byte, 8192, .inl f4666))]) (cs' := 0) (sl' := 0) rfl rfl rfl ?_
                  refine G_if_eq 188 d_cX9_advance_178 (by decide +kernel) (fun _ => ?_) (fun hc => absurd hc (by decide))
                  refine G_aload_n 3 d_cX9_advance_188 rfl ?_
                  refine G_iload_n 1 d_cX9_advance_189 rfl ?_
                  refine G_iload_n 0 d_cX9_advance_190 rfl ?_
                  refine G_callV (As := [.int z4918, .int z4942]) (wr := []) (gV_ok D I) (ct_4624_Signs_takeMark l hl0 D I q4658 q4659 q4660 z4918 z4942 p4661 0 o4914 p4664 p4665 f4666 (gB_w bp4665'' (by decide) (by decide)) bf4666 (by have qa0 : Int32.toInt 0 = 0 := (by decide); omega)) d_cX9_advance_191 ⟨w_3_109, w_1_4, w_3_112, by decide, rfl, (Nat.le_of_ble_eq_true rfl), (Nat.le_of_ble_eq_true rfl)⟩ w_3_111 w_p_6 0 rfl rfl [0, 1, 2] [] rfl rfl rfl rfl (by decide) (Nat.le_of_ble_eq_true rfl) (Nat.le_of_ble_eq_true rfl) (Nat.le_of_ble_eq_true rfl) (fun r w hp => ?_) (fun _ _ _ z => z.elim)
                  obtain ⟨o5065, o5066, o5067, rfl, rfl, bo5065, bo5066, bo5067, x5068⟩ := hp
                  change G _ _ _ _ _ _ _ _ _ _ _
                  refine G_ws (ws' := [(q4658, .inr (14, [.ref q4659, .int o5065, .int o5066, .int o4914, .int o5067])), (q4659, .inr (15, [.ref q4660, .int p4665])), (q4660, .inl (I .byte, 8192, .inl f4666))]) (cs' := 0) (sl' := 0) rfl rfl rfl ?_
                  exact G_vret d_cX9_advance_194 rfl (Nat.le_of_ble_eq_true rfl) (Nat.le_of_ble_eq_true rfl) ⟨o5065, o5066, o4914, o5067, rfl, rfl, (gB_w bo5065 (by decide) (by decide)), (gB_w bo5066 (by decide) (by decide)), (gB_w bo4914'' (by decide) (by decide)), bo5067, (by have qa0 : Int32.toInt 0 = 0 := (by decide); omega)⟩
                · exact absurd (show False by omega) not_false
                · exact absurd (show False by omega) not_false
              · have r4945' : gB z4942 48 255 := ⟨by omega, by omega⟩
                have r4945'' : gB z4942 48 57 := ⟨by omega, by omega⟩
                change G _ _ _ _ _ _ _ (.int 1 :: _) _ _ _
                refine G_ws (ws' := [(q4658, .inr (14, [.ref q4659, .int p4661, .int 0, .int o4914, .int p4664])), (q4659, .inr (15, [.ref q4660, .int p4665])), (q4660, .inl (I .byte, 8192, .inl f4666))]) (cs' := 0) (sl' := 0) rfl rfl rfl ?_
                refine G_if_eq 128 d_cX9_advance_103 (by decide +kernel) (fun hc => absurd hc (by decide)) (fun _ => ?_)
                refine G_iload_n 2 d_cX9_advance_106 rfl ?_
                refine G_if_ne 128 d_cX9_advance_107 (by decide +kernel) (fun hc => absurd hc (by decide)) (fun _ => ?_)
                refine G_aload_n 3 d_cX9_advance_110 rfl ?_
                refine G_iload_n 1 d_cX9_advance_111 rfl ?_
                refine G_bipush 45 d_cX9_advance_112 (by decide +kernel) ?_
                refine G_icmp_ne 121 d_cX9_advance_114 (by decide +kernel) (fun hc => absurd (show False by have := gj_neq hc (show Int32.toInt 45 = 45 by decide); omega) not_false) (fun _ => ?_)
                refine G_iconst 1 d_cX9_advance_117 (by decide +kernel) ?_
                refine G_goto 122 d_cX9_advance_118 (by decide +kernel) ?_
                refine G_callV (As := [.int 1]) (wr := []) (gV_ok D I) (ct_628_Signs_takeNumber l hl0 D I q4658 q4659 q4660 1 p4661 0 o4914 p4664 p4665 f4666 (gB_w (gBl (show Int32.toInt 1 = 1 by decide)) (by decide) (by decide)) (gB_w bp4665'' (by decide) (by decide)) bf4666 (by have qa0 : Int32.toInt 0 = 0 := (by decide); have qa1 : Int32.toInt 1 = 1 := (by decide); omega)) d_cX9_advance_122 ⟨w_3_27, w_1_4, w_3_30, by decide, rfl, (Nat.le_of_ble_eq_true rfl), (Nat.le_of_ble_eq_true rfl)⟩ w_3_29 w_p_1 0 rfl rfl [0, 1, 2] [] rfl rfl rfl rfl (by decide) (Nat.le_of_ble_eq_true rfl) (Nat.le_of_ble_eq_true rfl) (Nat.le_of_ble_eq_true rfl) (fun r w hp => ?_) (fun _ _ _ z => z.elim)
                obtain ⟨o5069, o5070, o5071, rfl, rfl, bo5069, bo5070, bo5071, x5072⟩ := hp
                change G _ _ _ _ _ _ _ _ _ _ _
                refine G_ws (ws' := [(q4658, .inr (14, [.ref q4659, .int o5069, .int o5070, .int o4914, .int o5071])), (q4659, .inr (15, [.ref q4660, .int p4665])), (q4660, .inl (I .byte, 8192, .inl f4666))]) (cs' := 0) (sl' := 0) rfl rfl rfl ?_
                refine G_goto 194 d_cX9_advance_125 (by decide +kernel) ?_
                exact G_vret d_cX9_advance_194 rfl (Nat.le_of_ble_eq_true rfl) (Nat.le_of_ble_eq_true rfl) ⟨o5069, o5070, o4914, o5071, rfl, rfl, (gB_w bo5069 (by decide) (by decide)), bo5070, (gB_w bo4914'' (by decide) (by decide)), bo5071, (by have qa0 : Int32.toInt 0 = 0 := (by decide); omega)⟩
          · have r4921' : gB z4918 48 255 := ⟨by omega, by omega⟩
            have r4921'' : gB z4918 58 255 := ⟨by omega, by omega⟩
            change G _ _ _ _ _ _ _ (.int 0 :: _) _ _ _
            refine G_ws (ws' := [(q4658, .inr (14, [.ref q4659, .int p4661, .int 0, .int o4914, .int p4664])), (q4659, .inr (15, [.ref q4660, .int p4665])), (q4660, .inl (I .byte, 8192, .inl f4666))]) (cs' := 0) (sl' := 0) rfl rfl rfl ?_
            refine G_if_ne 110 d_cX9_advance_90 (by decide +kernel) (fun hc => absurd hc (by decide)) (fun _ => ?_)
            refine G_iload_n 1 d_cX9_advance_93 rfl ?_
            refine G_bipush 45 d_cX9_advance_94 (by decide +kernel) ?_
            refine G_icmp_ne 128 d_cX9_advance_96 (by decide +kernel) (fun _ => ?_) (fun hc => absurd (show False by have := gj_eq hc (show Int32.toInt 45 = 45 by decide); omega) not_false)
            refine G_iload_n 1 d_cX9_advance_128 rfl ?_
            refine G_bipush 118 d_cX9_advance_129 (by decide +kernel) ?_
            refine G_icmp_ne 151 d_cX9_advance_131 (by decide +kernel) (fun hc5073 => ?_) (fun hc5073 => ?_)
            · have r5074 : z4918.toInt ≠ 118 := gj_neq hc5073 (show Int32.toInt 118 = 118 by decide)
              refine G_iload_n 1 d_cX9_advance_151 rfl ?_
              refine G_bipush 98 d_cX9_advance_152 (by decide +kernel) ?_
              refine G_icmp_ne 174 d_cX9_advance_154 (by decide +kernel) (fun hc5075 => ?_) (fun hc5075 => ?_)
              · have r5076 : z4918.toInt ≠ 98 := gj_neq hc5075 (show Int32.toInt 98 = 98 by decide)
                refine G_iload_n 1 d_cX9_advance_174 rfl ?_
                refine G_callS (As := [.int z4918]) (wr := [(q4658, .inr (14, [.ref q4659, .int p4661, .int 0, .int o4914, .int p4664])), (q4659, .inr (15, [.ref q4660, .int p4665])), (q4660, .inl (I .byte, 8192, .inl f4666))]) (gV_ok D I) (ct_312_Signs_isLetter l hl0 D I z4918 ) d_cX9_advance_175 ⟨w_3_45, w_1_4, w_3_47, by decide, rfl, (Nat.le_of_ble_eq_true rfl), (Nat.le_of_ble_eq_true rfl)⟩ w_3_46 [] [0, 1, 2] rfl rfl rfl rfl (by decide) (Nat.le_of_ble_eq_true rfl) (Nat.le_of_ble_eq_true rfl) (Nat.le_of_ble_eq_true rfl) (fun r w hp => ?_) (fun _ _ _ z => z.elim)
                rcases hp with ⟨rfl, rfl, r5077⟩ | ⟨rfl, rfl, r5078, r5079⟩ | ⟨rfl, rfl, r5080, r5081⟩
                · have r4921''' : gB z4918 58 96 := ⟨by omega, by omega⟩
                  change G _ _ _ _ _ _ _ (.int 0 :: _) _ _ _
                  refine G_ws (ws' := [(q4658, .inr (14, [.ref q4659, .int p4661, .int 0, .int o4914, .int p4664])), (q4659, .inr (15, [.ref q4660, .int p4665])), (q4660, .inl (I .byte, 8192, .inl f4666))]) (cs' := 0) (sl' := 0) rfl rfl rfl ?_
                  refine G_if_eq 188 d_cX9_advance_178 (by decide +kernel) (fun _ => ?_) (fun hc => absurd hc (by decide))
                  refine G_aload_n 3 d_cX9_advance_188 rfl ?_
                  refine G_iload_n 1 d_cX9_advance_189 rfl ?_
                  refine G_iload_n 0 d_cX9_advance_190 rfl ?_
                  refine G_callV (As := [.int z4918, .int z4942]) (wr := []) (gV_ok D I) (ct_4624_Signs_takeMark l hl0 D I q4658 q4659 q4660 z4918 z4942 p4661 0 o4914 p4664 p4665 f4666 (gB_w bp4665'' (by decide) (by decide)) bf4666 (by have qa0 : Int32.toInt 0 = 0 := (by decide); omega)) d_cX9_advance_191 ⟨w_3_109, w_1_4, w_3_112, by decide, rfl, (Nat.le_of_ble_eq_true rfl), (Nat.le_of_ble_eq_true rfl)⟩ w_3_111 w_p_6 0 rfl rfl [0, 1, 2] [] rfl rfl rfl rfl (by decide) (Nat.le_of_ble_eq_true rfl) (Nat.le_of_ble_eq_true rfl) (Nat.le_of_ble_eq_true rfl) (fun r w hp => ?_) (fun _ _ _ z => z.elim)
                  obtain ⟨o5082, o5083, o5084, rfl, rfl, bo5082, bo5083, bo5084, x5085⟩ := hp
                  change G _ _ _ _ _ _ _ _ _ _ _
                  refine G_ws (ws' := [(q4658, .inr (14, [.ref q4659, .int o5082, .int o5083, .int o4914, .int o5084])), (q4659, .inr (15, [.ref q4660, .int p4665])), (q4660, .inl (I .byte, 8192, .inl f4666))]) (cs' := 0) (sl' := 0) rfl rfl rfl ?_
                  exact G_vret d_cX9_advance_194 rfl (Nat.le_of_ble_eq_true rfl) (Nat.le_of_ble_eq_true rfl) ⟨o5082, o5083, o4914, o5084, rfl, rfl, (gB_w bo5082 (by decide) (by decide)), (gB_w bo5083 (by decide) (by decide)), (gB_w bo4914'' (by decide) (by decide)), bo5084, (by have qa0 : Int32.toInt 0 = 0 := (by decide); omega)⟩
                · have r4921''' : gB z4918 97 255 := ⟨by omega, by omega⟩
                  have r4921'''' : gB z4918 123 255 := ⟨by omega, by omega⟩
                  change G _ _ _ _ _ _ _ (.int 0 :: _) _ _ _
                  refine G_ws (ws' := [(q4658, .inr (14, [.ref q4659, .int p4661, .int 0, .int o4914, .int p4664])), (q4659, .inr (15, [.ref q4660, .int p4665])), (q4660, .inl (I .byte, 8192, .inl f4666))]) (cs' := 0) (sl' := 0) rfl rfl rfl ?_
                  refine G_if_eq 188 d_cX9_advance_178 (by decide +kernel) (fun _ => ?_) (fun hc => absurd hc (by decide))
                  refine G_aload_n 3 d_cX9_advance_188 rfl ?_
                  refine G_iload_n 1 d_cX9_advance_189 rfl ?_
                  refine G_iload_n 0 d_cX9_advance_190 rfl ?_
                  refine G_callV (As := [.int z4918, .int z4942]) (wr := []) (gV_ok D I) (ct_4624_Signs_takeMark l hl0 D I q4658 q4659 q4660 z4918 z4942 p4661 0 o4914 p4664 p4665 f4666 (gB_w bp4665'' (by decide) (by decide)) bf4666 (by have qa0 : Int32.toInt 0 = 0 := (by decide); omega)) d_cX9_advance_191 ⟨w_3_109, w_1_4, w_3_112, by decide, rfl, (Nat.le_of_ble_eq_true rfl), (Nat.le_of_ble_eq_true rfl)⟩ w_3_111 w_p_6 0 rfl rfl [0, 1, 2] [] rfl rfl rfl rfl (by decide) (Nat.le_of_ble_eq_true rfl) (Nat.le_of_ble_eq_true rfl) (Nat.le_of_ble_eq_true rfl) (fun r w hp => ?_) (fun _ _ _ z => z.elim)
                  obtain ⟨o5086, o5087, o5088, rfl, rfl, bo5086, bo5087, bo5088, x5089⟩ := hp
                  change G _ _ _ _ _ _ _ _ _ _ _
                  refine G_ws (ws' := [(q4658, .inr (14, [.ref q4659, .int o5086, .int o5087, .int o4914, .int o5088])), (q4659, .inr (15, [.ref q4660, .int p4665])), (q4660, .inl (I .byte, 8192, .inl f4666))]) (cs' := 0) (sl' := 0) rfl rfl rfl ?_
                  exact G_vret d_cX9_advance_194 rfl (Nat.le_of_ble_eq_true rfl) (Nat.le_of_ble_eq_true rfl) ⟨o5086, o5087, o4914, o5088, rfl, rfl, (gB_w bo5086 (by decide) (by decide)), (gB_w bo5087 (by decide) (by decide)), (gB_w bo4914'' (by decide) (by decide)), bo5088, (by have qa0 : Int32.toInt 0 = 0 := (by decide); omega)⟩
                · have r4921''' : gB z4918 97 255 := ⟨by omega, by omega⟩
                  have r4921'''' : gB z4918 97 122 := ⟨by omega, by omega⟩
                  change G _ _ _ _ _ _ _ (.int 1 :: _) _ _ _
                  refine G_ws (ws' := [(q4658, .inr (14, [.ref q4659, .int p4661, .int 0, .int o4914, .int p4664])), (q4659, .inr (15, [.ref q4660, .int p4665])), (q4660, .inl (I .byte, 8192, .inl f4666))]) (cs' := 0) (sl' := 0) rfl rfl rfl ?_
                  refine G_if_eq 188 d_cX9_advance_178 (by decide +kernel) (fun hc => absurd hc (by decide)) (fun _ => ?_)
                  refine G_aload_n 3 d_cX9_advance_181 rfl ?_
                  refine G_callV (As := []) (wr := []) (gV_ok D I) (ct_3805_Signs_takeWord l hl0 D I q4658 q4659 q4660 p4661 0 o4914 p4664 p4665 f4666 (gB_w bp4665'' (by decide) (by decide)) bf4666 (by have qa0 : Int32.toInt 0 = 0 := (by decide); omega)) d_cX9_advance_182 ⟨w_3_48, w_1_4, w_3_51, by decide, rfl, (Nat.le_of_ble_eq_true rfl), (Nat.le_of_ble_eq_true rfl)⟩ w_3_50 w_p_4 0 rfl rfl [0, 1, 2] [] rfl rfl rfl rfl (by decide) (Nat.le_of_ble_eq_true rfl) (Nat.le_of_ble_eq_true rfl) (Nat.le_of_ble_eq_true rfl) (fun r w hp => ?_) (fun _ _ _ z => z.elim)
                  obtain ⟨o5090, o5091, rfl, rfl, bo5090, bo5091, x5092⟩ := hp
                  rw [show Int32.toInt 0 = 0 from by decide] at x5092
                  change G _ _ _ _ _ _ _ _ _ _ _
                  refine G_ws (ws' := [(q4658, .inr (14, [.ref q4659, .int o5090, .int 0, .int o4914, .int o5091])), (q4659, .inr (15, [.ref q4660, .int p4665])), (q4660, .inl (I .byte, 8192, .inl f4666))]) (cs' := 0) (sl' := 0) rfl rfl rfl ?_
                  refine G_goto 194 d_cX9_advance_185 (by decide +kernel) ?_
                  exact G_vret d_cX9_advance_194 rfl (Nat.le_of_ble_eq_true rfl) (Nat.le_of_ble_eq_true rfl) ⟨o5090, 0, o4914, o5091, rfl, rfl, bo5090, (gB_w (gBl (show Int32.toInt 0 = 0 by decide)) (by decide) (by decide)), (gB_w bo4914'' (by decide) (by decide)), bo5091, (by have qa0 : Int32.toInt 0 = 0 := (by decide); omega)⟩
              · have r5093 : z4918.toInt = 98 := gj_eq hc5075 (show Int32.toInt 98 = 98 by decide)
                have r4921''' : gB z4918 98 98 := ⟨by omega, by omega⟩
                refine G_iload_n 0 d_cX9_advance_157 rfl ?_
                refine G_callS (As := [.int z4942]) (wr := [(q4658, .inr (14, [.ref q4659, .int p4661, .int 0, .int o4914, .int p4664])), (q4659, .inr (15, [.ref q4660, .int p4665])), (q4660, .inl (I .byte, 8192, .inl f4666))]) (gV_ok D I) (ct_304_Signs_isDigit l hl0 D I z4942 ) d_cX9_advance_158 ⟨w_3_24, w_1_4, w_3_26, by decide, rfl, (Nat.le_of_ble_eq_true rfl), (Nat.le_of_ble_eq_true rfl)⟩ w_3_25 [] [0, 1, 2] rfl rfl rfl rfl (by decide) (Nat.le_of_ble_eq_true rfl) (Nat.le_of_ble_eq_true rfl) (Nat.le_of_ble_eq_true rfl) (fun r w hp => ?_) (fun _ _ _ z => z.elim)
                rcases hp with ⟨rfl, rfl, r5094⟩ | ⟨rfl, rfl, r5095, r5096⟩ | ⟨rfl, rfl, r5097, r5098⟩
                · have r4945' : gB z4942 0 47 := ⟨by omega, by omega⟩
                  change G _ _ _ _ _ _ _ (.int 0 :: _) _ _ _
                  refine G_ws (ws' := [(q4658, .inr (14, [.ref q4659, .int p4661, .int 0, .int o4914, .int p4664])), (q4659, .inr (15, [.ref q4660, .int p4665])), (q4660, .inl (I .byte, 8192, .inl f4666))]) (cs' := 0) (sl' := 0) rfl rfl rfl ?_
                  refine G_if_eq 174 d_cX9_advance_161 (by decide +kernel) (fun _ => ?_) (fun hc => absurd hc (by decide))
                  refine G_iload_n 1 d_cX9_advance_174 rfl ?_
                  refine G_callS (As := [.int z4918]) (wr := [(q4658, .inr (14, [.ref q4659, .int p4661, .int 0, .int o4914, .int p4664])), (q4659, .inr (15, [.ref q4660, .int p4665])), (q4660, .inl (I .byte, 8192, .inl f4666))]) (gV_ok D I) (ct_312_Signs_isLetter l hl0 D I z4918 ) d_cX9_advance_175 ⟨w_3_45, w_1_4, w_3_47, by decide, rfl, (Nat.le_of_ble_eq_true rfl), (Nat.le_of_ble_eq_true rfl)⟩ w_3_46 [] [0, 1, 2] rfl rfl rfl rfl (by decide) (Nat.le_of_ble_eq_true rfl) (Nat.le_of_ble_eq_true rfl) (Nat.le_of_ble_eq_true rfl) (fun r w hp => ?_) (fun _ _ _ z => z.elim)
                  rcases hp with ⟨rfl, rfl, r5099⟩ | ⟨rfl, rfl, r5100, r5101⟩ | ⟨rfl, rfl, r5102, r5103⟩
                  · exact absurd (show False by omega) not_false
                  · exact absurd (show False by omega) not_false
                  · change G _ _ _ _ _ _ _ (.int 1 :: _) _ _ _
                    refine G_ws (ws' := [(q4658, .inr (14, [.ref q4659, .int p4661, .int 0, .int o4914, .int p4664])), (q4659, .inr (15, [.ref q4660, .int p4665])), (q4660, .inl (I .byte, 8192, .inl f4666))]) (cs' := 0) (sl' := 0) rfl rfl rfl ?_
                    refine G_if_eq 188 d_cX9_advance_178 (by decide +kernel) (fun hc => absurd hc (by decide)) (fun _ => ?_)
                    refine G_aload_n 3 d_cX9_advance_181 rfl ?_
                    refine G_callV (As := []) (wr := []) (gV_ok D I) (ct_3805_Signs_takeWord l hl0 D I q4658 q4659 q4660 p4661 0 o4914 p4664 p4665 f4666 (gB_w bp4665'' (by decide) (by decide)) bf4666 (by have qa0 : Int32.toInt 0 = 0 := (by decide); omega)) d_cX9_advance_182 ⟨w_3_48, w_1_4, w_3_51, by decide, rfl, (Nat.le_of_ble_eq_true rfl), (Nat.le_of_ble_eq_true rfl)⟩ w_3_50 w_p_4 0 rfl rfl [0, 1, 2] [] rfl rfl rfl rfl (by decide) (Nat.le_of_ble_eq_true rfl) (Nat.le_of_ble_eq_true rfl) (Nat.le_of_ble_eq_true rfl) (fun r w hp => ?_) (fun _ _ _ z => z.elim)
                    obtain ⟨o5104, o5105, rfl, rfl, bo5104, bo5105, x5106⟩ := hp
                    rw [show Int32.toInt 0 = 0 from by decide] at x5106
                    change G _ _ _ _ _ _ _ _ _ _ _
                    refine G_ws (ws' := [(q4658, .inr (14, [.ref q4659, .int o5104, .int 0, .int o4914, .int o5105])), (q4659, .inr (15, [.ref q4660, .int p4665])), (q4660, .inl (I .byte, 8192, .inl f4666))]) (cs' := 0) (sl' := 0) rfl rfl rfl ?_
                    refine G_goto 194 d_cX9_advance_185 (by decide +kernel) ?_
                    exact G_vret d_cX9_advance_194 rfl (Nat.le_of_ble_eq_true rfl) (Nat.le_of_ble_eq_true rfl) ⟨o5104, 0, o4914, o5105, rfl, rfl, bo5104, (gB_w (gBl (show Int32.toInt 0 = 0 by decide)) (by decide) (by decide)), (gB_w bo4914'' (by decide) (by decide)), bo5105, (by have qa0 : Int32.toInt 0 = 0 := (by decide); omega)⟩
                · have r4945' : gB z4942 48 255 := ⟨by omega, by omega⟩
                  have r4945'' : gB z4942 58 255 := ⟨by omega, by omega⟩
                  change G _ _ _ _ _ _ _ (.int 0 :: _) _ _ _
                  refine G_ws (ws' := [(q4658, .inr (14, [.ref q4659, .int p4661, .int 0, .int o4914, .int p4664])), (q4659, .inr (15, [.ref q4660, .int p4665])), (q4660, .inl (I .byte, 8192, .inl f4666))]) (cs' := 0) (sl' := 0) rfl rfl rfl ?_
                  refine G_if_eq 174 d_cX9_advance_161 (by decide +kernel) (fun _ => ?_) (fun hc => absurd hc (by decide))
                  refine G_iload_n 1 d_cX9_advance_174 rfl ?_
                  refine G_callS (As := [.int z4918]) (wr := [(q4658, .inr (14, [.ref q4659, .int p4661, .int 0, .int o4914, .int p4664])), (q4659, .inr (15, [.ref q4660, .int p4665])), (q4660, .inl (I .byte, 8192, .inl f4666))]) (gV_ok D I) (ct_312_Signs_isLetter l hl0 D I z4918 ) d_cX9_advance_175 ⟨w_3_45, w_1_4, w_3_47, by decide, rfl, (Nat.le_of_ble_eq_true rfl), (Nat.le_of_ble_eq_true rfl)⟩ w_3_46 [] [0, 1, 2] rfl rfl rfl rfl (by decide) (Nat.le_of_ble_eq_true rfl) (Nat.le_of_ble_eq_true rfl) (Nat.le_of_ble_eq_true rfl) (fun r w hp => ?_) (fun _ _ _ z => z.elim)
                  rcases hp with ⟨rfl, rfl, r5107⟩ | ⟨rfl, rfl, r5108, r5109⟩ | ⟨rfl, rfl, r5110, r5111⟩
                  · exact absurd (show False by omega) not_false
                  · exact absurd (show False by omega) not_false
                  · change G _ _ _ _ _ _ _ (.int 1 :: _) _ _ _
                    refine G_ws (ws' := [(q4658, .inr (14, [.ref q4659, .int p4661, .int 0, .int o4914, .int p4664])), (q4659, .inr (15, [.ref q4660, .int p4665])), (q4660, .inl (I .byte, 8192, .inl f4666))]) (cs' := 0) (sl' := 0) rfl rfl rfl ?_
                    refine G_if_eq 188 d_cX9_advance_178 (by decide +kernel) (fun hc => absurd hc (by decide)) (fun _ => ?_)
                    refine G_aload_n 3 d_cX9_advance_181 rfl ?_
                    refine G_callV (As := []) (wr := []) (gV_ok D I) (ct_3805_Signs_takeWord l hl0 D I q4658 q4659 q4660 p4661 0 o4914 p4664 p4665 f4666 (gB_w bp4665'' (by decide) (by decide)) bf4666 (by have qa0 : Int32.toInt 0 = 0 := (by decide); omega)) d_cX9_advance_182 ⟨w_3_48, w_1_4, w_3_51, by decide, rfl, (Nat.le_of_ble_eq_true rfl), (Nat.le_of_ble_eq_true rfl)⟩ w_3_50 w_p_4 0 rfl rfl [0, 1, 2] [] rfl rfl rfl rfl (by decide) (Nat.le_of_ble_eq_true rfl) (Nat.le_of_ble_eq_true rfl) (Nat.le_of_ble_eq_true rfl) (fun r w hp => ?_) (fun _ _ _ z => z.elim)
                    obtain ⟨o5112, o5113, rfl, rfl, bo5112, bo5113, x5114⟩ := hp
                    rw [show Int32.toInt 0 = 0 from by decide] at x5114
                    change G _ _ _ _ _ _ _ _ _ _ _
                    refine G_ws (ws' := [(q4658, .inr (14, [.ref q4659, .int o5112, .int 0, .int o4914, .int o5113])), (q4659, .inr (15, [.ref q4660, .int p4665])), (q4660, .inl (I .byte, 8192, .inl f4666))]) (cs' := 0) (sl' := 0) rfl rfl rfl ?_
                    refine G_goto 194 d_cX9_advance_185 (by decide +kernel) ?_
                    exact G_vret d_cX9_advance_194 rfl (Nat.le_of_ble_eq_true rfl) (Nat.le_of_ble_eq_true rfl) ⟨o5112, 0, o4914, o5113, rfl, rfl, bo5112, (gB_w (gBl (show Int32.toInt 0 = 0 by decide)) (by decide) (by decide)), (gB_w bo4914'' (by decide) (by decide)), bo5113, (by have qa0 : Int32.toInt 0 = 0 := (by decide); omega)⟩
                · have r4945' : gB z4942 48 255 := ⟨by omega, by omega⟩
                  have r4945'' : gB z4942 48 57 := ⟨by omega, by omega⟩
                  change G _ _ _ _ _ _ _ (.int 1 :: _) _ _ _
                  refine G_ws (ws' := [(q4658, .inr (14, [.ref q4659, .int p4661, .int 0, .int o4914, .int p4664])), (q4659, .inr (15, [.ref q4660, .int p4665])), (q4660, .inl (I .byte, 8192, .inl f4666))]) (cs' := 0) (sl' := 0) rfl rfl rfl ?_
                  refine G_if_eq 174 d_cX9_advance_161 (by decide +kernel) (fun hc => absurd hc (by decide)) (fun _ => ?_)
                  refine G_aload_n 3 d_cX9_advance_164 rfl ?_
                  refine G_iconst 3 d_cX9_advance_165 (by decide +kernel) ?_
                  refine G_bipush 40 d_cX9_advance_166 (by decide +kernel) ?_
                  refine G_callV (As := [.int 3, .int 40]) (wr := []) (gV_ok D I) (ct_665_Signs_takeNamed l hl0 D I q4658 q4659 q4660 3 40 p4661 0 o4914 p4664 p4665 f4666 (gB_w (gBl (show Int32.toInt 3 = 3 by decide)) (by decide) (by decide)) (gB_w bp4665'' (by decide) (by decide)) bf4666 (by have qa0 : Int32.toInt 0 = 0 := (by decide); have qa1 : Int32.toInt 3 = 3 := (by decide); have qa2 : Int32.toInt 40 = 40 := (by decide); omega)) d_cX9_advance_168 ⟨w_3_41, w_1_4, w_3_44, by decide, rfl, (Nat.le_of_ble_eq_true rfl), (Nat.le_of_ble_eq_true rfl)⟩ w_3_43 w_p_3 0 rfl rfl [0, 1, 2] [] rfl rfl rfl rfl (by decide) (Nat.le_of_ble_eq_true rfl) (Nat.le_of_ble_eq_true rfl) (Nat.le_of_ble_eq_true rfl) (fun r w hp => ?_) (fun _ _ _ z => z.elim)
                  obtain ⟨o5115, o5116, o5117, rfl, rfl, bo5115, bo5116, bo5117, x5118⟩ := hp
                  change G _ _ _ _ _ _ _ _ _ _ _
                  refine G_ws (ws' := [(q4658, .inr (14, [.ref q4659, .int o5115, .int o5116, .int o4914, .int o5117])), (q4659, .inr (15, [.ref q4660, .int p4665])), (q4660, .inl (I .byte, 8192, .inl f4666))]) (cs' := 0) (sl' := 0) rfl rfl rfl ?_
                  refine G_goto 194 d_cX9_advance_171 (by decide +kernel) ?_
                  exact G_vret d_cX9_advance_194 rfl (Nat.le_of_ble_eq_true rfl) (Nat.le_of_ble_eq_true rfl) ⟨o5115, o5116, o4914, o5117, rfl, rfl, (gB_w bo5115 (by decide) (by decide)), bo5116, (gB_w bo4914'' (by decide) (by decide)), bo5117, (by have qa0 : Int32.toInt 0 = 0 := (by decide); omega)⟩
            · have r5119 : z4918.toInt = 118 := gj_eq hc5073 (show Int32.toInt 118 = 118 by decide)
              have r4921''' : gB z4918 118 118 := ⟨by omega, by omega⟩
              refine G_iload_n 0 d_cX9_advance_134 rfl ?_
              refine G_callS (As := [.int z4942]) (wr := [(q4658, .inr (14, [.ref q4659, .int p4661, .int 0, .int o4914, .int p4664])), (q4659, .inr (15, [.ref q4660, .int p4665])), (q4660, .inl (I .byte, 8192, .inl f4666))]) (gV_ok D I) (ct_304_Signs_isDigit l hl0 D I z4942 ) d_cX9_advance_135 ⟨w_3_24, w_1_4, w_3_26, by decide, rfl, (Nat.le_of_ble_eq_true rfl), (Nat.le_of_ble_eq_true rfl)⟩ w_3_25 [] [0, 1, 2] rfl rfl rfl rfl (by decide) (Nat.le_of_ble_eq_true rfl) (Nat.le_of_ble_eq_true rfl) (Nat.le_of_ble_eq_true rfl) (fun r w hp => ?_) (fun _ _ _ z => z.elim)
              rcases hp with ⟨rfl, rfl, r5120⟩ | ⟨rfl, rfl, r5121, r5122⟩ | ⟨rfl, rfl, r5123, r5124⟩
              · have r4945' : gB z4942 0 47 := ⟨by omega, by omega⟩
                change G _ _ _ _ _ _ _ (.int 0 :: _) _ _ _
                refine G_ws (ws' := [(q4658, .inr (14, [.ref q4659, .int p4661, .int 0, .int o4914, .int p4664])), (q4659, .inr (15, [.ref q4660, .int p4665])), (q4660, .inl (I .byte, 8192, .inl f4666))]) (cs' := 0) (sl' := 0) rfl rfl rfl ?_
                refine G_if_eq 151 d_cX9_advance_138 (by decide +kernel) (fun _ => ?_) (fun hc => absurd hc (by decide))
                refine G_iload_n 1 d_cX9_advance_151 rfl ?_
                refine G_bipush 98 d_cX9_advance_152 (by decide +kernel) ?_
                refine G_icmp_ne 174 d_cX9_advance_154 (by decide +kernel) (fun _ => ?_) (fun hc => absurd (show False by have := gj_eq hc (show Int32.toInt 98 = 98 by decide); omega) not_false)
                refine G_iload_n 1 d_cX9_advance_174 rfl ?_
                refine G_callS (As := [.int z4918]) (wr := [(q4658, .inr (14, [.ref q4659, .int p4661, .int 0, .int o4914, .int p4664])), (q4659, .inr (15, [.ref q4660, .int p4665])), (q4660, .inl (I .byte, 8192, .inl f4666))]) (gV_ok D I) (ct_312_Signs_isLetter l hl0 D I z4918 ) d_cX9_advance_175 ⟨w_3_45, w_1_4, w_3_47, by decide, rfl, (Nat.le_of_ble_eq_true rfl), (Nat.le_of_ble_eq_true rfl)⟩ w_3_46 [] [0, 1, 2] rfl rfl rfl rfl (by decide) (Nat.le_of_ble_eq_true rfl) (Nat.le_of_ble_eq_true rfl) (Nat.le_of_ble_eq_true rfl) (fun r w hp => ?_) (fun _ _ _ z => z.elim)
                rcases hp with ⟨rfl, rfl, r5125⟩ | ⟨rfl, rfl, r5126, r5127⟩ | ⟨rfl, rfl, r5128, r5129⟩
                · exact absurd (show False by omega) not_false
                · exact absurd (show False by omega) not_false
                · change G _ _ _ _ _ _ _ (.int 1 :: _) _ _ _
                  refine G_ws (ws' := [(q4658, .inr (14, [.ref q4659, .int p4661, .int 0, .int o4914, .int p4664])), (q4659, .inr (15, [.ref q4660, .int p4665])), (q4660, .inl (I .byte, 8192, .inl f4666))]) (cs' := 0) (sl' := 0) rfl rfl rfl ?_
                  refine G_if_eq 188 d_cX9_advance_178 (by decide +kernel) (fun hc => absurd hc (by decide)) (fun _ => ?_)
                  refine G_aload_n 3 d_cX9_advance_181 rfl ?_
                  refine G_callV (As := []) (wr := []) (gV_ok D I) (ct_3805_Signs_takeWord l hl0 D I q4658 q4659 q4660 p4661 0 o4914 p4664 p4665 f4666 (gB_w bp4665'' (by decide) (by decide)) bf4666 (by have qa0 : Int32.toInt 0 = 0 := (by decide); omega)) d_cX9_advance_182 ⟨w_3_48, w_1_4, w_3_51, by decide, rfl, (Nat.le_of_ble_eq_true rfl), (Nat.le_of_ble_eq_true rfl)⟩ w_3_50 w_p_4 0 rfl rfl [0, 1, 2] [] rfl rfl rfl rfl (by decide) (Nat.le_of_ble_eq_true rfl) (Nat.le_of_ble_eq_true rfl) (Nat.le_of_ble_eq_true rfl) (fun r w hp => ?_) (fun _ _ _ z => z.elim)
                  obtain ⟨o5130, o5131, rfl, rfl, bo5130, bo5131, x5132⟩ := hp
                  rw [show Int32.toInt 0 = 0 from by decide] at x5132
                  change G _ _ _ _ _ _ _ _ _ _ _
                  refine G_ws (ws' := [(q4658, .inr (14, [.ref q4659, .int o5130, .int 0, .int o4914, .int o5131])), (q4659, .inr (15, [.ref q4660, .int p4665])), (q4660, .inl (I .byte, 8192, .inl f4666))]) (cs' := 0) (sl' := 0) rfl rfl rfl ?_
                  refine G_goto 194 d_cX9_advance_185 (by decide +kernel) ?_
                  exact G_vret d_cX9_advance_194 rfl (Nat.le_of_ble_eq_true rfl) (Nat.le_of_ble_eq_true rfl) ⟨o5130, 0, o4914, o5131, rfl, rfl, bo5130, (gB_w (gBl (show Int32.toInt 0 = 0 by decide)) (by decide) (by decide)), (gB_w bo4914'' (by decide) (by decide)), bo5131, (by have qa0 : Int32.toInt 0 = 0 := (by decide); omega)⟩
              · have r4945' : gB z4942 48 255 := ⟨by omega, by omega⟩
                have r4945'' : gB z4942 58 255 := ⟨by omega, by omega⟩
                change G _ _ _ _ _ _ _ (.int 0 :: _) _ _ _
                refine G_ws (ws' := [(q4658, .inr (14, [.ref q4659, .int p4661, .int 0, .int o4914, .int p4664])), (q4659, .inr (15, [.ref q4660, .int p4665])), (q4660, .inl (I .byte, 8192, .inl f4666))]) (cs' := 0) (sl' := 0) rfl rfl rfl ?_
                refine G_if_eq 151 d_cX9_advance_138 (by decide +kernel) (fun _ => ?_) (fun hc => absurd hc (by decide))
                refine G_iload_n 1 d_cX9_advance_151 rfl ?_
                refine G_bipush 98 d_cX9_advance_152 (by decide +kernel) ?_
                refine G_icmp_ne 174 d_cX9_advance_154 (by decide +kernel) (fun _ => ?_) (fun hc => absurd (show False by have := gj_eq hc (show Int32.toInt 98 = 98 by decide); omega) not_false)
                refine G_iload_n 1 d_cX9_advance_174 rfl ?_
                refine G_callS (As := [.int z4918]) (wr := [(q4658, .inr (14, [.ref q4659, .int p4661, .int 0, .int o4914, .int p4664])), (q4659, .inr (15, [.ref q4660, .int p4665])), (q4660, .inl (I .byte, 8192, .inl f4666))]) (gV_ok D I) (ct_312_Signs_isLetter l hl0 D I z4918 ) d_cX9_advance_175 ⟨w_3_45, w_1_4, w_3_47, by decide, rfl, (Nat.le_of_ble_eq_true rfl), (Nat.le_of_ble_eq_true rfl)⟩ w_3_46 [] [0, 1, 2] rfl rfl rfl rfl (by decide) (Nat.le_of_ble_eq_true rfl) (Nat.le_of_ble_eq_true rfl) (Nat.le_of_ble_eq_true rfl) (fun r w hp => ?_) (fun _ _ _ z => z.elim)
                rcases hp with ⟨rfl, rfl, r5133⟩ | ⟨rfl, rfl, r5134, r5135⟩ | ⟨rfl, rfl, r5136, r5137⟩
                · exact absurd (show False by omega) not_false
                · exact absurd (show False by omega) not_false
                · change G _ _ _ _ _ _ _ (.int 1 :: _) _ _ _
                  refine G_ws (ws' := [(q4658, .inr (14, [.ref q4659, .int p4661, .int 0, .int o4914, .int p4664])), (q4659, .inr (15, [.ref q4660, .int p4665])), (q4660, .inl (I .byte, 8192, .inl f4666))]) (cs' := 0) (sl' := 0) rfl rfl rfl ?_
                  refine G_if_eq 188 d_cX9_advance_178 (by decide +kernel) (fun hc => absurd hc (by decide)) (fun _ => ?_)
                  refine G_aload_n 3 d_cX9_advance_181 rfl ?_
                  refine G_callV (As := []) (wr := []) (gV_ok D I) (ct_3805_Signs_takeWord l hl0 D I q4658 q4659 q4660 p4661 0 o4914 p4664 p4665 f4666 (gB_w bp4665'' (by decide) (by decide)) bf4666 (by have qa0 : Int32.toInt 0 = 0 := (by decide); omega)) d_cX9_advance_182 ⟨w_3_48, w_1_4, w_3_51, by decide, rfl, (Nat.le_of_ble_eq_true rfl), (Nat.le_of_ble_eq_true rfl)⟩ w_3_50 w_p_4 0 rfl rfl [0, 1, 2] [] rfl rfl rfl rfl (by decide) (Nat.le_of_ble_eq_true rfl) (Nat.le_of_ble_eq_true rfl) (Nat.le_of_ble_eq_true rfl) (fun r w hp => ?_) (fun _ _ _ z => z.elim)
                  obtain ⟨o5138, o5139, rfl, rfl, bo5138, bo5139, x5140⟩ := hp
                  rw [show Int32.toInt 0 = 0 from by decide] at x5140
                  change G _ _ _ _ _ _ _ _ _ _ _
                  refine G_ws (ws' := [(q4658, .inr (14, [.ref q4659, .int o5138, .int 0, .int o4914, .int o5139])), (q4659, .inr (15, [.ref q4660, .int p4665])), (q4660, .inl (I .byte, 8192, .inl f4666))]) (cs' := 0) (sl' := 0) rfl rfl rfl ?_
                  refine G_goto 194 d_cX9_advance_185 (by decide +kernel) ?_
                  exact G_vret d_cX9_advance_194 rfl (Nat.le_of_ble_eq_true rfl) (Nat.le_of_ble_eq_true rfl) ⟨o5138, 0, o4914, o5139, rfl, rfl, bo5138, (gB_w (gBl (show Int32.toInt 0 = 0 by decide)) (by decide) (by decide)), (gB_w bo4914'' (by decide) (by decide)), bo5139, (by have qa0 : Int32.toInt 0 = 0 := (by decide); omega)⟩
              · have r4945' : gB z4942 48 255 := ⟨by omega, by omega⟩
                have r4945'' : gB z4942 48 57 := ⟨by omega, by omega⟩
                change G _ _ _ _ _ _ _ (.int 1 :: _) _ _ _
                refine G_ws (ws' := [(q4658, .inr (14, [.ref q4659, .int p4661, .int 0, .int o4914, .int p4664])), (q4659, .inr (15, [.ref q4660, .int p4665])), (q4660, .inl (I .byte, 8192, .inl f4666))]) (cs' := 0) (sl' := 0) rfl rfl rfl ?_
                refine G_if_eq 151 d_cX9_advance_138 (by decide +kernel) (fun hc => absurd hc (by decide)) (fun _ => ?_)
                refine G_aload_n 3 d_cX9_advance_141 rfl ?_
                refine G_iconst 2 d_cX9_advance_142 (by decide +kernel) ?_
                refine G_bipush 100 d_cX9_advance_143 (by decide +kernel) ?_
                refine G_callV (As := [.int 2, .int 100]) (wr := []) (gV_ok D I) (ct_665_Signs_takeNamed l hl0 D I q4658 q4659 q4660 2 100 p4661 0 o4914 p4664 p4665 f4666 (gB_w (gBl (show Int32.toInt 2 = 2 by decide)) (by decide) (by decide)) (gB_w bp4665'' (by decide) (by decide)) bf4666 (by have qa0 : Int32.toInt 0 = 0 := (by decide); have qa1 : Int32.toInt 2 = 2 := (by decide); have qa2 : Int32.toInt 100 = 100 := (by decide); omega)) d_cX9_advance_145 ⟨w_3_41, w_1_4, w_3_44, by decide, rfl, (Nat.le_of_ble_eq_true rfl), (Nat.le_of_ble_eq_true rfl)⟩ w_3_43 w_p_3 0 rfl rfl [0, 1, 2] [] rfl rfl rfl rfl (by decide) (Nat.le_of_ble_eq_true rfl) (Nat.le_of_ble_eq_true rfl) (Nat.le_of_ble_eq_true rfl) (fun r w hp => ?_) (fun _ _ _ z => z.elim)
                obtain ⟨o5141, o5142, o5143, rfl, rfl, bo5141, bo5142, bo5143, x5144⟩ := hp
                change G _ _ _ _ _ _ _ _ _ _ _
                refine G_ws (ws' := [(q4658, .inr (14, [.ref q4659, .int o5141, .int o5142, .int o4914, .int o5143])), (q4659, .inr (15, [.ref q4660, .int p4665])), (q4660, .inl (I .byte, 8192, .inl f4666))]) (cs' := 0) (sl' := 0) rfl rfl rfl ?_
                refine G_goto 194 d_cX9_advance_148 (by decide +kernel) ?_
                exact G_vret d_cX9_advance_194 rfl (Nat.le_of_ble_eq_true rfl) (Nat.le_of_ble_eq_true rfl) ⟨o5141, o5142, o4914, o5143, rfl, rfl, (gB_w bo5141 (by decide) (by decide)), bo5142, (gB_w bo4914'' (by decide) (by decide)), bo5143, (by have qa0 : Int32.toInt 0 = 0 := (by decide); omega)⟩
          · have r4921' : gB z4918 48 255 := ⟨by omega, by omega⟩
            have r4921'' : gB z4918 48 57 := ⟨by omega, by omega⟩
            change G _ _ _ _ _ _ _ (.int 1 :: _) _ _ _
            refine G_ws (ws' := [(q4658, .inr (14, [.ref q4659, .int p4661, .int 0, .int o4914, .int p4664])), (q4659, .inr (15, [.ref q4660, .int p4665])), (q4660, .inl (I .byte, 8192, .inl f4666))]) (cs' := 0) (sl' := 0) rfl rfl rfl ?_
            refine G_if_ne 110 d_cX9_advance_90 (by decide +kernel) (fun _ => ?_) (fun hc => absurd hc (by decide))
            refine G_aload_n 3 d_cX9_advance_110 rfl ?_
            refine G_iload_n 1 d_cX9_advance_111 rfl ?_
            refine G_bipush 45 d_cX9_advance_112 (by decide +kernel) ?_
            refine G_icmp_ne 121 d_cX9_advance_114 (by decide +kernel) (fun _ => ?_) (fun hc => absurd (show False by have := gj_eq hc (show Int32.toInt 45 = 45 by decide); omega) not_false)
            refine G_iconst 0 d_cX9_advance_121 (by decide +kernel) ?_
            refine G_callV (As := [.int 0]) (wr := []) (gV_ok D I) (ct_628_Signs_takeNumber l hl0 D I q4658 q4659 q4660 0 p4661 0 o4914 p4664 p4665 f4666 (gB_w (gBl (show Int32.toInt 0 = 0 by decide)) (by decide) (by decide)) (gB_w bp4665'' (by decide) (by decide)) bf4666 (by have qa0 : Int32.toInt 0 = 0 := (by decide); omega)) d_cX9_advance_122 ⟨w_3_27, w_1_4, w_3_30, by decide, rfl, (Nat.le_of_ble_eq_true rfl), (Nat.le_of_ble_eq_true rfl)⟩ w_3_29 w_p_1 0 rfl rfl [0, 1, 2] [] rfl rfl rfl rfl (by decide) (Nat.le_of_ble_eq_true rfl) (Nat.le_of_ble_eq_true rfl) (Nat.le_of_ble_eq_true rfl) (fun r w hp => ?_) (fun _ _ _ z => z.elim)
            obtain ⟨o5145, o5146, o5147, rfl, rfl, bo5145, bo5146, bo5147, x5148⟩ := hp
            change G _ _ _ _ _ _ _ _ _ _ _
            refine G_ws (ws' := [(q4658, .inr (14, [.ref q4659, .int o5145, .int o5146, .int o4914, .int o5147])), (q4659, .inr (15, [.ref q4660, .int p4665])), (q4660, .inl (I .byte, 8192, .inl f4666))]) (cs' := 0) (sl' := 0) rfl rfl rfl ?_
            refine G_goto 194 d_cX9_advance_125 (by decide +kernel) ?_
            exact G_vret d_cX9_advance_194 rfl (Nat.le_of_ble_eq_true rfl) (Nat.le_of_ble_eq_true rfl) ⟨o5145, o5146, o4914, o5147, rfl, rfl, (gB_w bo5145 (by decide) (by decide)), bo5146, (gB_w bo4914'' (by decide) (by decide)), bo5147, (by have qa0 : Int32.toInt 0 = 0 := (by decide); omega)⟩
    · have r5149 : p4661.toInt = 4 := gj_eq hc4912 (show Int32.toInt 4 = 4 by decide)
      have bp4661' : gB p4661 4 4 := ⟨by omega, by omega⟩
      refine G_iconst 1 d_cX9_advance_16 (by decide +kernel) ?_
      refine G_goto 21 d_cX9_advance_17 (by decide +kernel) ?_
      refine G_istore_n (L' := [(1, .int 1), (0, .ref q4658)]) d_cX9_advance_21 (Nat.le_of_ble_eq_true rfl) rfl ?_
      refine G_aload_n 1 d_cX9_advance_22 rfl ?_
      refine G_aload_n 1 d_cX9_advance_23 rfl ?_
      refine G_aload_n 1 d_cX9_advance_24 rfl ?_
      refine G_getf 0 4 d_cX9_advance_25 rfl (gk_X9 D I) (Nat.le_of_ble_eq_true rfl) w_1_83 rfl ?_
      refine G_callV (As := [.int p4664]) (wr := []) (gV_ok D I) (ct_330_Signs_skipBlanks l hl0 D I q4658 q4659 q4660 p4664 p4661 p4662 p4663 p4664 p4665 f4666 bp4665 bf4666 (by have qa0 : Int32.toInt 1 = 1 := (by decide); omega)) d_cX9_advance_28 ⟨w_3_12, w_1_4, w_3_15, by decide, rfl, (Nat.le_of_ble_eq_true rfl), (Nat.le_of_ble_eq_true rfl)⟩ w_3_14 w_p_0 0 rfl rfl [0, 1, 2] [] rfl rfl rfl rfl (by decide) (Nat.le_of_ble_eq_true rfl) (Nat.le_of_ble_eq_true rfl) (Nat.le_of_ble_eq_true rfl) (fun r w hp => ?_) (fun _ _ _ z => z.elim)
      obtain ⟨o5150, rfl, rfl, bo5150⟩ := hp
      change G _ _ _ _ _ _ _ (.int o5150 :: _) _ _ _
      refine G_ws (ws' := [(q4658, .inr (14, [.ref q4659, .int p4661, .int p4662, .int p4663, .int p4664])), (q4659, .inr (15, [.ref q4660, .int p4665])), (q4660, .inl (I .byte, 8192, .inl f4666))]) (cs' := 0) (sl' := 0) rfl rfl rfl ?_
      refine G_putf (ws' := [(q4658, .inr (14, [.ref q4659, .int p4661, .int p4662, .int o5150, .int p4664])), (q4659, .inr (15, [.ref q4660, .int p4665])), (q4660, .inl (I .byte, 8192, .inl f4666))]) 0 3 d_cX9_advance_31 rfl (gk_X9 D I) (Nat.le_of_ble_eq_true rfl) w_1_82 rfl rfl rfl (Nat.le_of_ble_eq_true rfl) rfl ?_
      refine G_aload_n 1 d_cX9_advance_34 rfl ?_
      refine G_getf 0 0 d_cX9_advance_35 rfl (gk_X9 D I) (Nat.le_of_ble_eq_true rfl) w_1_79 rfl ?_
      refine G_aload_n 1 d_cX9_advance_38 rfl ?_
      refine G_getf 0 3 d_cX9_advance_39 rfl (gk_X9 D I) (Nat.le_of_ble_eq_true rfl) w_1_82 rfl ?_
      refine G_callV (As := [.int o5150]) (wr := [(q4658, .inr (14, [.ref q4659, .int p4661, .int p4662, .int o5150, .int p4664]))]) (gV_ok D I) (ct_31_Tape_byteAt l hl0 D I q4659 q4660 o5150 p4665 f4666 bp4665 bf4666) d_cX9_advance_42 ⟨w_3_20, w_1_2, w_3_23, by decide, rfl, (Nat.le_of_ble_eq_true rfl), (Nat.le_of_ble_eq_true rfl)⟩ w_3_21 w_3_22 1 rfl rfl [1, 2] [0] rfl rfl rfl rfl (by decide) (Nat.le_of_ble_eq_true rfl) (Nat.le_of_ble_eq_true rfl) (Nat.le_of_ble_eq_true rfl) (fun r w hp => ?_) (fun _ _ _ z => z.elim)
      rcases hp with ⟨rfl, rfl, r5151⟩ | ⟨rfl, rfl, r5152, r5153⟩ | ⟨z5154, rfl, rfl, r5155, r5156, r5157⟩
      · have bo5150' : gB o5150 (-2147483648) (-1) := ⟨by omega, by omega⟩
        change G _ _ _ _ _ _ _ (.int (-1) :: _) _ _ _
        refine G_ws (ws' := [(q4658, .inr (14, [.ref q4659, .int p4661, .int p4662, .int o5150, .int p4664])), (q4659, .inr (15, [.ref q4660, .int p4665])), (q4660, .inl (I .byte, 8192, .inl f4666))]) (cs' := 0) (sl' := 0) rfl rfl rfl ?_
        refine G_istore_n (L' := [(2, .int (-1)), (1, .int 1), (0, .ref q4658)]) d_cX9_advance_45 (Nat.le_of_ble_eq_true rfl) rfl ?_
        refine G_aload_n 2 d_cX9_advance_46 rfl ?_
        refine G_getf 0 0 d_cX9_advance_47 rfl (gk_X9 D I) (Nat.le_of_ble_eq_true rfl) w_1_79 rfl ?_
        refine G_aload_n 2 d_cX9_advance_50 rfl ?_
        refine G_getf 0 3 d_cX9_advance_51 rfl (gk_X9 D I) (Nat.le_of_ble_eq_true rfl) w_1_82 rfl ?_
        refine G_iconst 1 d_cX9_advance_54 (by decide +kernel) ?_
        refine G_iadd d_cX9_advance_55 (G_nam fun z5158 hz5158 => ?_)
        have ez5158 : z5158.toInt = o5150.toInt + 1 := by rw [gI_add hz5158 bo5150' (gBl (show Int32.toInt 1 = 1 by decide)) (by decide) (by decide), show Int32.toInt 1 = 1 from by decide]
        have bz5158 : gB z5158 (-2147483647) 0 := gB_add (gI_add hz5158 bo5150' (gBl (show Int32.toInt 1 = 1 by decide)) (by decide) (by decide)) bo5150' (gBl (show Int32.toInt 1 = 1 by decide)) (by decide) (by decide)
        refine G_callV (As := [.int z5158]) (wr := [(q4658, .inr (14, [.ref q4659, .int p4661, .int p4662, .int o5150, .int p4664]))]) (gV_ok D I) (ct_31_Tape_byteAt l hl0 D I q4659 q4660 z5158 p4665 f4666 bp4665 bf4666) d_cX9_advance_56 ⟨w_3_20, w_1_2, w_3_23, by decide, rfl, (Nat.le_of_ble_eq_true rfl), (Nat.le_of_ble_eq_true rfl)⟩ w_3_21 w_3_22 1 rfl rfl [1, 2] [0] rfl rfl rfl rfl (by decide) (Nat.le_of_ble_eq_true rfl) (Nat.le_of_ble_eq_true rfl) (Nat.le_of_ble_eq_true rfl) (fun r w hp => ?_) (fun _ _ _ z => z.elim)
        rcases hp with ⟨rfl, rfl, r5159⟩ | ⟨rfl, rfl, r5160, r5161⟩ | ⟨z5162, rfl, rfl, r5163, r5164, r5165⟩
        · have bz5158' : gB z5158 (-2147483647) (-1) := ⟨by omega, by omega⟩
          change G _ _ _ _ _ _ _ (.int (-1) :: _) _ _ _
          refine G_ws (ws' := [(q4658, .inr (14, [.ref q4659, .int p4661, .int p4662, .int o5150, .int p4664])), (q4659, .inr (15, [.ref q4660, .int p4665])), (q4660, .inl (I .byte, 8192, .inl f4666))]) (cs' := 0) (sl' := 0) rfl rfl rfl ?_
          refine G_istore_n (L' := [(3, .int (-1)), (2, .int (-1)), (1, .int 1), (0, .ref q4658)]) d_cX9_advance_59 (Nat.le_of_ble_eq_true rfl) rfl ?_
          refine G_aload_n 3 d_cX9_advance_60 rfl ?_
          refine G_iconst 0 d_cX9_advance_61 (by decide +kernel) ?_
          refine G_putf (ws' := [(q4658, .inr (14, [.ref q4659, .int p4661, .int 0, .int o5150, .int p4664])), (q4659, .inr (15, [.ref q4660, .int p4665])), (q4660, .inl (I .byte, 8192, .inl f4666))]) 0 2 d_cX9_advance_62 rfl (gk_X9 D I) (Nat.le_of_ble_eq_true rfl) w_1_81 rfl rfl rfl (Nat.le_of_ble_eq_true rfl) rfl ?_
          refine G_iload_n 1 d_cX9_advance_65 rfl ?_
          refine G_iconst (-1) d_cX9_advance_66 (by decide +kernel) ?_
          refine G_icmp_ne 86 d_cX9_advance_67 (by decide +kernel) (fun hc => absurd hc (by decide)) (fun _ => ?_)
          refine G_aload_n 3 d_cX9_advance_70 rfl ?_
          refine G_iconst 1 d_cX9_advance_71 (by decide +kernel) ?_
          refine G_putf (ws' := [(q4658, .inr (14, [.ref q4659, .int 1, .int 0, .int o5150, .int p4664])), (q4659, .inr (15, [.ref q4660, .int p4665])), (q4660, .inl (I .byte, 8192, .inl f4666))]) 0 1 d_cX9_advance_72 rfl (gk_X9 D I) (Nat.le_of_ble_eq_true rfl) w_1_80 rfl rfl rfl (Nat.le_of_ble_eq_true rfl) rfl ?_
          refine G_aload_n 3 d_cX9_advance_75 rfl ?_
          refine G_aload_n 3 d_cX9_advance_76 rfl ?_
          refine G_getf 0 3 d_cX9_advance_77 rfl (gk_X9 D I) (Nat.le_of_ble_eq_true rfl) w_1_82 rfl ?_
          refine G_putf (ws' := [(q4658, .inr (14, [.ref q4659, .int 1, .int 0, .int o5150, .int o5150])), (q4659, .inr (15, [.ref q4660, .int p4665])), (q4660, .inl (I .byte, 8192, .inl f4666))]) 0 4 d_cX9_advance_80 rfl (gk_X9 D I) (Nat.le_of_ble_eq_true rfl) w_1_83 rfl rfl rfl (Nat.le_of_ble_eq_true rfl) rfl ?_
          refine G_goto 194 d_cX9_advance_83 (by decide +kernel) ?_
          exact G_vret d_cX9_advance_194 rfl (Nat.le_of_ble_eq_true rfl) (Nat.le_of_ble_eq_true rfl) ⟨1, 0, o5150, o5150, rfl, rfl, (gB_w (gBl (show Int32.toInt 1 = 1 by decide)) (by decide) (by decide)), (gB_w (gBl (show Int32.toInt 0 = 0 by decide)) (by decide) (by decide)), (gB_w bo5150' (by decide) (by decide)), (gB_w bo5150' (by decide) (by decide)), (by have qa0 : Int32.toInt (-1) = (-1) := (by decide); have qa1 : Int32.toInt 0 = 0 := (by decide); have qa2 : Int32.toInt 1 = 1 := (by decide); omega)⟩
        · have bz5158' : gB z5158 0 0 := ⟨by omega, by omega⟩
          have bp4665' : gB p4665 0 0 := ⟨by omega, by omega⟩
          change G _ _ _ _ _ _ _ (.int (-1) :: _) _ _ _
          refine G_ws (ws' := [(q4658, .inr (14, [.ref q4659, .int p4661, .int p4662, .int o5150, .int p4664])), (q4659, .inr (15, [.ref q4660, .int p4665])), (q4660, .inl (I .byte, 8192, .inl f4666))]) (cs' := 0) (sl' := 0) rfl rfl rfl ?_
          refine G_istore_n (L' := [(3, .int (-1)), (2, .int (-1)), (1, .int 1), (0, .ref q4658)]) d_cX9_advance_59 (Nat.le_of_ble_eq_true rfl) rfl ?_
          refine G_aload_n 3 d_cX9_advance_60 rfl ?_
          refine G_iconst 0 d_cX9_advance_61 (by decide +kernel) ?_
          refine G_putf (ws' := [(q4658, .inr (14, [.ref q4659, .int p4661, .int 0, .int o5150, .int p4664])), (q4659, .inr (15, [.ref q4660, .int p4665])), (q4660, .inl (I .byte, 8192, .inl f4666))]) 0 2 d_cX9_advance_62 rfl (gk_X9 D I) (Nat.le_of_ble_eq_true rfl) w_1_81 rfl rfl rfl (Nat.le_of_ble_eq_true rfl) rfl ?_
          refine G_iload_n 1 d_cX9_advance_65 rfl ?_
          refine G_iconst (-1) d_cX9_advance_66 (by decide +kernel) ?_
          refine G_icmp_ne 86 d_cX9_advance_67 (by decide +kernel) (fun hc => absurd hc (by decide)) (fun _ => ?_)
          refine G_aload_n 3 d_cX9_advance_70 rfl ?_
          refine G_iconst 1 d_cX9_advance_71 (by decide +kernel) ?_
          refine G_putf (ws' := [(q4658, .inr (14, [.ref q4659, .int 1, .int 0, .int o5150, .int p4664])), (q4659, .inr (15, [.ref q4660, .int p4665])), (q4660, .inl (I .byte, 8192, .inl f4666))]) 0 1 d_cX9_advance_72 rfl (gk_X9 D I) (Nat.le_of_ble_eq_true rfl) w_1_80 rfl rfl rfl (Nat.le_of_ble_eq_true rfl) rfl ?_
          refine G_aload_n 3 d_cX9_advance_75 rfl ?_
          refine G_aload_n 3 d_cX9_advance_76 rfl ?_
          refine G_getf 0 3 d_cX9_advance_77 rfl (gk_X9 D I) (Nat.le_of_ble_eq_true rfl) w_1_82 rfl ?_
          refine G_putf (ws' := [(q4658, .inr (14, [.ref q4659, .int 1, .int 0, .int o5150, .int o5150])), (q4659, .inr (15, [.ref q4660, .int p4665])), (q4660, .inl (I .byte, 8192, .inl f4666))]) 0 4 d_cX9_advance_80 rfl (gk_X9 D I) (Nat.le_of_ble_eq_true rfl) w_1_83 rfl rfl rfl (Nat.le_of_ble_eq_true rfl) rfl ?_
          refine G_goto 194 d_cX9_advance_83 (by decide +kernel) ?_
          exact G_vret d_cX9_advance_194 rfl (Nat.le_of_ble_eq_true rfl) (Nat.le_of_ble_eq_true rfl) ⟨1, 0, o5150, o5150, rfl, rfl, (gB_w (gBl (show Int32.toInt 1 = 1 by decide)) (by decide) (by decide)), (gB_w (gBl (show Int32.toInt 0 = 0 by decide)) (by decide) (by decide)), (gB_w bo5150' (by decide) (by decide)), (gB_w bo5150' (by decide) (by decide)), (by have qa0 : Int32.toInt (-1) = (-1) := (by decide); have qa1 : Int32.toInt 0 = 0 := (by decide); have qa2 : Int32.toInt 1 = 1 := (by decide); omega)⟩
        · have bz5158' : gB z5158 0 0 := ⟨by omega, by omega⟩
          have bp4665' : gB p4665 1 8192 := ⟨by omega, by omega⟩
          change G _ _ _ _ _ _ _ (.int z5162 :: _) _ _ _
          refine G_ws (ws' := [(q4658, .inr (14, [.ref q4659, .int p4661, .int p4662, .int o5150, .int p4664])), (q4659, .inr (15, [.ref q4660, .int p4665])), (q4660, .inl (I .byte, 8192, .inl f4666))]) (cs' := 0) (sl' := 0) rfl rfl rfl ?_
          refine G_istore_n (L' := [(3, .int z5162), (2, .int (-1)), (1, .int 1), (0, .ref q4658)]) d_cX9_advance_59 (Nat.le_of_ble_eq_true rfl) rfl ?_
          refine G_aload_n 3 d_cX9_advance_60 rfl ?_
          refine G_iconst 0 d_cX9_advance_61 (by decide +kernel) ?_
          refine G_putf (ws' := [(q4658, .inr (14, [.ref q4659, .int p4661, .int 0, .int o5150, .int p4664])), (q4659, .inr (15, [.ref q4660, .int p4665])), (q4660, .inl (I .byte, 8192, .inl f4666))]) 0 2 d_cX9_advance_62 rfl (gk_X9 D I) (Nat.le_of_ble_eq_true rfl) w_1_81 rfl rfl rfl (Nat.le_of_ble_eq_true rfl) rfl ?_
          refine G_iload_n 1 d_cX9_advance_65 rfl ?_
          refine G_iconst (-1) d_cX9_advance_66 (by decide +kernel) ?_
          refine G_icmp_ne 86 d_cX9_advance_67 (by decide +kernel) (fun hc => absurd hc (by decide)) (fun _ => ?_)
          refine G_aload_n 3 d_cX9_advance_70 rfl ?_
          refine G_iconst 1 d_cX9_advance_71 (by decide +kernel) ?_
          refine G_putf (ws' := [(q4658, .inr (14, [.ref q4659, .int 1, .int 0, .int o5150, .int p4664])), (q4659, .inr (15, [.ref q4660, .int p4665])), (q4660, .inl (I .byte, 8192, .inl f4666))]) 0 1 d_cX9_advance_72 rfl (gk_X9 D I) (Nat.le_of_ble_eq_true rfl) w_1_80 rfl rfl rfl (Nat.le_of_ble_eq_true rfl) rfl ?_
          refine G_aload_n 3 d_cX9_advance_75 rfl ?_
          refine G_aload_n 3 d_cX9_advance_76 rfl ?_
          refine G_getf 0 3 d_cX9_advance_77 rfl (gk_X9 D I) (Nat.le_of_ble_eq_true rfl) w_1_82 rfl ?_
          refine G_putf (ws' := [(q4658, .inr (14, [.ref q4659, .int 1, .int 0, .int o5150, .int o5150])), (q4659, .inr (15, [.ref q4660, .int p4665])), (q4660, .inl (I .byte, 8192, .inl f4666))]) 0 4 d_cX9_advance_80 rfl (gk_X9 D I) (Nat.le_of_ble_eq_true rfl) w_1_83 rfl rfl rfl (Nat.le_of_ble_eq_true rfl) rfl ?_
          refine G_goto 194 d_cX9_advance_83 (by decide +kernel) ?_
          exact G_vret d_cX9_advance_194 rfl (Nat.le_of_ble_eq_true rfl) (Nat.le_of_ble_eq_true rfl) ⟨1, 0, o5150, o5150, rfl, rfl, (gB_w (gBl (show Int32.toInt 1 = 1 by decide)) (by decide) (by decide)), (gB_w (gBl (show Int32.toInt 0 = 0 by decide)) (by decide) (by decide)), (gB_w bo5150' (by decide) (by decide)), (gB_w bo5150' (by decide) (by decide)), (by have qa0 : Int32.toInt (-1) = (-1) := (by decide); have qa1 : Int32.toInt 0 = 0 := (by decide); have qa2 : Int32.toInt 1 = 1 := (by decide); omega)⟩
      · have bo5150' : gB o5150 0 8192 := ⟨by omega, by omega⟩
        change G _ _ _ _ _ _ _ (.int (-1) :: _) _ _ _
        refine G_ws (ws' := [(q4658, .inr (14, [.ref q4659, .int p4661, .int p4662, .int o5150, .int p4664])), (q4659, .inr (15, [.ref q4660, .int p4665])), (q4660, .inl (I .byte, 8192, .inl f4666))]) (cs' := 0) (sl' := 0) rfl rfl rfl ?_
        refine G_istore_n (L' := [(2, .int (-1)), (1, .int 1), (0, .ref q4658)]) d_cX9_advance_45 (Nat.le_of_ble_eq_true rfl) rfl ?_
        refine G_aload_n 2 d_cX9_advance_46 rfl ?_
        refine G_getf 0 0 d_cX9_advance_47 rfl (gk_X9 D I) (Nat.le_of_ble_eq_true rfl) w_1_79 rfl ?_
        refine G_aload_n 2 d_cX9_advance_50 rfl ?_
        refine G_getf 0 3 d_cX9_advance_51 rfl (gk_X9 D I) (Nat.le_of_ble_eq_true rfl) w_1_82 rfl ?_
        refine G_iconst 1 d_cX9_advance_54 (by decide +kernel) ?_
        refine G_iadd d_cX9_advance_55 (G_nam fun z5166 hz5166 => ?_)
        have ez5166 : z5166.toInt = o5150.toInt + 1 := by rw [gI_add hz5166 bo5150' (gBl (show Int32.toInt 1 = 1 by decide)) (by decide) (by decide), show Int32.toInt 1 = 1 from by decide]
        have bz5166 : gB z5166 1 8193 := gB_add (gI_add hz5166 bo5150' (gBl (show Int32.toInt 1 = 1 by decide)) (by decide) (by decide)) bo5150' (gBl (show Int32.toInt 1 = 1 by decide)) (by decide) (by decide)
        refine G_callV (As := [.int z5166]) (wr := [(q4658, .inr (14, [.ref q4659, .int p4661, .int p4662, .int o5150, .int p4664]))]) (gV_ok D I) (ct_31_Tape_byteAt l hl0 D I q4659 q4660 z5166 p4665 f4666 bp4665 bf4666) d_cX9_advance_56 ⟨w_3_20, w_1_2, w_3_23, by decide, rfl, (Nat.le_of_ble_eq_true rfl), (Nat.le_of_ble_eq_true rfl)⟩ w_3_21 w_3_22 1 rfl rfl [1, 2] [0] rfl rfl rfl rfl (by decide) (Nat.le_of_ble_eq_true rfl) (Nat.le_of_ble_eq_true rfl) (Nat.le_of_ble_eq_true rfl) (fun r w hp => ?_) (fun _ _ _ z => z.elim)
        rcases hp with ⟨rfl, rfl, r5167⟩ | ⟨rfl, rfl, r5168, r5169⟩ | ⟨z5170, rfl, rfl, r5171, r5172, r5173⟩
        · exact absurd (show False by omega) not_false
        · change G _ _ _ _ _ _ _ (.int (-1) :: _) _ _ _
          refine G_ws (ws' := [(q4658, .inr (14, [.ref q4659, .int p4661, .int p4662, .int o5150, .int p4664])), (q4659, .inr (15, [.ref q4660, .int p4665])), (q4660, .inl (I .byte, 8192, .inl f4666))]) (cs' := 0) (sl' := 0) rfl rfl rfl ?_
          refine G_istore_n (L' := [(3, .int (-1)), (2, .int (-1)), (1, .int 1), (0, .ref q4658)]) d_cX9_advance_59 (Nat.le_of_ble_eq_true rfl) rfl ?_
          refine G_aload_n 3 d_cX9_advance_60 rfl ?_
          refine G_iconst 0 d_cX9_advance_61 (by decide +kernel) ?_
          refine G_putf (ws' := [(q4658, .inr (14, [.ref q4659, .int p4661, .int 0, .int o5150, .int p4664])), (q4659, .inr (15, [.ref q4660, .int p4665])), (q4660, .inl (I .byte, 8192, .inl f4666))]) 0 2 d_cX9_advance_62 rfl (gk_X9 D I) (Nat.le_of_ble_eq_true rfl) w_1_81 rfl rfl rfl (Nat.le_of_ble_eq_true rfl) rfl ?_
          refine G_iload_n 1 d_cX9_advance_65 rfl ?_
          refine G_iconst (-1) d_cX9_advance_66 (by decide +kernel) ?_
          refine G_icmp_ne 86 d_cX9_advance_67 (by decide +kernel) (fun hc => absurd hc (by decide)) (fun _ => ?_)
          refine G_aload_n 3 d_cX9_advance_70 rfl ?_
          refine G_iconst 1 d_cX9_advance_71 (by decide +kernel) ?_
          refine G_putf (ws' := [(q4658, .inr (14, [.ref q4659, .int 1, .int 0, .int o5150, .int p4664])), (q4659, .inr (15, [.ref q4660, .int p4665])), (q4660, .inl (I .byte, 8192, .inl f4666))]) 0 1 d_cX9_advance_72 rfl (gk_X9 D I) (Nat.le_of_ble_eq_true rfl) w_1_80 rfl rfl rfl (Nat.le_of_ble_eq_true rfl) rfl ?_
          refine G_aload_n 3 d_cX9_advance_75 rfl ?_
          refine G_aload_n 3 d_cX9_advance_76 rfl ?_
          refine G_getf 0 3 d_cX9_advance_77 rfl (gk_X9 D I) (Nat.le_of_ble_eq_true rfl) w_1_82 rfl ?_
          refine G_putf (ws' := [(q4658, .inr (14, [.ref q4659, .int 1, .int 0, .int o5150, .int o5150])), (q4659, .inr (15, [.ref q4660, .int p4665])), (q4660, .inl (I .byte, 8192, .inl f4666))]) 0 4 d_cX9_advance_80 rfl (gk_X9 D I) (Nat.le_of_ble_eq_true rfl) w_1_83 rfl rfl rfl (Nat.le_of_ble_eq_true rfl) rfl ?_
          refine G_goto 194 d_cX9_advance_83 (by decide +kernel) ?_
          exact G_vret d_cX9_advance_194 rfl (Nat.le_of_ble_eq_true rfl) (Nat.le_of_ble_eq_true rfl) ⟨1, 0, o5150, o5150, rfl, rfl, (gB_w (gBl (show Int32.toInt 1 = 1 by decide)) (by decide) (by decide)), (gB_w (gBl (show Int32.toInt 0 = 0 by decide)) (by decide) (by decide)), (gB_w bo5150' (by decide) (by decide)), (gB_w bo5150' (by decide) (by decide)), (by have qa0 : Int32.toInt (-1) = (-1) := (by decide); have qa1 : Int32.toInt 0 = 0 := (by decide); have qa2 : Int32.toInt 1 = 1 := (by decide); omega)⟩
        · have bz5166' : gB z5166 1 8191 := ⟨by omega, by omega⟩
          have bp4665' : gB p4665 2 8192 := ⟨by omega, by omega⟩
          change G _ _ _ _ _ _ _ (.int z5170 :: _) _ _ _
          refine G_ws (ws' := [(q4658, .inr (14, [.ref q4659, .int p4661, .int p4662, .int o5150, .int p4664])), (q4659, .inr (15, [.ref q4660, .int p4665])), (q4660, .inl (I .byte, 8192, .inl f4666))]) (cs' := 0) (sl' := 0) rfl rfl rfl ?_
          refine G_istore_n (L' := [(3, .int z5170), (2, .int (-1)), (1, .int 1), (0, .ref q4658)]) d_cX9_advance_59 (Nat.le_of_ble_eq_true rfl) rfl ?_
          refine G_aload_n 3 d_cX9_advance_60 rfl ?_
          refine G_iconst 0 d_cX9_advance_61 (by decide +kernel) ?_
          refine G_putf (ws' := [(q4658, .inr (14, [.ref q4659, .int p4661, .int 0, .int o5150, .int p4664])), (q4659, .inr (15, [.ref q4660, .int p4665])), (q4660, .inl (I .byte, 8192, .inl f4666))]) 0 2 d_cX9_advance_62 rfl (gk_X9 D I) (Nat.le_of_ble_eq_true rfl) w_1_81 rfl rfl rfl (Nat.le_of_ble_eq_true rfl) rfl ?_
          refine G_iload_n 1 d_cX9_advance_65 rfl ?_
          refine G_iconst (-1) d_cX9_advance_66 (by decide +kernel) ?_
          refine G_icmp_ne 86 d_cX9_advance_67 (by decide +kernel) (fun hc => absurd hc (by decide)) (fun _ => ?_)
          refine G_aload_n 3 d_cX9_advance_70 rfl ?_
          refine G_iconst 1 d_cX9_advance_71 (by decide +kernel) ?_
          refine G_putf (ws' := [(q4658, .inr (14, [.ref q4659, .int 1, .int 0, .int o5150, .int p4664])), (q4659, .inr (15, [.ref q4660, .int p4665])), (q4660, .inl (I .byte, 8192, .inl f4666))]) 0 1 d_cX9_advance_72 rfl (gk_X9 D I) (Nat.le_of_ble_eq_true rfl) w_1_80 rfl rfl rfl (Nat.le_of_ble_eq_true rfl) rfl ?_
          refine G_aload_n 3 d_cX9_advance_75 rfl ?_
          refine G_aload_n 3 d_cX9_advance_76 rfl ?_
          refine G_getf 0 3 d_cX9_advance_77 rfl (gk_X9 D I) (Nat.le_of_ble_eq_true rfl) w_1_82 rfl ?_
          refine G_putf (ws' := [(q4658, .inr (14, [.ref q4659, .int 1, .int 0, .int o5150, .int o5150])), (q4659, .inr (15, [.ref q4660, .int p4665])), (q4660, .inl (I .byte, 8192, .inl f4666))]) 0 4 d_cX9_advance_80 rfl (gk_X9 D I) (Nat.le_of_ble_eq_true rfl) w_1_83 rfl rfl rfl (Nat.le_of_ble_eq_true rfl) rfl ?_
          refine G_goto 194 d_cX9_advance_83 (by decide +kernel) ?_
          exact G_vret d_cX9_advance_194 rfl (Nat.le_of_ble_eq_true rfl) (Nat.le_of_ble_eq_true rfl) ⟨1, 0, o5150, o5150, rfl, rfl, (gB_w (gBl (show Int32.toInt 1 = 1 by decide)) (by decide) (by decide)), (gB_w (gBl (show Int32.toInt 0 = 0 by decide)) (by decide) (by decide)), (gB_w bo5150' (by decide) (by decide)), (gB_w bo5150' (by decide) (by decide)), (by have qa0 : Int32.toInt (-1) = (-1) := (by decide); have qa1 : Int32.toInt 0 = 0 := (by decide); have qa2 : Int32.toInt 1 = 1 := (by decide); omega)⟩
      · have bo5150' : gB o5150 0 8192 := ⟨by omega, by omega⟩
        have bo5150'' : gB o5150 0 8191 := ⟨by omega, by omega⟩
        have bp4665' : gB p4665 1 8192 := ⟨by omega, by omega⟩
        change G _ _ _ _ _ _ _ (.int z5154 :: _) _ _ _
        refine G_ws (ws' := [(q4658, .inr (14, [.ref q4659, .int p4661, .int p4662, .int o5150, .int p4664])), (q4659, .inr (15, [.ref q4660, .int p4665])), (q4660, .inl (I .byte, 8192, .inl f4666))]) (cs' := 0) (sl' := 0) rfl rfl rfl ?_
        refine G_istore_n (L' := [(2, .int z5154), (1, .int 1), (0, .ref q4658)]) d_cX9_advance_45 (Nat.le_of_ble_eq_true rfl) rfl ?_
        refine G_aload_n 2 d_cX9_advance_46 rfl ?_
        refine G_getf 0 0 d_cX9_advance_47 rfl (gk_X9 D I) (Nat.le_of_ble_eq_true rfl) w_1_79 rfl ?_
        refine G_aload_n 2 d_cX9_advance_50 rfl ?_
        refine G_getf 0 3 d_cX9_advance_51 rfl (gk_X9 D I) (Nat.le_of_ble_eq_true rfl) w_1_82 rfl ?_
        refine G_iconst 1 d_cX9_advance_54 (by decide +kernel) ?_
        refine G_iadd d_cX9_advance_55 (G_nam fun z5174 hz5174 => ?_)
        have ez5174 : z5174.toInt = o5150.toInt + 1 := by rw [gI_add hz5174 bo5150'' (gBl (show Int32.toInt 1 = 1 by decide)) (by decide) (by decide), show Int32.toInt 1 = 1 from by decide]
        have bz5174 : gB z5174 1 8192 := gB_add (gI_add hz5174 bo5150'' (gBl (show Int32.toInt 1 = 1 by decide)) (by decide) (by decide)) bo5150'' (gBl (show Int32.toInt 1 = 1 by decide)) (by decide) (by decide)
        refine G_callV (As := [.int z5174]) (wr := [(q4658, .inr (14, [.ref q4659, .int p4661, .int p4662, .int o5150, .int p4664]))]) (gV_ok D I) (ct_31_Tape_byteAt l hl0 D I q4659 q4660 z5174 p4665 f4666 (gB_w bp4665' (by decide) (by decide)) bf4666) d_cX9_advance_56 ⟨w_3_20, w_1_2, w_3_23, by decide, rfl, (Nat.le_of_ble_eq_true rfl), (Nat.le_of_ble_eq_true rfl)⟩ w_3_21 w_3_22 1 rfl rfl [1, 2] [0] rfl rfl rfl rfl (by decide) (Nat.le_of_ble_eq_true rfl) (Nat.le_of_ble_eq_true rfl) (Nat.le_of_ble_eq_true rfl) (fun r w hp => ?_) (fun _ _ _ z => z.elim)
        rcases hp with ⟨rfl, rfl, r5175⟩ | ⟨rfl, rfl, r5176, r5177⟩ | ⟨z5178, rfl, rfl, r5179, r5180, r5181⟩
        · exact absurd (show False by omega) not_false
        · change G _ _ _ _ _ _ _ (.int (-1) :: _) _ _ _
          refine G_ws (ws' := [(q4658, .inr (14, [.ref q4659, .int p4661, .int p4662, .int o5150, .int p4664])), (q4659, .inr (15, [.ref q4660, .int p4665])), (q4660, .inl (I .byte, 8192, .inl f4666))]) (cs' := 0) (sl' := 0) rfl rfl rfl ?_
          refine G_istore_n (L' := [(3, .int (-1)), (2, .int z5154), (1, .int 1), (0, .ref q4658)]) d_cX9_advance_59 (Nat.le_of_ble_eq_true rfl) rfl ?_
          refine G_aload_n 3 d_cX9_advance_60 rfl ?_
          refine G_iconst 0 d_cX9_advance_61 (by decide +kernel) ?_
          refine G_putf (ws' := [(q4658, .inr (14, [.ref q4659, .int p4661, .int 0, .int o5150, .int p4664])), (q4659, .inr (15, [.ref q4660, .int p4665])), (q4660, .inl (I .byte, 8192, .inl f4666))]) 0 2 d_cX9_advance_62 rfl (gk_X9 D I) (Nat.le_of_ble_eq_true rfl) w_1_81 rfl rfl rfl (Nat.le_of_ble_eq_true rfl) rfl ?_
          refine G_iload_n 1 d_cX9_advance_65 rfl ?_
          refine G_iconst (-1) d_cX9_advance_66 (by decide +kernel) ?_
          refine G_icmp_ne 86 d_cX9_advance_67 (by decide +kernel) (fun _ => ?_) (fun hc => absurd (show False by have := gj_eq hc (show Int32.toInt (-1) = (-1) by decide); omega) not_false)
          refine G_iload_n 1 d_cX9_advance_86 rfl ?_
          refine G_callS (As := [.int z5154]) (wr := [(q4658, .inr (14, [.ref q4659, .int p4661, .int 0, .int o5150, .int p4664])), (q4659, .inr (15, [.ref q4660, .int p4665])), (q4660, .inl (I .byte, 8192, .inl f4666))]) (gV_ok D I) (ct_304_Signs_isDigit l hl0 D I z5154 ) d_cX9_advance_87 ⟨w_3_24, w_1_4, w_3_26, by decide, rfl, (Nat.le_of_ble_eq_true rfl), (Nat.le_of_ble_eq_true rfl)⟩ w_3_25 [] [0, 1, 2] rfl rfl rfl rfl (by decide) (Nat.le_of_ble_eq_true rfl) (Nat.le_of_ble_eq_true rfl) (Nat.le_of_ble_eq_true rfl) (fun r w hp => ?_) (fun _ _ _ z => z.elim)
          rcases hp with ⟨rfl, rfl, r5182⟩ | ⟨rfl, rfl, r5183, r5184⟩ | ⟨rfl, rfl, r5185, r5186⟩
          · have r5157' : gB z5154 0 47 := ⟨by omega, by omega⟩
            change G _ _ _ _ _ _ _ (.int 0 :: _) _ _ _
            refine G_ws (ws' := [(q4658, .inr (14, [.ref q4659, .int p4661, .int 0, .int o5150, .int p4664])), (q4659, .inr (15, [.ref q4660, .int p4665])), (q4660, .inl (I .byte, 8192, .inl f4666))]) (cs' := 0) (sl' := 0) rfl rfl rfl ?_
            refine G_if_ne 110 d_cX9_advance_90 (by decide +kernel) (fun hc => absurd hc (by decide)) (fun _ => ?_)
            refine G_iload_n 1 d_cX9_advance_93 rfl ?_
            refine G_bipush 45 d_cX9_advance_94 (by decide +kernel) ?_
            refine G_icmp_ne 128 d_cX9_advance_96 (by decide +kernel) (fun hc5187 => ?_) (fun hc5187 => ?_)
            · have r5188 : z5154.toInt ≠ 45 := gj_neq hc5187 (show Int32.toInt 45 = 45 by decide)
              refine G_iload_n 1 d_cX9_advance_128 rfl ?_
              refine G_bipush 118 d_cX9_advance_129 (by decide +kernel) ?_
              refine G_icmp_ne 151 d_cX9_advance_131 (by decide +kernel) (fun _ => ?_) (fun hc => absurd (show False by have := gj_eq hc (show Int32.toInt 118 = 118 by decide); omega) not_false)
              refine G_iload_n 1 d_cX9_advance_151 rfl ?_
              refine G_bipush 98 d_cX9_advance_152 (by decide +kernel) ?_
              refine G_icmp_ne 174 d_cX9_advance_154 (by decide +kernel) (fun _ => ?_) (fun hc => absurd (show False by have := gj_eq hc (show Int32.toInt 98 = 98 by decide); omega) not_false)
              refine G_iload_n 1 d_cX9_advance_174 rfl ?_
              refine G_callS (As := [.int z5154]) (wr := [(q4658, .inr (14, [.ref q4659, .int p4661, .int 0, .int o5150, .int p4664])), (q4659, .inr (15, [.ref q4660, .int p4665])), (q4660, .inl (I .byte, 8192, .inl f4666))]) (gV_ok D I) (ct_312_Signs_isLetter l hl0 D I z5154 ) d_cX9_advance_175 ⟨w_3_45, w_1_4, w_3_47, by decide, rfl, (Nat.le_of_ble_eq_true rfl), (Nat.le_of_ble_eq_true rfl)⟩ w_3_46 [] [0, 1, 2] rfl rfl rfl rfl (by decide) (Nat.le_of_ble_eq_true rfl) (Nat.le_of_ble_eq_true rfl) (Nat.le_of_ble_eq_true rfl) (fun r w hp => ?_) (fun _ _ _ z => z.elim)
              rcases hp with ⟨rfl, rfl, r5189⟩ | ⟨rfl, rfl, r5190, r5191⟩ | ⟨rfl, rfl, r5192, r5193⟩
              · change G _ _ _ _ _ _ _ (.int 0 :: _) _ _ _
                refine G_ws (ws' := [(q4658, .inr (14, [.ref q4659, .int p4661, .int 0, .int o5150, .int p4664])), (q4659, .inr (15, [.ref q4660, .int p4665])), (q4660, .inl (I .byte, 8192, .inl f4666))]) (cs' := 0) (sl' := 0) rfl rfl rfl ?_
                refine G_if_eq 188 d_cX9_advance_178 (by decide +kernel) (fun _ => ?_) (fun hc => absurd hc (by decide))
                refine G_aload_n 3 d_cX9_advance_188 rfl ?_
                refine G_iload_n 1 d_cX9_advance_189 rfl ?_
                refine G_iload_n 0 d_cX9_advance_190 rfl ?_
                refine G_callV (As := [.int z5154, .int (-1)]) (wr := []) (gV_ok D I) (ct_4624_Signs_takeMark l hl0 D I q4658 q4659 q4660 z5154 (-1) p4661 0 o5150 p4664 p4665 f4666 (gB_w bp4665' (by decide) (by decide)) bf4666 (by have qa0 : Int32.toInt (-1) = (-1) := (by decide); have qa1 : Int32.toInt 0 = 0 := (by decide); have qa2 : Int32.toInt 1 = 1 := (by decide); omega)) d_cX9_advance_191 ⟨w_3_109, w_1_4, w_3_112, by decide, rfl, (Nat.le_of_ble_eq_true rfl), (Nat.le_of_ble_eq_true rfl)⟩ w_3_111 w_p_6 0 rfl rfl [0, 1, 2] [] rfl rfl rfl rfl (by decide) (Nat.le_of_ble_eq_true rfl) (Nat.le_of_ble_eq_true rfl) (Nat.le_of_ble_eq_true rfl) (fun r w hp => ?_) (fun _ _ _ z => z.elim)
                obtain ⟨o5194, o5195, o5196, rfl, rfl, bo5194, bo5195, bo5196, x5197⟩ := hp
                change G _ _ _ _ _ _ _ _ _ _ _
                refine G_ws (ws' := [(q4658, .inr (14, [.ref q4659, .int o5194, .int o5195, .int o5150, .int o5196])), (q4659, .inr (15, [.ref q4660, .int p4665])), (q4660, .inl (I .byte, 8192, .inl f4666))]) (cs' := 0) (sl' := 0) rfl rfl rfl ?_
                exact G_vret d_cX9_advance_194 rfl (Nat.le_of_ble_eq_true rfl) (Nat.le_of_ble_eq_true rfl) ⟨o5194, o5195, o5150, o5196, rfl, rfl, (gB_w bo5194 (by decide) (by decide)), (gB_w bo5195 (by decide) (by decide)), (gB_w bo5150'' (by decide) (by decide)), bo5196, (by have qa0 : Int32.toInt (-1) = (-1) := (by decide); have qa1 : Int32.toInt 1 = 1 := (by decide); omega)⟩
              · exact absurd (show False by omega) not_false
              · exact absurd (show False by omega) not_false
            · have r5198 : z5154.toInt = 45 := gj_eq hc5187 (show Int32.toInt 45 = 45 by decide)
              have r5157'' : gB z5154 45 45 := ⟨by omega, by omega⟩
              refine G_iload_n 0 d_cX9_advance_99 rfl ?_
              refine G_callS (As := [.int (-1)]) (wr := [(q4658, .inr (14, [.ref q4659, .int p4661, .int 0, .int o5150, .int p4664])), (q4659, .inr (15, [.ref q4660, .int p4665])), (q4660, .inl (I .byte, 8192, .inl f4666))]) (gV_ok D I) (ct_304_Signs_isDigit l hl0 D I (-1) ) d_cX9_advance_100 ⟨w_3_24, w_1_4, w_3_26, by decide, rfl, (Nat.le_of_ble_eq_true rfl), (Nat.le_of_ble_eq_true rfl)⟩ w_3_25 [] [0, 1, 2] rfl rfl rfl rfl (by decide) (Nat.le_of_ble_eq_true rfl) (Nat.le_of_ble_eq_true rfl) (Nat.le_of_ble_eq_true rfl) (fun r w hp => ?_) (fun _ _ _ z => z.elim)
              rcases hp with ⟨rfl, rfl, r5199⟩ | ⟨rfl, rfl, r5200, r5201⟩ | ⟨rfl, rfl, r5202, r5203⟩
              · rw [show Int32.toInt (-1) = (-1) from by decide] at r5199
                change G _ _ _ _ _ _ _ (.int 0 :: _) _ _ _
                refine G_ws (ws' := [(q4658, .inr (14, [.ref q4659, .int p4661, .int 0, .int o5150, .int p4664])), (q4659, .inr (15, [.ref q4660, .int p4665])), (q4660, .inl (I .byte, 8192, .inl f4666))]) (cs' := 0) (sl' := 0) rfl rfl rfl ?_
                refine G_if_eq 128 d_cX9_advance_103 (by decide +kernel) (fun _ => ?_) (fun hc => absurd hc (by decide))
                refine G_iload_n 1 d_cX9_advance_128 rfl ?_
                refine G_bipush 118 d_cX9_advance_129 (by decide +kernel) ?_
                refine G_icmp_ne 151 d_cX9_advance_131 (by decide +kernel) (fun _ => ?_) (fun hc => absurd (show False by have := gj_eq hc (show Int32.toInt 118 = 118 by decide); omega) not_false)
                refine G_iload_n 1 d_cX9_advance_151 rfl ?_
                refine G_bipush 98 d_cX9_advance_152 (by decide +kernel) ?_
                refine G_icmp_ne 174 d_cX9_advance_154 (by decide +kernel) (fun _ => ?_) (fun hc => absurd (show False by have := gj_eq hc (show Int32.toInt 98 = 98 by decide); omega) not_false)
                refine G_iload_n 1 d_cX9_advance_174 rfl ?_
                refine G_callS (As := [.int z5154]) (wr := [(q4658, .inr (14, [.ref q4659, .int p4661, .int 0, .int o5150, .int p4664])), (q4659, .inr (15, [.ref q4660, .int p4665])), (q4660, .inl (I .byte, 8192, .inl f4666))]) (gV_ok D I) (ct_312_Signs_isLetter l hl0 D I z5154 ) d_cX9_advance_175 ⟨w_3_45, w_1_4, w_3_47, by decide, rfl, (Nat.le_of_ble_eq_true rfl), (Nat.le_of_ble_eq_true rfl)⟩ w_3_46 [] [0, 1, 2] rfl rfl rfl rfl (by decide) (Nat.le_of_ble_eq_true rfl) (Nat.le_of_ble_eq_true rfl) (Nat.le_of_ble_eq_true rfl) (fun r w hp => ?_) (fun _ _ _ z => z.elim)
                rcases hp with ⟨rfl, rfl, r5204⟩ | ⟨rfl, rfl, r5205, r5206⟩ | ⟨rfl, rfl, r5207, r5208⟩
                · change G _ _ _ _ _ _ _ (.int 0 :: _) _ _ _
                  refine G_ws (ws' := [(q4658, .inr (14, [.ref q4659, .int p4661, .int 0, .int o5150, .int p4664])), (q4659, .inr (15, [.ref q4660, .int p4665])), (q4660, .inl (I .byte, 8192, .inl f4666))]) (cs' := 0) (sl' := 0) rfl rfl rfl ?_
                  refine G_if_eq 188 d_cX9_advance_178 (by decide +kernel) (fun _ => ?_) (fun hc => absurd hc (by decide))
                  refine G_aload_n 3 d_cX9_advance_188 rfl ?_
                  refine G_iload_n 1 d_cX9_advance_189 rfl ?_
                  refine G_iload_n 0 d_cX9_advance_190 rfl ?_
                  refine G_callV (As := [.int z5154, .int (-1)]) (wr := []) (gV_ok D I) (ct_4624_Signs_takeMark l hl0 D I q4658 q4659 q4660 z5154 (-1) p4661 0 o5150 p4664 p4665 f4666 (gB_w bp4665' (by decide) (by decide)) bf4666 (by have qa0 : Int32.toInt (-1) = (-1) := (by decide); have qa1 : Int32.toInt 0 = 0 := (by decide); have qa2 : Int32.toInt 1 = 1 := (by decide); omega)) d_cX9_advance_191 ⟨w_3_109, w_1_4, w_3_112, by decide, rfl, (Nat.le_of_ble_eq_true rfl), (Nat.le_of_ble_eq_true rfl)⟩ w_3_111 w_p_6 0 rfl rfl [0, 1, 2] [] rfl rfl rfl rfl (by decide) (Nat.le_of_ble_eq_true rfl) (Nat.le_of_ble_eq_true rfl) (Nat.le_of_ble_eq_true rfl) (fun r w hp => ?_) (fun _ _ _ z => z.elim)
                  obtain ⟨o5209, o5210, o5211, rfl, rfl, bo5209, bo5210, bo5211, x5212⟩ := hp
                  change G _ _ _ _ _ _ _ _ _ _ _
                  refine G_ws (ws' := [(q4658, .inr (14, [.ref q4659, .int o5209, .int o5210, .int o5150, .int o5211])), (q4659, .inr (15, [.ref q4660, .int p4665])), (q4660, .inl (I .byte, 8192, .inl f4666))]) (cs' := 0) (sl' := 0) rfl rfl rfl ?_
                  exact G_vret d_cX9_advance_194 rfl (Nat.le_of_ble_eq_true rfl) (Nat.le_of_ble_eq_true rfl) ⟨o5209, o5210, o5150, o5211, rfl, rfl, (gB_w bo5209 (by decide) (by decide)), (gB_w bo5210 (by decide) (by decide)), (gB_w bo5150'' (by decide) (by decide)), bo5211, (by have qa0 : Int32.toInt (-1) = (-1) := (by decide); have qa1 : Int32.toInt 1 = 1 := (by decide); omega)⟩
                · exact absurd (show False by omega) not_false
                · exact absurd (show False by omega) not_false
              · rw [show Int32.toInt (-1) = (-1) from by decide] at r5200
                exact absurd (show False by omega) not_false
              · rw [show Int32.toInt (-1) = (-1) from by decide] at r5202
                exact absurd (show False by omega) not_false
          · have r5157' : gB z5154 48 255 := ⟨by omega, by omega⟩
            have r5157'' : gB z5154 58 255 := ⟨by omega, by omega⟩
            change G _ _ _ _ _ _ _ (.int 0 :: _) _ _ _
            refine G_ws (ws' := [(q4658, .inr (14, [.ref q4659, .int p4661, .int 0, .int o5150, .int p4664])), (q4659, .inr (15, [.ref q4660, .int p4665])), (q4660, .inl (I .byte, 8192, .inl f4666))]) (cs' := 0) (sl' := 0) rfl rfl rfl ?_
            refine G_if_ne 110 d_cX9_advance_90 (by decide +kernel) (fun hc => absurd hc (by decide)) (fun _ => ?_)
            refine G_iload_n 1 d_cX9_advance_93 rfl ?_
            refine G_bipush 45 d_cX9_advance_94 (by decide +kernel) ?_
            refine G_icmp_ne 128 d_cX9_advance_96 (by decide +kernel) (fun _ => ?_) (fun hc => absurd (show False by have := gj_eq hc (show Int32.toInt 45 = 45 by decide); omega) not_false)
            refine G_iload_n 1 d_cX9_advance_128 rfl ?_
            refine G_bipush 118 d_cX9_advance_129 (by decide +kernel) ?_
            refine G_icmp_ne 151 d_cX9_advance_131 (by decide +kernel) (fun hc5213 => ?_) (fun hc5213 => ?_)
            · have r5214 : z5154.toInt ≠ 118 := gj_neq hc5213 (show Int32.toInt 118 = 118 by decide)
              refine G_iload_n 1 d_cX9_advance_151 rfl ?_
              refine G_bipush 98 d_cX9_advance_152 (by decide +kernel) ?_
              refine G_icmp_ne 174 d_cX9_advance_154 (by decide +kernel) (fun hc5215 => ?_) (fun hc5215 => ?_)
              · have r5216 : z5154.toInt ≠ 98 := gj_neq hc5215 (show Int32.toInt 98 = 98 by decide)
                refine G_iload_n 1 d_cX9_advance_174 rfl ?_
                refine G_callS (As := [.int z5154]) (wr := [(q4658, .inr (14, [.ref q4659, .int p4661, .int 0, .int o5150, .int p4664])), (q4659, .inr (15, [.ref q4660, .int p4665])), (q4660, .inl (I .byte, 8192, .inl f4666))]) (gV_ok D I) (ct_312_Signs_isLetter l hl0 D I z5154 ) d_cX9_advance_175 ⟨w_3_45, w_1_4, w_3_47, by decide, rfl, (Nat.le_of_ble_eq_true rfl), (Nat.le_of_ble_eq_true rfl)⟩ w_3_46 [] [0, 1, 2] rfl rfl rfl rfl (by decide) (Nat.le_of_ble_eq_true rfl) (Nat.le_of_ble_eq_true rfl) (Nat.le_of_ble_eq_true rfl) (fun r w hp => ?_) (fun _ _ _ z => z.elim)
                rcases hp with ⟨rfl, rfl, r5217⟩ | ⟨rfl, rfl, r5218, r5219⟩ | ⟨rfl, rfl, r5220, r5221⟩
                · have r5157''' : gB z5154 58 96 := ⟨by omega, by omega⟩
                  change G _ _ _ _ _ _ _ (.int 0 :: _) _ _ _
                  refine G_ws (ws' := [(q4658, .inr (14, [.ref q4659, .int p4661, .int 0, .int o5150, .int p4664])), (q4659, .inr (15, [.ref q4660, .int p4665])), (q4660, .inl (I .byte, 8192, .inl f4666))]) (cs' := 0) (sl' := 0) rfl rfl rfl ?_
                  refine G_if_eq 188 d_cX9_advance_178 (by decide +kernel) (fun _ => ?_) (fun hc => absurd hc (by decide))
                  refine G_aload_n 3 d_cX9_advance_188 rfl ?_
                  refine G_iload_n 1 d_cX9_advance_189 rfl ?_
                  refine G_iload_n 0 d_cX9_advance_190 rfl ?_
                  refine G_callV (As := [.int z5154, .int (-1)]) (wr := []) (gV_ok D I) (ct_4624_Signs_takeMark l hl0 D I q4658 q4659 q4660 z5154 (-1) p4661 0 o5150 p4664 p4665 f4666 (gB_w bp4665' (by decide) (by decide)) bf4666 (by have qa0 : Int32.toInt (-1) = (-1) := (by decide); have qa1 : Int32.toInt 0 = 0 := (by decide); have qa2 : Int32.toInt 1 = 1 := (by decide); omega)) d_cX9_advance_191 ⟨w_3_109, w_1_4, w_3_112, by decide, rfl, (Nat.le_of_ble_eq_true rfl), (Nat.le_of_ble_eq_true rfl)⟩ w_3_111 w_p_6 0 rfl rfl [0, 1, 2] [] rfl rfl rfl rfl (by decide) (Nat.le_of_ble_eq_true rfl) (Nat.le_of_ble_eq_true rfl) (Nat.le_of_ble_eq_true rfl) (fun r w hp => ?_) (fun _ _ _ z => z.elim)
                  obtain ⟨o5222, o5223, o5224, rfl, rfl, bo5222, bo5223, bo5224, x5225⟩ := hp
                  change G _ _ _ _ _ _ _ _ _ _ _
                  refine G_ws (ws' := [(q4658, .inr (14, [.ref q4659, .int o5222, .int o5223, .int o5150, .int o5224])), (q4659, .inr (15, [.ref q4660, .int p4665])), (q4660, .inl (I .byte, 8192, .inl f4666))]) (cs' := 0) (sl' := 0) rfl rfl rfl ?_
                  exact G_vret d_cX9_advance_194 rfl (Nat.le_of_ble_eq_true rfl) (Nat.le_of_ble_eq_true rfl) ⟨o5222, o5223, o5150, o5224, rfl, rfl, (gB_w bo5222 (by decide) (by decide)), (gB_w bo5223 (by decide) (by decide)), (gB_w bo5150'' (by decide) (by decide)), bo5224, (by have qa0 : Int32.toInt (-1) = (-1) := (by decide); have qa1 : Int32.toInt 1 = 1 := (by decide); omega)⟩
                · have r5157''' : gB z5154 97 255 := ⟨by omega, by omega⟩
                  have r5157'''' : gB z5154 123 255 := ⟨by omega, by omega⟩
                  change G _ _ _ _ _ _ _ (.int 0 :: _) _ _ _
                  refine G_ws (ws' := [(q4658, .inr (14, [.ref q4659, .int p4661, .int 0, .int o5150, .int p4664])), (q4659, .inr (15, [.ref q4660, .int p4665])), (q4660, .inl (I .byte, 8192, .inl f4666))]) (cs' := 0) (sl' := 0) rfl rfl rfl ?_
                  refine G_if_eq 188 d_cX9_advance_178 (by decide +kernel) (fun _ => ?_) (fun hc => absurd hc (by decide))
                  refine G_aload_n 3 d_cX9_advance_188 rfl ?_
                  refine G_iload_n 1 d_cX9_advance_189 rfl ?_
                  refine G_iload_n 0 d_cX9_advance_190 rfl ?_
                  refine G_callV (As := [.int z5154, .int (-1)]) (wr := []) (gV_ok D I) (ct_4624_Signs_takeMark l hl0 D I q4658 q4659 q4660 z5154 (-1) p4661 0 o5150 p4664 p4665 f4666 (gB_w bp4665' (by decide) (by decide)) bf4666 (by have qa0 : Int32.toInt (-1) = (-1) := (by decide); have qa1 : Int32.toInt 0 = 0 := (by decide); have qa2 : Int32.toInt 1 = 1 := (by decide); omega)) d_cX9_advance_191 ⟨w_3_109, w_1_4, w_3_112, by decide, rfl, (Nat.le_of_ble_eq_true rfl), (Nat.le_of_ble_eq_true rfl)⟩ w_3_111 w_p_6 0 rfl rfl [0, 1, 2] [] rfl rfl rfl rfl (by decide) (Nat.le_of_ble_eq_true rfl) (Nat.le_of_ble_eq_true rfl) (Nat.le_of_ble_eq_true rfl) (fun r w hp => ?_) (fun _ _ _ z => z.elim)
                  obtain ⟨o5226, o5227, o5228, rfl, rfl, bo5226, bo5227, bo5228, x5229⟩ := hp
                  change G _ _ _ _ _ _ _ _ _ _ _
                  refine G_ws (ws' := [(q4658, .inr (14, [.ref q4659, .int o5226, .int o5227, .int o5150, .int o5228])), (q4659, .inr (15, [.ref q4660, .int p4665])), (q4660, .inl (I .byte, 8192, .inl f4666))]) (cs' := 0) (sl' := 0) rfl rfl rfl ?_
                  exact G_vret d_cX9_advance_194 rfl (Nat.le_of_ble_eq_true rfl) (Nat.le_of_ble_eq_true rfl) ⟨o5226, o5227, o5150, o5228, rfl, rfl, (gB_w bo5226 (by decide) (by decide)), (gB_w bo5227 (by decide) (by decide)), (gB_w bo5150'' (by decide) (by decide)), bo5228, (by have qa0 : Int32.toInt (-1) = (-1) := (by decide); have qa1 : Int32.toInt 1 = 1 := (by decide); omega)⟩
                · have r5157''' : gB z5154 97 255 := ⟨by omega, by omega⟩
                  have r5157'''' : gB z5154 97 122 := ⟨by omega, by omega⟩
                  change G _ _ _ _ _ _ _ (.int 1 :: _) _ _ _
                  refine G_ws (ws' := [(q4658, .inr (14, [.ref q4659, .int p4661, .int 0, .int o5150, .int p4664])), (q4659, .inr (15, [.ref q4660, .int p4665])), (q4660, .inl (I .byte, 8192, .inl f4666))]) (cs' := 0) (sl' := 0) rfl rfl rfl ?_
                  refine G_if_eq 188 d_cX9_advance_178 (by decide +kernel) (fun hc => absurd hc (by decide)) (fun _ => ?_)
                  refine G_aload_n 3 d_cX9_advance_181 rfl ?_
                  refine G_callV (As := []) (wr := []) (gV_ok D I) (ct_3805_Signs_takeWord l hl0 D I q4658 q4659 q4660 p4661 0 o5150 p4664 p4665 f4666 (gB_w bp4665' (by decide) (by decide)) bf4666 (by have qa0 : Int32.toInt (-1) = (-1) := (by decide); have qa1 : Int32.toInt 0 = 0 := (by decide); have qa2 : Int32.toInt 1 = 1 := (by decide); omega)) d_cX9_advance_182 ⟨w_3_48, w_1_4, w_3_51, by decide, rfl, (Nat.le_of_ble_eq_true rfl), (Nat.le_of_ble_eq_true rfl)⟩ w_3_50 w_p_4 0 rfl rfl [0, 1, 2] [] rfl rfl rfl rfl (by decide) (Nat.le_of_ble_eq_true rfl) (Nat.le_of_ble_eq_true rfl) (Nat.le_of_ble_eq_true rfl) (fun r w hp => ?_) (fun _ _ _ z => z.elim)
                  obtain ⟨o5230, o5231, rfl, rfl, bo5230, bo5231, x5232⟩ := hp
                  rw [show Int32.toInt 0 = 0 from by decide] at x5232
                  change G _ _ _ _ _ _ _ _ _ _ _
                  refine G_ws (ws' := [(q4658, .inr (14, [.ref q4659, .int o5230, .int 0, .int o5150, .int o5231])), (q4659, .inr (15, [.ref q4660, .int p4665])), (q4660, .inl (I .byte, 8192, .inl f4666))]) (cs' := 0) (sl' := 0) rfl rfl rfl ?_
                  refine G_goto 194 d_cX9_advance_185 (by decide +kernel) ?_
                  exact G_vret d_cX9_advance_194 rfl (Nat.le_of_ble_eq_true rfl) (Nat.le_of_ble_eq_true rfl) ⟨o5230, 0, o5150, o5231, rfl, rfl, bo5230, (gB_w (gBl (show Int32.toInt 0 = 0 by decide)) (by decide) (by decide)), (gB_w bo5150'' (by decide) (by decide)), bo5231, (by have qa0 : Int32.toInt (-1) = (-1) := (by decide); have qa1 : Int32.toInt 0 = 0 := (by decide); have qa2 : Int32.toInt 1 = 1 := (by decide); omega)⟩
              · have r5233 : z5154.toInt = 98 := gj_eq hc5215 (show Int32.toInt 98 = 98 by decide)
                have r5157''' : gB z5154 98 98 := ⟨by omega, by omega⟩
                refine G_iload_n 0 d_cX9_advance_157 rfl ?_
                refine G_callS (As := [.int (-1)]) (wr := [(q4658, .inr (14, [.ref q4659, .int p4661, .int 0, .int o5150, .int p4664])), (q4659, .inr (15, [.ref q4660, .int p4665])), (q4660, .inl (I .byte, 8192, .inl f4666))]) (gV_ok D I) (ct_304_Signs_isDigit l hl0 D I (-1) ) d_cX9_advance_158 ⟨w_3_24, w_1_4, w_3_26, by decide, rfl, (Nat.le_of_ble_eq_true rfl), (Nat.le_of_ble_eq_true rfl)⟩ w_3_25 [] [0, 1, 2] rfl rfl rfl rfl (by decide) (Nat.le_of_ble_eq_true rfl) (Nat.le_of_ble_eq_true rfl) (Nat.le_of_ble_eq_true rfl) (fun r w hp => ?_) (fun _ _ _ z => z.elim)
                rcases hp with ⟨rfl, rfl, r5234⟩ | ⟨rfl, rfl, r5235, r5236⟩ | ⟨rfl, rfl, r5237, r5238⟩
                · rw [show Int32.toInt (-1) = (-1) from by decide] at r5234
                  change G _ _ _ _ _ _ _ (.int 0 :: _) _ _ _
                  refine G_ws (ws' := [(q4658, .inr (14, [.ref q4659, .int p4661, .int 0, .int o5150, .int p4664])), (q4659, .inr (15, [.ref q4660, .int p4665])), (q4660, .inl (I .byte, 8192, .inl f4666))]) (cs' := 0) (sl' := 0) rfl rfl rfl ?_
                  refine G_if_eq 174 d_cX9_advance_161 (by decide +kernel) (fun _ => ?_) (fun hc => absurd hc (by decide))
                  refine G_iload_n 1 d_cX9_advance_174 rfl ?_
                  refine G_callS (As := [.int z5154]) (wr := [(q4658, .inr (14, [.ref q4659, .int p4661, .int 0, .int o5150, .int p4664])), (q4659, .inr (15, [.ref q4660, .int p4665])), (q4660, .inl (I .byte, 8192, .inl f4666))]) (gV_ok D I) (ct_312_Signs_isLetter l hl0 D I z5154 ) d_cX9_advance_175 ⟨w_3_45, w_1_4, w_3_47, by decide, rfl, (Nat.le_of_ble_eq_true rfl), (Nat.le_of_ble_eq_true rfl)⟩ w_3_46 [] [0, 1, 2] rfl rfl rfl rfl (by decide) (Nat.le_of_ble_eq_true rfl) (Nat.le_of_ble_eq_true rfl) (Nat.le_of_ble_eq_true rfl) (fun r w hp => ?_) (fun _ _ _ z => z.elim)
                  rcases hp with ⟨rfl, rfl, r5239⟩ | ⟨rfl, rfl, r5240, r5241⟩ | ⟨rfl, rfl, r5242, r5243⟩
                  · exact absurd (show False by omega) not_false
                  · exact absurd (show False by omega) not_false
                  · change G _ _ _ _ _ _ _ (.int 1 :: _) _ _ _
                    refine G_ws (ws' := [(q4658, .inr (14, [.ref q4659, .int p4661, .int 0, .int o5150, .int p4664])), (q4659, .inr (15, [.ref q4660, .int p4665])), (q4660, .inl (I .byte, 8192, .inl f4666))]) (cs' := 0) (sl' := 0) rfl rfl rfl ?_
                    refine G_if_eq 188 d_cX9_advance_178 (by decide +kernel) (fun hc => absurd hc (by decide)) (fun _ => ?_)
                    refine G_aload_n 3 d_cX9_advance_181 rfl ?_
                    refine G_callV (As := []) (wr := []) (gV_ok D I) (ct_3805_Signs_takeWord l hl0 D I q4658 q4659 q4660 p4661 0 o5150 p4664 p4665 f4666 (gB_w bp4665' (by decide) (by decide)) bf4666 (by have qa0 : Int32.toInt (-1) = (-1) := (by decide); have qa1 : Int32.toInt 0 = 0 := (by decide); have qa2 : Int32.toInt 1 = 1 := (by decide); omega)) d_cX9_advance_182 ⟨w_3_48, w_1_4, w_3_51, by decide, rfl, (Nat.le_of_ble_eq_true rfl), (Nat.le_of_ble_eq_true rfl)⟩ w_3_50 w_p_4 0 rfl rfl [0, 1, 2] [] rfl rfl rfl rfl (by decide) (Nat.le_of_ble_eq_true rfl) (Nat.le_of_ble_eq_true rfl) (Nat.le_of_ble_eq_true rfl) (fun r w hp => ?_) (fun _ _ _ z => z.elim)
                    obtain ⟨o5244, o5245, rfl, rfl, bo5244, bo5245, x5246⟩ := hp
                    rw [show Int32.toInt 0 = 0 from by decide] at x5246
                    change G _ _ _ _ _ _ _ _ _ _ _
                    refine G_ws (ws' := [(q4658, .inr (14, [.ref q4659, .int o5244, .int 0, .int o5150, .int o5245])), (q4659, .inr (15, [.ref q4660, .int p4665])), (q4660, .inl (I .byte, 8192, .inl f4666))]) (cs' := 0) (sl' := 0) rfl rfl rfl ?_
                    refine G_goto 194 d_cX9_advance_185 (by decide +kernel) ?_
                    exact G_vret d_cX9_advance_194 rfl (Nat.le_of_ble_eq_true rfl) (Nat.le_of_ble_eq_true rfl) ⟨o5244, 0, o5150, o5245, rfl, rfl, bo5244, (gB_w (gBl (show Int32.toInt 0 = 0 by decide)) (by decide) (by decide)), (gB_w bo5150'' (by decide) (by decide)), bo5245, (by have qa0 : Int32.toInt (-1) = (-1) := (by decide); have qa1 : Int32.toInt 0 = 0 := (by decide); have qa2 : Int32.toInt 1 = 1 := (by decide); omega)⟩
                · rw [show Int32.toInt (-1) = (-1) from by decide] at r5235
                  exact absurd (show False by omega) not_false
                · rw [show Int32.toInt (-1) = (-1) from by decide] at r5237
                  exact absurd (show False by omega) not_false
            · have r5247 : z5154.toInt = 118 := gj_eq hc5213 (show Int32.toInt 118 = 118 by decide)
              have r5157''' : gB z5154 118 118 := ⟨by omega, by omega⟩
              refine G_iload_n 0 d_cX9_advance_134 rfl ?_
              refine G_callS (As := [.int (-1)]) (wr := [(q4658, .inr (14, [.ref q4659, .int p4661, .int 0, .int o5150, .int p4664])), (q4659, .inr (15, [.ref q4660, .int p4665])), (q4660, .inl (I .byte, 8192, .inl f4666))]) (gV_ok D I) (ct_304_Signs_isDigit l hl0 D I (-1) ) d_cX9_advance_135 ⟨w_3_24, w_1_4, w_3_26, by decide, rfl, (Nat.le_of_ble_eq_true rfl), (Nat.le_of_ble_eq_true rfl)⟩ w_3_25 [] [0, 1, 2] rfl rfl rfl rfl (by decide) (Nat.le_of_ble_eq_true rfl) (Nat.le_of_ble_eq_true rfl) (Nat.le_of_ble_eq_true rfl) (fun r w hp => ?_) (fun _ _ _ z => z.elim)
              rcases hp with ⟨rfl, rfl, r5248⟩ | ⟨rfl, rfl, r5249, r5250⟩ | ⟨rfl, rfl, r5251, r5252⟩
              · rw [show Int32.toInt (-1) = (-1) from by decide] at r5248
                change G _ _ _ _ _ _ _ (.int 0 :: _) _ _ _
                refine G_ws (ws' := [(q4658, .inr (14, [.ref q4659, .int p4661, .int 0, .int o5150, .int p4664])), (q4659, .inr (15, [.ref q4660, .int p4665])), (q4660, .inl (I .byte, 8192, .inl f4666))]) (cs' := 0) (sl' := 0) rfl rfl rfl ?_
                refine G_if_eq 151 d_cX9_advance_138 (by decide +kernel) (fun _ => ?_) (fun hc => absurd hc (by decide))
                refine G_iload_n 1 d_cX9_advance_151 rfl ?_
                refine G_bipush 98 d_cX9_advance_152 (by decide +kernel) ?_
                refine G_icmp_ne 174 d_cX9_advance_154 (by decide +kernel) (fun _ => ?_) (fun hc => absurd (show False by have := gj_eq hc (show Int32.toInt 98 = 98 by decide); omega) not_false)
                refine G_iload_n 1 d_cX9_advance_174 rfl ?_
                refine G_callS (As := [.int z5154]) (wr := [(q4658, .inr (14, [.ref q4659, .int p4661, .int 0, .int o5150, .int p4664])), (q4659, .inr (15, [.ref q4660, .int p4665])), (q4660, .inl (I .byte, 8192, .inl f4666))]) (gV_ok D I) (ct_312_Signs_isLetter l hl0 D I z5154 ) d_cX9_advance_175 ⟨w_3_45, w_1_4, w_3_47, by decide, rfl, (Nat.le_of_ble_eq_true rfl), (Nat.le_of_ble_eq_true rfl)⟩ w_3_46 [] [0, 1, 2] rfl rfl rfl rfl (by decide) (Nat.le_of_ble_eq_true rfl) (Nat.le_of_ble_eq_true rfl) (Nat.le_of_ble_eq_true rfl) (fun r w hp => ?_) (fun _ _ _ z => z.elim)
                rcases hp with ⟨rfl, rfl, r5253⟩ | ⟨rfl, rfl, r5254, r5255⟩ | ⟨rfl, rfl, r5256, r5257⟩
                · exact absurd (show False by omega) not_false
                · exact absurd (show False by omega) not_false
                · change G _ _ _ _ _ _ _ (.int 1 :: _) _ _ _
                  refine G_ws (ws' := [(q4658, .inr (14, [.ref q4659, .int p4661, .int 0, .int o5150, .int p4664])), (q4659, .inr (15, [.ref q4660, .int p4665])), (q4660, .inl (I .byte, 8192, .inl f4666))]) (cs' := 0) (sl' := 0) rfl rfl rfl ?_
                  refine G_if_eq 188 d_cX9_advance_178 (by decide +kernel) (fun hc => absurd hc (by decide)) (fun _ => ?_)
                  refine G_aload_n 3 d_cX9_advance_181 rfl ?_
                  refine G_callV (As := []) (wr := []) (gV_ok D I) (ct_3805_Signs_takeWord l hl0 D I q4658 q4659 q4660 p4661 0 o5150 p4664 p4665 f4666 (gB_w bp4665' (by decide) (by decide)) bf4666 (by have qa0 : Int32.toInt (-1) = (-1) := (by decide); have qa1 : Int32.toInt 0 = 0 := (by decide); have qa2 : Int32.toInt 1 = 1 := (by decide); omega)) d_cX9_advance_182 ⟨w_3_48, w_1_4, w_3_51, by decide, rfl, (Nat.le_of_ble_eq_true rfl), (Nat.le_of_ble_eq_true rfl)⟩ w_3_50 w_p_4 0 rfl rfl [0, 1, 2] [] rfl rfl rfl rfl (by decide) (Nat.le_of_ble_eq_true rfl) (Nat.le_of_ble_eq_true rfl) (Nat.le_of_ble_eq_true rfl) (fun r w hp => ?_) (fun _ _ _ z => z.elim)
                  obtain ⟨o5258, o5259, rfl, rfl, bo5258, bo5259, x5260⟩ := hp
                  rw [show Int32.toInt 0 = 0 from by decide] at x5260
                  change G _ _ _ _ _ _ _ _ _ _ _
                  refine G_ws (ws' := [(q4658, .inr (14, [.ref q4659, .int o5258, .int 0, .int o5150, .int o5259])), (q4659, .inr (15, [.ref q4660, .int p4665])), (q4660, .inl (I .byte, 8192, .inl f4666))]) (cs' := 0) (sl' := 0) rfl rfl rfl ?_
                  refine G_goto 194 d_cX9_advance_185 (by decide +kernel) ?_
                  exact G_vret d_cX9_advance_194 rfl (Nat.le_of_ble_eq_true rfl) (Nat.le_of_ble_eq_true rfl) ⟨o5258, 0, o5150, o5259, rfl, rfl, bo5258, (gB_w (gBl (show Int32.toInt 0 = 0 by decide)) (by decide) (by decide)), (gB_w bo5150'' (by decide) (by decide)), bo5259, (by have qa0 : Int32.toInt (-1) = (-1) := (by decide); have qa1 : Int32.toInt 0 = 0 := (by decide); have qa2 : Int32.toInt 1 = 1 := (by decide); omega)⟩
              · rw [show Int32.toInt (-1) = (-1) from by decide] at r5249
                exact absurd (show False by omega) not_false
              · rw [show Int32.toInt (-1) = (-1) from by decide] at r5251
                exact absurd (show False by omega) not_false
          · have r5157' : gB z5154 48 255 := ⟨by omega, by omega⟩
            have r5157'' : gB z5154 48 57 := ⟨by omega, by omega⟩
            change G _ _ _ _ _ _ _ (.int 1 :: _) _ _ _
            refine G_ws (ws' := [(q4658, .inr (14, [.ref q4659, .int p4661, .int 0, .int o5150, .int p4664])), (q4659, .inr (15, [.ref q4660, .int p4665])), (q4660, .inl (I .byte, 8192, .inl f4666))]) (cs' := 0) (sl' := 0) rfl rfl rfl ?_
            refine G_if_ne 110 d_cX9_advance_90 (by decide +kernel) (fun _ => ?_) (fun hc => absurd hc (by decide))
            refine G_aload_n 3 d_cX9_advance_110 rfl ?_
            refine G_iload_n 1 d_cX9_advance_111 rfl ?_
            refine G_bipush 45 d_cX9_advance_112 (by decide +kernel) ?_
            refine G_icmp_ne 121 d_cX9_advance_114 (by decide +kernel) (fun _ => ?_) (fun hc => absurd (show False by have := gj_eq hc (show Int32.toInt 45 = 45 by decide); omega) not_false)
            refine G_iconst 0 d_cX9_advance_121 (by decide +kernel) ?_
            refine G_callV (As := [.int 0]) (wr := []) (gV_ok D I) (ct_628_Signs_takeNumber l hl0 D I q4658 q4659 q4660 0 p4661 0 o5150 p4664 p4665 f4666 (gB_w (gBl (show Int32.toInt 0 = 0 by decide)) (by decide) (by decide)) (gB_w bp4665' (by decide) (by decide)) bf4666 (by have qa0 : Int32.toInt (-1) = (-1) := (by decide); have qa1 : Int32.toInt 0 = 0 := (by decide); have qa2 : Int32.toInt 1 = 1 := (by decide); omega)) d_cX9_advance_122 ⟨w_3_27, w_1_4, w_3_30, by decide, rfl, (Nat.le_of_ble_eq_true rfl), (Nat.le_of_ble_eq_true rfl)⟩ w_3_29 w_p_1 0 rfl rfl [0, 1, 2] [] rfl rfl rfl rfl (by decide) (Nat.le_of_ble_eq_true rfl) (Nat.le_of_ble_eq_true rfl) (Nat.le_of_ble_eq_true rfl) (fun r w hp => ?_) (fun _ _ _ z => z.elim)
            obtain ⟨o5261, o5262, o5263, rfl, rfl, bo5261, bo5262, bo5263, x5264⟩ := hp
            change G _ _ _ _ _ _ _ _ _ _ _
            refine G_ws (ws' := [(q4658, .inr (14, [.ref q4659, .int o5261, .int o5262, .int o5150, .int o5263])), (q4659, .inr (15, [.ref q4660, .int p4665])), (q4660, .inl (I .byte, 8192, .inl f4666))]) (cs' := 0) (sl' := 0) rfl rfl rfl ?_
            refine G_goto 194 d_cX9_advance_125 (by decide +kernel) ?_
            exact G_vret d_cX9_advance_194 rfl (Nat.le_of_ble_eq_true rfl) (Nat.le_of_ble_eq_true rfl) ⟨o5261, o5262, o5150, o5263, rfl, rfl, (gB_w bo5261 (by decide) (by decide)), bo5262, (gB_w bo5150'' (by decide) (by decide)), bo5263, (by have qa0 : Int32.toInt (-1) = (-1) := (by decide); have qa1 : Int32.toInt 1 = 1 := (by decide); omega)⟩
        · have bz5174' : gB z5174 1 8191 := ⟨by omega, by omega⟩
          have bp4665'' : gB p4665 2 8192 := ⟨by omega, by omega⟩
          change G _ _ _ _ _ _ _ (.int z5178 :: _) _ _ _
          refine G_ws (ws' := [(q4658, .inr (14, [.ref q4659, .int p4661, .int p4662, .int o5150, .int p4664])), (q4659, .inr (15, [.ref q4660, .int p4665])), (q4660, .inl (I .byte, 8192, .inl f4666))]) (cs' := 0) (sl' := 0) rfl rfl rfl ?_
          refine G_istore_n (L' := [(3, .int z5178), (2, .int z5154), (1, .int 1), (0, .ref q4658)]) d_cX9_advance_59 (Nat.le_of_ble_eq_true rfl) rfl ?_
          refine G_aload_n 3 d_cX9_advance_60 rfl ?_
          refine G_iconst 0 d_cX9_advance_61 (by decide +kernel) ?_
          refine G_putf (ws' := [(q4658, .inr (14, [.ref q4659, .int p4661, .int 0, .int o5150, .int p4664])), (q4659, .inr (15, [.ref q4660, .int p4665])), (q4660, .inl (I .byte, 8192, .inl f4666))]) 0 2 d_cX9_advance_62 rfl (gk_X9 D I) (Nat.le_of_ble_eq_true rfl) w_1_81 rfl rfl rfl (Nat.le_of_ble_eq_true rfl) rfl ?_
          refine G_iload_n 1 d_cX9_advance_65 rfl ?_
          refine G_iconst (-1) d_cX9_advance_66 (by decide +kernel) ?_
          refine G_icmp_ne 86 d_cX9_advance_67 (by decide +kernel) (fun _ => ?_) (fun hc => absurd (show False by have := gj_eq hc (show Int32.toInt (-1) = (-1) by decide); omega) not_false)
          refine G_iload_n 1 d_cX9_advance_86 rfl ?_
          refine G_callS (As := [.int z5154]) (wr := [(q4658, .inr (14, [.ref q4659, .int p4661, .int 0, .int o5150, .int p4664])), (q4659, .inr (15, [.ref q4660, .int p4665])), (q4660, .inl (I .byte, 8192, .inl f4666))]) (gV_ok D I) (ct_304_Signs_isDigit l hl0 D I z5154 ) d_cX9_advance_87 ⟨w_3_24, w_1_4, w_3_26, by decide, rfl, (Nat.le_of_ble_eq_true rfl), (Nat.le_of_ble_eq_true rfl)⟩ w_3_25 [] [0, 1, 2] rfl rfl rfl rfl (by decide) (Nat.le_of_ble_eq_true rfl) (Nat.le_of_ble_eq_true rfl) (Nat.le_of_ble_eq_true rfl) (fun r w hp => ?_) (fun _ _ _ z => z.elim)
          rcases hp with ⟨rfl, rfl, r5265⟩ | ⟨rfl, rfl, r5266, r5267⟩ | ⟨rfl, rfl, r5268, r5269⟩
          · have r5157' : gB z5154 0 47 := ⟨by omega, by omega⟩
            change G _ _ _ _ _ _ _ (.int 0 :: _) _ _ _
            refine G_ws (ws' := [(q4658, .inr (14, [.ref q4659, .int p4661, .int 0, .int o5150, .int p4664])), (q4659, .inr (15, [.ref q4660, .int p4665])), (q4660, .inl (I .byte, 8192, .inl f4666))]) (cs' := 0) (sl' := 0) rfl rfl rfl ?_
            refine G_if_ne 110 d_cX9_advance_90 (by decide +kernel) (fun hc => absurd hc (by decide)) (fun _ => ?_)
            refine G_iload_n 1 d_cX9_advance_93 rfl ?_
            refine G_bipush 45 d_cX9_advance_94 (by decide +kernel) ?_
            refine G_icmp_ne 128 d_cX9_advance_96 (by decide +kernel) (fun hc5270 => ?_) (fun hc5270 => ?_)
            · have r5271 : z5154.toInt ≠ 45 := gj_neq hc5270 (show Int32.toInt 45 = 45 by decide)
              refine G_iload_n 1 d_cX9_advance_128 rfl ?_
              refine G_bipush 118 d_cX9_advance_129 (by decide +kernel) ?_
              refine G_icmp_ne 151 d_cX9_advance_131 (by decide +kernel) (fun _ => ?_) (fun hc => absurd (show False by have := gj_eq hc (show Int32.toInt 118 = 118 by decide); omega) not_false)
              refine G_iload_n 1 d_cX9_advance_151 rfl ?_
              refine G_bipush 98 d_cX9_advance_152 (by decide +kernel) ?_
              refine G_icmp_ne 174 d_cX9_advance_154 (by decide +kernel) (fun _ => ?_) (fun hc => absurd (show False by have := gj_eq hc (show Int32.toInt 98 = 98 by decide); omega) not_false)
              refine G_iload_n 1 d_cX9_advance_174 rfl ?_
              refine G_callS (As := [.int z5154]) (wr := [(q4658, .inr (14, [.ref q4659, .int p4661, .int 0, .int o5150, .int p4664])), (q4659, .inr (15, [.ref q4660, .int p4665])), (q4660, .inl (I .byte, 8192, .inl f4666))]) (gV_ok D I) (ct_312_Signs_isLetter l hl0 D I z5154 ) d_cX9_advance_175 ⟨w_3_45, w_1_4, w_3_47, by decide, rfl, (Nat.le_of_ble_eq_true rfl), (Nat.le_of_ble_eq_true rfl)⟩ w_3_46 [] [0, 1, 2] rfl rfl rfl rfl (by decide) (Nat.le_of_ble_eq_true rfl) (Nat.le_of_ble_eq_true rfl) (Nat.le_of_ble_eq_true rfl) (fun r w hp => ?_) (fun _ _ _ z => z.elim)
              rcases hp with ⟨rfl, rfl, r5272⟩ | ⟨rfl, rfl, r5273, r5274⟩ | ⟨rfl, rfl, r5275, r5276⟩
              · change G _ _ _ _ _ _ _ (.int 0 :: _) _ _ _
                refine G_ws (ws' := [(q4658, .inr (14, [.ref q4659, .int p4661, .int 0, .int o5150, .int p4664])), (q4659, .inr (15, [.ref q4660, .int p4665])), (q4660, .inl (I .byte, 8192, .inl f4666))]) (cs' := 0) (sl' := 0) rfl rfl rfl ?_
                refine G_if_eq 188 d_cX9_advance_178 (by decide +kernel) (fun _ => ?_) (fun hc => absurd hc (by decide))
                refine G_aload_n 3 d_cX9_advance_188 rfl ?_
                refine G_iload_n 1 d_cX9_advance_189 rfl ?_
                refine G_iload_n 0 d_cX9_advance_190 rfl ?_
                refine G_callV (As := [.int z5154, .int z5178]) (wr := []) (gV_ok D I) (ct_4624_Signs_takeMark l hl0 D I q4658 q4659 q4660 z5154 z5178 p4661 0 o5150 p4664 p4665 f4666 (gB_w bp4665'' (by decide) (by decide)) bf4666 (by have qa0 : Int32.toInt 0 = 0 := (by decide); have qa1 : Int32.toInt 1 = 1 := (by decide); omega)) d_cX9_advance_191 ⟨w_3_109, w_1_4, w_3_112, by decide, rfl, (Nat.le_of_ble_eq_true rfl), (Nat.le_of_ble_eq_true rfl)⟩ w_3_111 w_p_6 0 rfl rfl [0, 1, 2] [] rfl rfl rfl rfl (by decide) (Nat.le_of_ble_eq_true rfl) (Nat.le_of_ble_eq_true rfl) (Nat.le_of_ble_eq_true rfl) (fun r w hp => ?_) (fun _ _ _ z => z.elim)
                obtain ⟨o5277, o5278, o5279, rfl, rfl, bo5277, bo5278, bo5279, x5280⟩ := hp
                change G _ _ _ _ _ _ _ _ _ _ _
                refine G_ws (ws' := [(q4658, .inr (14, [.ref q4659, .int o5277, .int o5278, .int o5150, .int o5279])), (q4659, .inr (15, [.ref q4660, .int p4665])), (q4660, .inl (I .byte, 8192, .inl f4666))]) (cs' := 0) (sl' := 0) rfl rfl rfl ?_
                exact G_vret d_cX9_advance_194 rfl (Nat.le_of_ble_eq_true rfl) (Nat.le_of_ble_eq_true rfl) ⟨o5277, o5278, o5150, o5279, rfl, rfl, (gB_w bo5277 (by decide) (by decide)), (gB_w bo5278 (by decide) (by decide)), (gB_w bo5150'' (by decide) (by decide)), bo5279, (by have qa0 : Int32.toInt 1 = 1 := (by decide); omega)⟩
              · exact absurd (show False by omega) not_false
              · exact absurd (show False by omega) not_false
            · have r5281 : z5154.toInt = 45 := gj_eq hc5270 (show Int32.toInt 45 = 45 by decide)
              have r5157'' : gB z5154 45 45 := ⟨by omega, by omega⟩
              refine G_iload_n 0 d_cX9_advance_99 rfl ?_
              refine G_callS (As := [.int z5178]) (wr := [(q4658, .inr (14, [.ref q4659, .int p4661, .int 0, .int o5150, .int p4664])), (q4659, .inr (15, [.ref q4660, .int p4665])), (q4660, .inl (I .byte, 8192, .inl f4666))]) (gV_ok D I) (ct_304_Signs_isDigit l hl0 D I z5178 ) d_cX9_advance_100 ⟨w_3_24, w_1_4, w_3_26, by decide, rfl, (Nat.le_of_ble_eq_true rfl), (Nat.le_of_ble_eq_true rfl)⟩ w_3_25 [] [0, 1, 2] rfl rfl rfl rfl (by decide) (Nat.le_of_ble_eq_true rfl) (Nat.le_of_ble_eq_true rfl) (Nat.le_of_ble_eq_true rfl) (fun r w hp => ?_) (fun _ _ _ z => z.elim)
              rcases hp with ⟨rfl, rfl, r5282⟩ | ⟨rfl, rfl, r5283, r5284⟩ | ⟨rfl, rfl, r5285, r5286⟩
              · have r5181' : gB z5178 0 47 := ⟨by omega, by omega⟩
                change G _ _ _ _ _ _ _ (.int 0 :: _) _ _ _
                refine G_ws (ws' := [(q4658, .inr (14, [.ref q4659, .int p4661, .int 0, .int o5150, .int p4664])), (q4659, .inr (15, [.ref q4660, .int p4665])), (q4660, .inl (I .byte, 8192, .inl f4666))]) (cs' := 0) (sl' := 0) rfl rfl rfl ?_
                refine G_if_eq 128 d_cX9_advance_103 (by decide +kernel) (fun _ => ?_) (fun hc => absurd hc (by decide))
                refine G_iload_n 1 d_cX9_advance_128 rfl ?_
                refine G_bipush 118 d_cX9_advance_129 (by decide +kernel) ?_
                refine G_icmp_ne 151 d_cX9_advance_131 (by decide +kernel) (fun _ => ?_) (fun hc => absurd (show False by have := gj_eq hc (show Int32.toInt 118 = 118 by decide); omega) not_false)
                refine G_iload_n 1 d_cX9_advance_151 rfl ?_
                refine G_bipush 98 d_cX9_advance_152 (by decide +kernel) ?_
                refine G_icmp_ne 174 d_cX9_advance_154 (by decide +kernel) (fun _ => ?_) (fun hc => absurd (show False by have := gj_eq hc (show Int32.toInt 98 = 98 by decide); omega) not_false)
                refine G_iload_n 1 d_cX9_advance_174 rfl ?_
                refine G_callS (As := [.int z5154]) (wr := [(q4658, .inr (14, [.ref q4659, .int p4661, .int 0, .int o5150, .int p4664])), (q4659, .inr (15, [.ref q4660, .int p4665])), (q4660, .inl (I .byte, 8192, .inl f4666))]) (gV_ok D I) (ct_312_Signs_isLetter l hl0 D I z5154 ) d_cX9_advance_175 ⟨w_3_45, w_1_4, w_3_47, by decide, rfl, (Nat.le_of_ble_eq_true rfl), (Nat.le_of_ble_eq_true rfl)⟩ w_3_46 [] [0, 1, 2] rfl rfl rfl rfl (by decide) (Nat.le_of_ble_eq_true rfl) (Nat.le_of_ble_eq_true rfl) (Nat.le_of_ble_eq_true rfl) (fun r w hp => ?_) (fun _ _ _ z => z.elim)
                rcases hp with ⟨rfl, rfl, r5287⟩ | ⟨rfl, rfl, r5288, r5289⟩ | ⟨rfl, rfl, r5290, r5291⟩
                · change G _ _ _ _ _ _ _ (.int 0 :: _) _ _ _
                  refine G_ws (ws' := [(q4658, .inr (14, [.ref q4659, .int p4661, .int 0, .int o5150, .int p4664])), (q4659, .inr (15, [.ref q4660, .int p4665])), (q4660, .inl (I .byte, 8192, .inl f4666))]) (cs' := 0) (sl' := 0) rfl rfl rfl ?_
                  refine G_if_eq 188 d_cX9_advance_178 (by decide +kernel) (fun _ => ?_) (fun hc => absurd hc (by decide))
                  refine G_aload_n 3 d_cX9_advance_188 rfl ?_
                  refine G_iload_n 1 d_cX9_advance_189 rfl ?_
                  refine G_iload_n 0 d_cX9_advance_190 rfl ?_
                  refine G_callV (As := [.int z5154, .int z5178]) (wr := []) (gV_ok D I) (ct_4624_Signs_takeMark l hl0 D I q4658 q4659 q4660 z5154 z5178 p4661 0 o5150 p4664 p4665 f4666 (gB_w bp4665'' (by decide) (by decide)) bf4666 (by have qa0 : Int32.toInt 0 = 0 := (by decide); have qa1 : Int32.toInt 1 = 1 := (by decide); omega)) d_cX9_advance_191 ⟨w_3_109, w_1_4, w_3_112, by decide, rfl, (Nat.le_of_ble_eq_true rfl), (Nat.le_of_ble_eq_true rfl)⟩ w_3_111 w_p_6 0 rfl rfl [0, 1, 2] [] rfl rfl rfl rfl (by decide) (Nat.le_of_ble_eq_true rfl) (Nat.le_of_ble_eq_true rfl) (Nat.le_of_ble_eq_true rfl) (fun r w hp => ?_) (fun _ _ _ z => z.elim)
                  obtain ⟨o5292, o5293, o5294, rfl, rfl, bo5292, bo5293, bo5294, x5295⟩ := hp
                  change G _ _ _ _ _ _ _ _ _ _ _
                  refine G_ws (ws' := [(q4658, .inr (14, [.ref q4659, .int o5292, .int o5293, .int o5150, .int o5294])), (q4659, .inr (15, [.ref q4660, .int p4665])), (q4660, .inl (I .byte, 8192, .inl f4666))]) (cs' := 0) (sl' := 0) rfl rfl rfl ?_
                  exact G_vret d_cX9_advance_194 rfl (Nat.le_of_ble_eq_true rfl) (Nat.le_of_ble_eq_true rfl) ⟨o5292, o5293, o5150, o5294, rfl, rfl, (gB_w bo5292 (by decide) (by decide)), (gB_w bo5293 (by decide) (by decide)), (gB_w bo5150'' (by decide) (by decide)), bo5294, (by have qa0 : Int32.toInt 1 = 1 := (by decide); omega)⟩
                · exact absurd (show False by omega) not_false
                · exact absurd (show False by omega) not_false
              · have r5181' : gB z5178 48 255 := ⟨by omega, by omega⟩
                have r5181'' : gB z5178 58 255 := ⟨by omega, by omega⟩
                change G _ _ _ _ _ _ _ (.int 0 :: _) _ _ _
                refine G_ws (ws' := [(q4658, .inr (14, [.ref q4659, .int p4661, .int 0, .int o5150, .int p4664])), (q4659, .inr (15, [.ref q4660, .int p4665])), (q4660, .inl (I .byte, 8192, .inl f4666))]) (cs' := 0) (sl' := 0) rfl rfl rfl ?_
                refine G_if_eq 128 d_cX9_advance_103 (by decide +kernel) (fun _ => ?_) (fun hc => absurd hc (by decide))
                refine G_iload_n 1 d_cX9_advance_128 rfl ?_
                refine G_bipush 118 d_cX9_advance_129 (by decide +kernel) ?_
                refine G_icmp_ne 151 d_cX9_advance_131 (by decide +kernel) (fun _ => ?_) (fun hc => absurd (show False by have := gj_eq hc (show Int32.toInt 118 = 118 by decide); omega) not_false)
                refine G_iload_n 1 d_cX9_advance_151 rfl ?_
                refine G_bipush 98 d_cX9_advance_152 (by decide +kernel) ?_
                refine G_icmp_ne 174 d_cX9_advance_154 (by decide +kernel) (fun _ => ?_) (fun hc => absurd (show False by have := gj_eq hc (show Int32.toInt 98 = 98 by decide); omega) not_false)
                refine G_iload_n 1 d_cX9_advance_174 rfl ?_
                refine G_callS (As := [.int z5154]) (wr := [(q4658, .inr (14, [.ref q4659, .int p4661, .int 0, .int o5150, .int p4664])), (q4659, .inr (15, [.ref q4660, .int p4665])), (q4660, .inl (I .byte, 8192, .inl f4666))]) (gV_ok D I) (ct_312_Signs_isLetter l hl0 D I z5154 ) d_cX9_advance_175 ⟨w_3_45, w_1_4, w_3_47, by decide, rfl, (Nat.le_of_ble_eq_true rfl), (Nat.le_of_ble_eq_true rfl)⟩ w_3_46 [] [0, 1, 2] rfl rfl rfl rfl (by decide) (Nat.le_of_ble_eq_true rfl) (Nat.le_of_ble_eq_true rfl) (Nat.le_of_ble_eq_true rfl) (fun r w hp => ?_) (fun _ _ _ z => z.elim)
                rcases hp with ⟨rfl, rfl, r5296⟩ | ⟨rfl, rfl, r5297, r5298⟩ | ⟨rfl, rfl, r5299, r5300⟩
                · change G _ _ _ _ _ _ _ (.int 0 :: _) _ _ _
                  refine G_ws (ws' := [(q4658, .inr (14, [.ref q4659, .int p4661, .int 0, .int o5150, .int p4664])), (q4659, .inr (15, [.ref q4660, .int p4665])), (q4660, .inl (I .byte, 8192, .inl f4666))]) (cs' := 0) (sl' := 0) rfl rfl rfl ?_
                  refine G_if_eq 188 d_cX9_advance_178 (by decide +kernel) (fun _ => ?_) (fun hc => absurd hc (by decide))
                  refine G_aload_n 3 d_cX9_advance_188 rfl ?_
                  refine G_iload_n 1 d_cX9_advance_189 rfl ?_
                  refine G_iload_n 0 d_cX9_advance_190 rfl ?_
                  refine G_callV (As := [.int z5154, .int z5178]) (wr := []) (gV_ok D I) (ct_4624_Signs_takeMark l hl0 D I q4658 q4659 q4660 z5154 z5178 p4661 0 o5150 p4664 p4665 f4666 (gB_w bp4665'' (by decide) (by decide)) bf4666 (by have qa0 : Int32.toInt 0 = 0 := (by decide); have qa1 : Int32.toInt 1 = 1 := (by decide); omega)) d_cX9_advance_191 ⟨w_3_109, w_1_4, w_3_112, by decide, rfl, (Nat.le_of_ble_eq_true rfl), (Nat.le_of_ble_eq_true rfl)⟩ w_3_111 w_p_6 0 rfl rfl [0, 1, 2] [] rfl rfl rfl rfl (by decide) (Nat.le_of_ble_eq_true rfl) (Nat.le_of_ble_eq_true rfl) (Nat.le_of_ble_eq_true rfl) (fun r w hp => ?_) (fun _ _ _ z => z.elim)
                  obtain ⟨o5301, o5302, o5303, rfl, rfl, bo5301, bo5302, bo5303, x5304⟩ := hp
                  change G _ _ _ _ _ _ _ _ _ _ _
                  refine G_ws (ws' := [(q4658, .inr (14, [.ref q4659, .int o5301, .int o5302, .int o5150, .int o5303])), (q4659, .inr (15, [.ref q4660, .int p4665])), (q4660, .inl (I .byte, 8192, .inl f4666))]) (cs' := 0) (sl' := 0) rfl rfl rfl ?_
                  exact G_vret d_cX9_advance_194 rfl (Nat.le_of_ble_eq_true rfl) (Nat.le_of_ble_eq_true rfl) ⟨o5301, o5302, o5150, o5303, rfl, rfl, (gB_w bo5301 (by decide) (by decide)), (gB_w bo5302 (by decide) (by decide)), (gB_w bo5150'' (by decide) (by decide)), bo5303, (by have qa0 : Int32.toInt 1 = 1 := (by decide); omega)⟩
                · exact absurd (show False by omega) not_false
                · exact absurd (show False by omega) not_false
              · have r5181' : gB z5178 48 255 := ⟨by omega, by omega⟩
                have r5181'' : gB z5178 48 57 := ⟨by omega, by omega⟩
                change G _ _ _ _ _ _ _ (.int 1 :: _) _ _ _
                refine G_ws (ws' := [(q4658, .inr (14, [.ref q4659, .int p4661, .int 0, .int o5150, .int p4664])), (q4659, .inr (15, [.ref q4660, .int p4665])), (q4660, .inl (I .byte, 8192, .inl f4666))]) (cs' := 0) (sl' := 0) rfl rfl rfl ?_
                refine G_if_eq 128 d_cX9_advance_103 (by decide +kernel) (fun hc => absurd hc (by decide)) (fun _ => ?_)
                refine G_iload_n 2 d_cX9_advance_106 rfl ?_
                refine G_if_ne 128 d_cX9_advance_107 (by decide +kernel) (fun _ => ?_) (fun hc => absurd hc (by decide))
                refine G_iload_n 1 d_cX9_advance_128 rfl ?_
                refine G_bipush 118 d_cX9_advance_129 (by decide +kernel) ?_
                refine G_icmp_ne 151 d_cX9_advance_131 (by decide +kernel) (fun _ => ?_) (fun hc => absurd (show False by have := gj_eq hc (show Int32.toInt 118 = 118 by decide); omega) not_false)
                refine G_iload_n 1 d_cX9_advance_151 rfl ?_
                refine G_bipush 98 d_cX9_advance_152 (by decide +kernel) ?_
                refine G_icmp_ne 174 d_cX9_advance_154 (by decide +kernel) (fun _ => ?_) (fun hc => absurd (show False by have := gj_eq hc (show Int32.toInt 98 = 98 by decide); omega) not_false)
                refine G_iload_n 1 d_cX9_advance_174 rfl ?_
                refine G_callS (As := [.int z5154]) (wr := [(q4658, .inr (14, [.ref q4659, .int p4661, .int 0, .int o5150, .int p4664])), (q4659, .inr (15, [.ref q4660, .int p4665])), (q4660, .inl (I .byte, 8192, .inl f4666))]) (gV_ok D I) (ct_312_Signs_isLetter l hl0 D I z5154 ) d_cX9_advance_175 ⟨w_3_45, w_1_4, w_3_47, by decide, rfl, (Nat.le_of_ble_eq_true rfl), (Nat.le_of_ble_eq_true rfl)⟩ w_3_46 [] [0, 1, 2] rfl rfl rfl rfl (by decide) (Nat.le_of_ble_eq_true rfl) (Nat.le_of_ble_eq_true rfl) (Nat.le_of_ble_eq_true rfl) (fun r w hp => ?_) (fun _ _ _ z => z.elim)
                rcases hp with ⟨rfl, rfl, r5305⟩ | ⟨rfl, rfl, r5306, r5307⟩ | ⟨rfl, rfl, r5308, r5309⟩
                · change G _ _ _ _ _ _ _ (.int 0 :: _) _ _ _
                  refine G_ws (ws' := [(q4658, .inr (14, [.ref q4659, .int p4661, .int 0, .int o5150, .int p4664])), (q4659, .inr (15, [.ref q4660, .int p4665])), (q4660, .inl (I .byte, 8192, .inl f4666))]) (cs' := 0) (sl' := 0) rfl rfl rfl ?_
                  refine G_if_eq 188 d_cX9_advance_178 (by decide +kernel) (fun _ => ?_) (fun hc => absurd hc (by decide))
                  refine G_aload_n 3 d_cX9_advance_188 rfl ?_
                  refine G_iload_n 1 d_cX9_advance_189 rfl ?_
                  refine G_iload_n 0 d_cX9_advance_190 rfl ?_
                  refine G_callV (As := [.int z5154, .int z5178]) (wr := []) (gV_ok D I) (ct_4624_Signs_takeMark l hl0 D I q4658 q4659 q4660 z5154 z5178 p4661 0 o5150 p4664 p4665 f4666 (gB_w bp4665'' (by decide) (by decide)) bf4666 (by have qa0 : Int32.toInt 0 = 0 := (by decide); have qa1 : Int32.toInt 1 = 1 := (by decide); omega)) d_cX9_advance_191 ⟨w_3_109, w_1_4, w_3_112, by decide, rfl, (Nat.le_of_ble_eq_true rfl), (Nat.le_of_ble_eq_true rfl)⟩ w_3_111 w_p_6 0 rfl rfl [0, 1, 2] [] rfl rfl rfl rfl (by decide) (Nat.le_of_ble_eq_true rfl) (Nat.le_of_ble_eq_true rfl) (Nat.le_of_ble_eq_true rfl) (fun r w hp => ?_) (fun _ _ _ z => z.elim)
                  obtain ⟨o5310, o5311, o5312, rfl, rfl, bo5310, bo5311, bo5312, x5313⟩ := hp
                  change G _ _ _ _ _ _ _ _ _ _ _
                  refine G_ws (ws' := [(q4658, .inr (14, [.ref q4659, .int o5310, .int o5311, .int o5150, .int o5312])), (q4659, .inr (15, [.ref q4660, .int p4665])), (q4660, .inl (I .byte, 8192, .inl f4666))]) (cs' := 0) (sl' := 0) rfl rfl rfl ?_
                  exact G_vret d_cX9_advance_194 rfl (Nat.le_of_ble_eq_true rfl) (Nat.le_of_ble_eq_true rfl) ⟨o5310, o5311, o5150, o5312, rfl, rfl, (gB_w bo5310 (by decide) (by decide)), (gB_w bo5311 (by decide) (by decide)), (gB_w bo5150'' (by decide) (by decide)), bo5312, (by have qa0 : Int32.toInt 1 = 1 := (by decide); omega)⟩
                · exact absurd (show False by omega) not_false
                · exact absurd (show False by omega) not_false
          · have r5157' : gB z5154 48 255 := ⟨by omega, by omega⟩
            have r5157'' : gB z5154 58 255 := ⟨by omega, by omega⟩
            change G _ _ _ _ _ _ _ (.int 0 :: _) _ _ _
            refine G_ws (ws' := [(q4658, .inr (14, [.ref q4659, .int p4661, .int 0, .int o5150, .int p4664])), (q4659, .inr (15, [.ref q4660, .int p4665])), (q4660, .inl (I .byte, 8192, .inl f4666))]) (cs' := 0) (sl' := 0) rfl rfl rfl ?_
            refine G_if_ne 110 d_cX9_advance_90 (by decide +kernel) (fun hc => absurd hc (by decide)) (fun _ => ?_)
            refine G_iload_n 1 d_cX9_advance_93 rfl ?_
            refine G_bipush 45 d_cX9_advance_94 (by decide +kernel) ?_
            refine G_icmp_ne 128 d_cX9_advance_96 (by decide +kernel) (fun _ => ?_) (fun hc => absurd (show False by have := gj_eq hc (show Int32.toInt 45 = 45 by decide); omega) not_false)
            refine G_iload_n 1 d_cX9_advance_128 rfl ?_
            refine G_bipush 118 d_cX9_advance_129 (by decide +kernel) ?_
            refine G_icmp_ne 151 d_cX9_advance_131 (by decide +kernel) (fun hc5314 => ?_) (fun hc5314 => ?_)
            · have r5315 : z5154.toInt ≠ 118 := gj_neq hc5314 (show Int32.toInt 118 = 118 by decide)
              refine G_iload_n 1 d_cX9_advance_151 rfl ?_
              refine G_bipush 98 d_cX9_advance_152 (by decide +kernel) ?_
              refine G_icmp_ne 174 d_cX9_advance_154 (by decide +kernel) (fun hc5316 => ?_) (fun hc5316 => ?_)
              · have r5317 : z5154.toInt ≠ 98 := gj_neq hc5316 (show Int32.toInt 98 = 98 by decide)
                refine G_iload_n 1 d_cX9_advance_174 rfl ?_
                refine G_callS (As := [.int z5154]) (wr := [(q4658, .inr (14, [.ref q4659, .int p4661, .int 0, .int o5150, .int p4664])), (q4659, .inr (15, [.ref q4660, .int p4665])), (q4660, .inl (I .byte, 8192, .inl f4666))]) (gV_ok D I) (ct_312_Signs_isLetter l hl0 D I z5154 ) d_cX9_advance_175 ⟨w_3_45, w_1_4, w_3_47, by decide, rfl, (Nat.le_of_ble_eq_true rfl), (Nat.le_of_ble_eq_true rfl)⟩ w_3_46 [] [0, 1, 2] rfl rfl rfl rfl (by decide) (Nat.le_of_ble_eq_true rfl) (Nat.le_of_ble_eq_true rfl) (Nat.le_of_ble_eq_true rfl) (fun r w hp => ?_) (fun _ _ _ z => z.elim)
                rcases hp with ⟨rfl, rfl, r5318⟩ | ⟨rfl, rfl, r5319, r5320⟩ | ⟨rfl, rfl, r5321, r5322⟩
                · have r5157''' : gB z5154 58 96 := ⟨by omega, by omega⟩
                  change G _ _ _ _ _ _ _ (.int 0 :: _) _ _ _
                  refine G_ws (ws' := [(q4658, .inr (14, [.ref q4659, .int p4661, .int 0, .int o5150, .int p4664])), (q4659, .inr (15, [.ref q4660, .int p4665])), (q4660, .inl (I .byte, 8192, .inl f4666))]) (cs' := 0) (sl' := 0) rfl rfl rfl ?_
                  refine G_if_eq 188 d_cX9_advance_178 (by decide +kernel) (fun _ => ?_) (fun hc => absurd hc (by decide))
                  refine G_aload_n 3 d_cX9_advance_188 rfl ?_
                  refine G_iload_n 1 d_cX9_advance_189 rfl ?_
                  refine G_iload_n 0 d_cX9_advance_190 rfl ?_
                  refine G_callV (As := [.int z5154, .int z5178]) (wr := []) (gV_ok D I) (ct_4624_Signs_takeMark l hl0 D I q4658 q4659 q4660 z5154 z5178 p4661 0 o5150 p4664 p4665 f4666 (gB_w bp4665'' (by decide) (by decide)) bf4666 (by have qa0 : Int32.toInt 0 = 0 := (by decide); have qa1 : Int32.toInt 1 = 1 := (by decide); omega)) d_cX9_advance_191 ⟨w_3_109, w_1_4, w_3_112, by decide, rfl, (Nat.le_of_ble_eq_true rfl), (Nat.le_of_ble_eq_true rfl)⟩ w_3_111 w_p_6 0 rfl rfl [0, 1, 2] [] rfl rfl rfl rfl (by decide) (Nat.le_of_ble_eq_true rfl) (Nat.le_of_ble_eq_true rfl) (Nat.le_of_ble_eq_true rfl) (fun r w hp => ?_) (fun _ _ _ z => z.elim)
                  obtain ⟨o5323, o5324, o5325, rfl, rfl, bo5323, bo5324, bo5325, x5326⟩ := hp
                  change G _ _ _ _ _ _ _ _ _ _ _
                  refine G_ws (ws' := [(q4658, .inr (14, [.ref q4659, .int o5323, .int o5324, .int o5150, .int o5325])), (q4659, .inr (15, [.ref q4660, .int p4665])), (q4660, .inl (I .byte, 8192, .inl f4666))]) (cs' := 0) (sl' := 0) rfl rfl rfl ?_
                  exact G_vret d_cX9_advance_194 rfl (Nat.le_of_ble_eq_true rfl) (Nat.le_of_ble_eq_true rfl) ⟨o5323, o5324, o5150, o5325, rfl, rfl, (gB_w bo5323 (by decide) (by decide)), (gB_w bo5324 (by decide) (by decide)), (gB_w bo5150'' (by decide) (by decide)), bo5325, (by have qa0 : Int32.toInt 1 = 1 := (by decide); omega)⟩
                · have r5157''' : gB z5154 97 255 := ⟨by omega, by omega⟩
                  have r5157'''' : gB z5154 123 255 := ⟨by omega, by omega⟩
                  change G _ _ _ _ _ _ _ (.int 0 :: _) _ _ _
                  refine G_ws (ws' := [(q4658, .inr (14, [.ref q4659, .int p4661, .int 0, .int o5150, .int p4664])), (q4659, .inr (15, [.ref q4660, .int p4665])), (q4660, .inl (I .byte, 8192, .inl f4666))]) (cs' := 0) (sl' := 0) rfl rfl rfl ?_
                  refine G_if_eq 188 d_cX9_advance_178 (by decide +kernel) (fun _ => ?_) (fun hc => absurd hc (by decide))
                  refine G_aload_n 3 d_cX9_advance_188 rfl ?_
                  refine G_iload_n 1 d_cX9_advance_189 rfl ?_
                  refine G_iload_n 0 d_cX9_advance_190 rfl ?_
                  refine G_callV (As := [.int z5154, .int z5178]) (wr := []) (gV_ok D I) (ct_4624_Signs_takeMark l hl0 D I q4658 q4659 q4660 z5154 z5178 p4661 0 o5150 p4664 p4665 f4666 (gB_w bp4665'' (by decide) (by decide)) bf4666 (by have qa0 : Int32.toInt 0 = 0 := (by decide); have qa1 : Int32.toInt 1 = 1 := (by decide); omega)) d_cX9_advance_191 ⟨w_3_109, w_1_4, w_3_112, by decide, rfl, (Nat.le_of_ble_eq_true rfl), (Nat.le_of_ble_eq_true rfl)⟩ w_3_111 w_p_6 0 rfl rfl [0, 1, 2] [] rfl rfl rfl rfl (by decide) (Nat.le_of_ble_eq_true rfl) (Nat.le_of_ble_eq_true rfl) (Nat.le_of_ble_eq_true rfl) (fun r w hp => ?_) (fun _ _ _ z => z.elim)
                  obtain ⟨o5327, o5328, o5329, rfl, rfl, bo5327, bo5328, bo5329, x5330⟩ := hp
                  change G _ _ _ _ _ _ _ _ _ _ _
                  refine G_ws (ws' := [(q4658, .inr (14, [.ref q4659, .int o5327, .int o5328, .int o5150, .int o5329])), (q4659, .inr (15, [.ref q4660, .int p4665])), (q4660, .inl (I .byte, 8192, .inl f4666))]) (cs' := 0) (sl' := 0) rfl rfl rfl ?_
                  exact G_vret d_cX9_advance_194 rfl (Nat.le_of_ble_eq_true rfl) (Nat.le_of_ble_eq_true rfl) ⟨o5327, o5328, o5150, o5329, rfl, rfl, (gB_w bo5327 (by decide) (by decide)), (gB_w bo5328 (by decide) (by decide)), (gB_w bo5150'' (by decide) (by decide)), bo5329, (by have qa0 : Int32.toInt 1 = 1 := (by decide); omega)⟩
                · have r5157''' : gB z5154 97 255 := ⟨by omega, by omega⟩
                  have r5157'''' : gB z5154 97 122 := ⟨by omega, by omega⟩
                  change G _ _ _ _ _ _ _ (.int 1 :: _) _ _ _
                  refine G_ws (ws' := [(q4658, .inr (14, [.ref q4659, .int p4661, .int 0, .int o5150, .int p4664])), (q4659, .inr (15, [.ref q4660, .int p4665])), (q4660, .inl (I .byte, 8192, .inl f4666))]) (cs' := 0) (sl' := 0) rfl rfl rfl ?_
                  refine G_if_eq 188 d_cX9_advance_178 (by decide +kernel) (fun hc => absurd hc (by decide)) (fun _ => ?_)
                  refine G_aload_n 3 d_cX9_advance_181 rfl ?_
                  refine G_callV (As := []) (wr := []) (gV_ok D I) (ct_3805_Signs_takeWord l hl0 D I q4658 q4659 q4660 p4661 0 o5150 p4664 p4665 f4666 (gB_w bp4665'' (by decide) (by decide)) bf4666 (by have qa0 : Int32.toInt 0 = 0 := (by decide); have qa1 : Int32.toInt 1 = 1 := (by decide); omega)) d_cX9_advance_182 ⟨w_3_48, w_1_4, w_3_51, by decide, rfl, (Nat.le_of_ble_eq_true rfl), (Nat.le_of_ble_eq_true rfl)⟩ w_3_50 w_p_4 0 rfl rfl [0, 1, 2] [] rfl rfl rfl rfl (by decide) (Nat.le_of_ble_eq_true rfl) (Nat.le_of_ble_eq_true rfl) (Nat.le_of_ble_eq_true rfl) (fun r w hp => ?_) (fun _ _ _ z => z.elim)
                  obtain ⟨o5331, o5332, rfl, rfl, bo5331, bo5332, x5333⟩ := hp
                  rw [show Int32.toInt 0 = 0 from by decide] at x5333
                  change G _ _ _ _ _ _ _ _ _ _ _
                  refine G_ws (ws' := [(q4658, .inr (14, [.ref q4659, .int o5331, .int 0, .int o5150, .int o5332])), (q4659, .inr (15, [.ref q4660, .int p4665])), (q4660, .inl (I .byte, 8192, .inl f4666))]) (cs' := 0) (sl' := 0) rfl rfl rfl ?_
                  refine G_goto 194 d_cX9_advance_185 (by decide +kernel) ?_
                  exact G_vret d_cX9_advance_194 rfl (Nat.le_of_ble_eq_true rfl) (Nat.le_of_ble_eq_true rfl) ⟨o5331, 0, o5150, o5332, rfl, rfl, bo5331, (gB_w (gBl (show Int32.toInt 0 = 0 by decide)) (by decide) (by decide)), (gB_w bo5150'' (by decide) (by decide)), bo5332, (by have qa0 : Int32.toInt 0 = 0 := (by decide); have qa1 : Int32.toInt 1 = 1 := (by decide); omega)⟩
              · have r5334 : z5154.toInt = 98 := gj_eq hc5316 (show Int32.toInt 98 = 98 by decide)
                have r5157''' : gB z5154 98 98 := ⟨by omega, by omega⟩
                refine G_iload_n 0 d_cX9_advance_157 rfl ?_
                refine G_callS (As := [.int z5178]) (wr := [(q4658, .inr (14, [.ref q4659, .int p4661, .int 0, .int o5150, .int p4664])), (q4659, .inr (15, [.ref q4660, .int p4665])), (q4660, .inl (I .byte, 8192, .inl f4666))]) (gV_ok D I) (ct_304_Signs_isDigit l hl0 D I z5178 ) d_cX9_advance_158 ⟨w_3_24, w_1_4, w_3_26, by decide, rfl, (Nat.le_of_ble_eq_true rfl), (Nat.le_of_ble_eq_true rfl)⟩ w_3_25 [] [0, 1, 2] rfl rfl rfl rfl (by decide) (Nat.le_of_ble_eq_true rfl) (Nat.le_of_ble_eq_true rfl) (Nat.le_of_ble_eq_true rfl) (fun r w hp => ?_) (fun _ _ _ z => z.elim)
                rcases hp with ⟨rfl, rfl, r5335⟩ | ⟨rfl, rfl, r5336, r5337⟩ | ⟨rfl, rfl, r5338, r5339⟩
                · have r5181' : gB z5178 0 47 := ⟨by omega, by omega⟩
                  change G _ _ _ _ _ _ _ (.int 0 :: _) _ _ _
                  refine G_ws (ws' := [(q4658, .inr (14, [.ref q4659, .int p4661, .int 0, .int o5150, .int p4664])), (q4659, .inr (15, [.ref q4660, .int p4665])), (q4660, .inl (I .byte, 8192, .inl f4666))]) (cs' := 0) (sl' := 0) rfl rfl rfl ?_
                  refine G_if_eq 174 d_cX9_advance_161 (by decide +kernel) (fun _ => ?_) (fun hc => absurd hc (by decide))
                  refine G_iload_n 1 d_cX9_advance_174 rfl ?_
                  refine G_callS (As := [.int z5154]) (wr := [(q4658, .inr (14, [.ref q4659, .int p4661, .int 0, .int o5150, .int p4664])), (q4659, .inr (15, [.ref q4660, .int p4665])), (q4660, .inl (I .byte, 8192, .inl f4666))]) (gV_ok D I) (ct_312_Signs_isLetter l hl0 D I z5154 ) d_cX9_advance_175 ⟨w_3_45, w_1_4, w_3_47, by decide, rfl, (Nat.le_of_ble_eq_true rfl), (Nat.le_of_ble_eq_true rfl)⟩ w_3_46 [] [0, 1, 2] rfl rfl rfl rfl (by decide) (Nat.le_of_ble_eq_true rfl) (Nat.le_of_ble_eq_true rfl) (Nat.le_of_ble_eq_true rfl) (fun r w hp => ?_) (fun _ _ _ z => z.elim)
                  rcases hp with ⟨rfl, rfl, r5340⟩ | ⟨rfl, rfl, r5341, r5342⟩ | ⟨rfl, rfl, r5343, r5344⟩
                  · exact absurd (show False by omega) not_false
                  · exact absurd (show False by omega) not_false
                  · change G _ _ _ _ _ _ _ (.int 1 :: _) _ _ _
                    refine G_ws (ws' := [(q4658, .inr (14, [.ref q4659, .int p4661, .int 0, .int o5150, .int p4664])), (q4659, .inr (15, [.ref q4660, .int p4665])), (q4660, .inl (I .byte, 8192, .inl f4666))]) (cs' := 0) (sl' := 0) rfl rfl rfl ?_
                    refine G_if_eq 188 d_cX9_advance_178 (by decide +kernel) (fun hc => absurd hc (by decide)) (fun _ => ?_)
                    refine G_aload_n 3 d_cX9_advance_181 rfl ?_
                    refine G_callV (As := []) (wr := []) (gV_ok D I) (ct_3805_Signs_takeWord l hl0 D I q4658 q4659 q4660 p4661 0 o5150 p4664 p4665 f4666 (gB_w bp4665'' (by decide) (by decide)) bf4666 (by have qa0 : Int32.toInt 0 = 0 := (by decide); have qa1 : Int32.toInt 1 = 1 := (by decide); omega)) d_cX9_advance_182 ⟨w_3_48, w_1_4, w_3_51, by decide, rfl, (Nat.le_of_ble_eq_true rfl), (Nat.le_of_ble_eq_true rfl)⟩ w_3_50 w_p_4 0 rfl rfl [0, 1, 2] [] rfl rfl rfl rfl (by decide) (Nat.le_of_ble_eq_true rfl) (Nat.le_of_ble_eq_true rfl) (Nat.le_of_ble_eq_true rfl) (fun r w hp => ?_) (fun _ _ _ z => z.elim)
                    obtain ⟨o5345, o5346, rfl, rfl, bo5345, bo5346, x5347⟩ := hp
                    rw [show Int32.toInt 0 = 0 from by decide] at x5347
                    change G _ _ _ _ _ _ _ _ _ _ _
                    refine G_ws (ws' := [(q4658, .inr (14, [.ref q4659, .int o5345, .int 0, .int o5150, .int o5346])), (q4659, .inr (15, [.ref q4660, .int p4665])), (q4660, .inl (I .byte, 8192, .inl f4666))]) (cs' := 0) (sl' := 0) rfl rfl rfl ?_
                    refine G_goto 194 d_cX9_advance_185 (by decide +kernel) ?_
                    exact G_vret d_cX9_advance_194 rfl (Nat.le_of_ble_eq_true rfl) (Nat.le_of_ble_eq_true rfl) ⟨o5345, 0, o5150, o5346, rfl, rfl, bo5345, (gB_w (gBl (show Int32.toInt 0 = 0 by decide)) (by decide) (by decide)), (gB_w bo5150'' (by decide) (by decide)), bo5346, (by have qa0 : Int32.toInt 0 = 0 := (by decide); have qa1 : Int32.toInt 1 = 1 := (by decide); omega)⟩
                · have r5181' : gB z5178 48 255 := ⟨by omega, by omega⟩
                  have r5181'' : gB z5178 58 255 := ⟨by omega, by omega⟩
                  change G _ _ _ _ _ _ _ (.int 0 :: _) _ _ _
                  refine G_ws (ws' := [(q4658, .inr (14, [.ref q4659, .int p4661, .int 0, .int o5150, .int p4664])), (q4659, .inr (15, [.ref q4660, .int p4665])), (q4660, .inl (I .byte, 8192, .inl f4666))]) (cs' := 0) (sl' := 0) rfl rfl rfl ?_
                  refine G_if_eq 174 d_cX9_advance_161 (by decide +kernel) (fun _ => ?_) (fun hc => absurd hc (by decide))
                  refine G_iload_n 1 d_cX9_advance_174 rfl ?_
                  refine G_callS (As := [.int z5154]) (wr := [(q4658, .inr (14, [.ref q4659, .int p4661, .int 0, .int o5150, .int p4664])), (q4659, .inr (15, [.ref q4660, .int p4665])), (q4660, .inl (I .byte, 8192, .inl f4666))]) (gV_ok D I) (ct_312_Signs_isLetter l hl0 D I z5154 ) d_cX9_advance_175 ⟨w_3_45, w_1_4, w_3_47, by decide, rfl, (Nat.le_of_ble_eq_true rfl), (Nat.le_of_ble_eq_true rfl)⟩ w_3_46 [] [0, 1, 2] rfl rfl rfl rfl (by decide) (Nat.le_of_ble_eq_true rfl) (Nat.le_of_ble_eq_true rfl) (Nat.le_of_ble_eq_true rfl) (fun r w hp => ?_) (fun _ _ _ z => z.elim)
                  rcases hp with ⟨rfl, rfl, r5348⟩ | ⟨rfl, rfl, r5349, r5350⟩ | ⟨rfl, rfl, r5351, r5352⟩
                  · exact absurd (show False by omega) not_false
                  · exact absurd (show False by omega) not_false
                  · change G _ _ _ _ _ _ _ (.int 1 :: _) _ _ _
                    refine G_ws (ws' := [(q4658, .inr (14, [.ref q4659, .int p4661, .int 0, .int o5150, .int p4664])), (q4659, .inr (15, [.ref q4660, .int p4665])), (q4660, .inl (I .byte, 8192, .inl f4666))]) (cs' := 0) (sl' := 0) rfl rfl rfl ?_
                    refine G_if_eq 188 d_cX9_advance_178 (by decide +kernel) (fun hc => absurd hc (by decide)) (fun _ => ?_)
                    refine G_aload_n 3 d_cX9_advance_181 rfl ?_
                    refine G_callV (As := []) (wr := []) (gV_ok D I) (ct_3805_Signs_takeWord l hl0 D I q4658 q4659 q4660 p4661 0 o5150 p4664 p4665 f4666 (gB_w bp4665'' (by decide) (by decide)) bf4666 (by have qa0 : Int32.toInt 0 = 0 := (by decide); have qa1 : Int32.toInt 1 = 1 := (by decide); omega)) d_cX9_advance_182 ⟨w_3_48, w_1_4, w_3_51, by decide, rfl, (Nat.le_of_ble_eq_true rfl), (Nat.le_of_ble_eq_true rfl)⟩ w_3_50 w_p_4 0 rfl rfl [0, 1, 2] [] rfl rfl rfl rfl (by decide) (Nat.le_of_ble_eq_true rfl) (Nat.le_of_ble_eq_true rfl) (Nat.le_of_ble_eq_true rfl) (fun r w hp => ?_) (fun _ _ _ z => z.elim)
                    obtain ⟨o5353, o5354, rfl, rfl, bo5353, bo5354, x5355⟩ := hp
                    rw [show Int32.toInt 0 = 0 from by decide] at x5355
                    change G _ _ _ _ _ _ _ _ _ _ _
                    refine G_ws (ws' := [(q4658, .inr (14, [.ref q4659, .int o5353, .int 0, .int o5150, .int o5354])), (q4659, .inr (15, [.ref q4660, .int p4665])), (q4660, .inl (I .byte, 8192, .inl f4666))]) (cs' := 0) (sl' := 0) rfl rfl rfl ?_
                    refine G_goto 194 d_cX9_advance_185 (by decide +kernel) ?_
                    exact G_vret d_cX9_advance_194 rfl (Nat.le_of_ble_eq_true rfl) (Nat.le_of_ble_eq_true rfl) ⟨o5353, 0, o5150, o5354, rfl, rfl, bo5353, (gB_w (gBl (show Int32.toInt 0 = 0 by decide)) (by decide) (by decide)), (gB_w bo5150'' (by decide) (by decide)), bo5354, (by have qa0 : Int32.toInt 0 = 0 := (by decide); have qa1 : Int32.toInt 1 = 1 := (by decide); omega)⟩
                · have r5181' : gB z5178 48 255 := ⟨by omega, by omega⟩
                  have r5181'' : gB z5178 48 57 := ⟨by omega, by omega⟩
                  change G _ _ _ _ _ _ _ (.int 1 :: _) _ _ _
                  refine G_ws (ws' := [(q4658, .inr (14, [.ref q4659, .int p4661, .int 0, .int o5150, .int p4664])), (q4659, .inr (15, [.ref q4660, .int p4665])), (q4660, .inl (I .byte, 8192, .inl f4666))]) (cs' := 0) (sl' := 0) rfl rfl rfl ?_
                  refine G_if_eq 174 d_cX9_advance_161 (by decide +kernel) (fun hc => absurd hc (by decide)) (fun _ => ?_)
                  refine G_aload_n 3 d_cX9_advance_164 rfl ?_
                  refine G_iconst 3 d_cX9_advance_165 (by decide +kernel) ?_
                  refine G_bipush 40 d_cX9_advance_166 (by decide +kernel) ?_
                  refine G_callV (As := [.int 3, .int 40]) (wr := []) (gV_ok D I) (ct_665_Signs_takeNamed l hl0 D I q4658 q4659 q4660 3 40 p4661 0 o5150 p4664 p4665 f4666 (gB_w (gBl (show Int32.toInt 3 = 3 by decide)) (by decide) (by decide)) (gB_w bp4665'' (by decide) (by decide)) bf4666 (by have qa0 : Int32.toInt 0 = 0 := (by decide); have qa1 : Int32.toInt 1 = 1 := (by decide); have qa2 : Int32.toInt 3 = 3 := (by decide); have qa3 : Int32.toInt 40 = 40 := (by decide); omega)) d_cX9_advance_168 ⟨w_3_41, w_1_4, w_3_44, by decide, rfl, (Nat.le_of_ble_eq_true rfl), (Nat.le_of_ble_eq_true rfl)⟩ w_3_43 w_p_3 0 rfl rfl [0, 1, 2] [] rfl rfl rfl rfl (by decide) (Nat.le_of_ble_eq_true rfl) (Nat.le_of_ble_eq_true rfl) (Nat.le_of_ble_eq_true rfl) (fun r w hp => ?_) (fun _ _ _ z => z.elim)
                  obtain ⟨o5356, o5357, o5358, rfl, rfl, bo5356, bo5357, bo5358, x5359⟩ := hp
                  change G _ _ _ _ _ _ _ _ _ _ _
                  refine G_ws (ws' := [(q4658, .inr (14, [.ref q4659, .int o5356, .int o5357, .int o5150, .int o5358])), (q4659, .inr (15, [.ref q4660, .int p4665])), (q4660, .inl (I .byte, 8192, .inl f4666))]) (cs' := 0) (sl' := 0) rfl rfl rfl ?_
                  refine G_goto 194 d_cX9_advance_171 (by decide +kernel) ?_
                  exact G_vret d_cX9_advance_194 rfl (Nat.le_of_ble_eq_true rfl) (Nat.le_of_ble_eq_true rfl) ⟨o5356, o5357, o5150, o5358, rfl, rfl, (gB_w bo5356 (by decide) (by decide)), bo5357, (gB_w bo5150'' (by decide) (by decide)), bo5358, (by have qa0 : Int32.toInt 1 = 1 := (by decide); omega)⟩
            · have r5360 : z5154.toInt = 118 := gj_eq hc5314 (show Int32.toInt 118 = 118 by decide)
              have r5157''' : gB z5154 118 118 := ⟨by omega, by omega⟩
              refine G_iload_n 0 d_cX9_advance_134 rfl ?_
              refine G_callS (As := [.int z5178]) (wr := [(q4658, .inr (14, [.ref q4659, .int p4661, .int 0, .int o5150, .int p4664])), (q4659, .inr (15, [.ref q4660, .int p4665])), (q4660, .inl (I .byte, 8192, .inl f4666))]) (gV_ok D I) (ct_304_Signs_isDigit l hl0 D I z5178 ) d_cX9_advance_135 ⟨w_3_24, w_1_4, w_3_26, by decide, rfl, (Nat.le_of_ble_eq_true rfl), (Nat.le_of_ble_eq_true rfl)⟩ w_3_25 [] [0, 1, 2] rfl rfl rfl rfl (by decide) (Nat.le_of_ble_eq_true rfl) (Nat.le_of_ble_eq_true rfl) (Nat.le_of_ble_eq_true rfl) (fun r w hp => ?_) (fun _ _ _ z => z.elim)
              rcases hp with ⟨rfl, rfl, r5361⟩ | ⟨rfl, rfl, r5362, r5363⟩ | ⟨rfl, rfl, r5364, r5365⟩
              · have r5181' : gB z5178 0 47 := ⟨by omega, by omega⟩
                change G _ _ _ _ _ _ _ (.int 0 :: _) _ _ _
                refine G_ws (ws' := [(q4658, .inr (14, [.ref q4659, .int p4661, .int 0, .int o5150, .int p4664])), (q4659, .inr (15, [.ref q4660, .int p4665])), (q4660, .inl (I .byte, 8192, .inl f4666))]) (cs' := 0) (sl' := 0) rfl rfl rfl ?_
                refine G_if_eq 151 d_cX9_advance_138 (by decide +kernel) (fun _ => ?_) (fun hc => absurd hc (by decide))
                refine G_iload_n 1 d_cX9_advance_151 rfl ?_
                refine G_bipush 98 d_cX9_advance_152 (by decide +kernel) ?_
                refine G_icmp_ne 174 d_cX9_advance_154 (by decide +kernel) (fun _ => ?_) (fun hc => absurd (show False by have := gj_eq hc (show Int32.toInt 98 = 98 by decide); omega) not_false)
                refine G_iload_n 1 d_cX9_advance_174 rfl ?_
                refine G_callS (As := [.int z5154]) (wr := [(q4658, .inr (14, [.ref q4659, .int p4661, .int 0, .int o5150, .int p4664])), (q4659, .inr (15, [.ref q4660, .int p4665])), (q4660, .inl (I .byte, 8192, .inl f4666))]) (gV_ok D I) (ct_312_Signs_isLetter l hl0 D I z5154 ) d_cX9_advance_175 ⟨w_3_45, w_1_4, w_3_47, by decide, rfl, (Nat.le_of_ble_eq_true rfl), (Nat.le_of_ble_eq_true rfl)⟩ w_3_46 [] [0, 1, 2] rfl rfl rfl rfl (by decide) (Nat.le_of_ble_eq_true rfl) (Nat.le_of_ble_eq_true rfl) (Nat.le_of_ble_eq_true rfl) (fun r w hp => ?_) (fun _ _ _ z => z.elim)
                rcases hp with ⟨rfl, rfl, r5366⟩ | ⟨rfl, rfl, r5367, r5368⟩ | ⟨rfl, rfl, r5369, r5370⟩
                · exact absurd (show False by omega) not_false
                · exact absurd (show False by omega) not_false
                · change G _ _ _ _ _ _ _ (.int 1 :: _) _ _ _
                  refine G_ws (ws' := [(q4658, .inr (14, [.ref q4659, .int p4661, .int 0, .int o5150, .int p4664])), (q4659, .inr (15, [.ref q4660, .int p4665])), (q4660, .inl (I .byte, 8192, .inl f4666))]) (cs' := 0) (sl' := 0) rfl rfl rfl ?_
                  refine G_if_eq 188 d_cX9_advance_178 (by decide +kernel) (fun hc => absurd hc (by decide)) (fun _ => ?_)
                  refine G_aload_n 3 d_cX9_advance_181 rfl ?_
                  refine G_callV (As := []) (wr := []) (gV_ok D I) (ct_3805_Signs_takeWord l hl0 D I q4658 q4659 q4660 p4661 0 o5150 p4664 p4665 f4666 (gB_w bp4665'' (by decide) (by decide)) bf4666 (by have qa0 : Int32.toInt 0 = 0 := (by decide); have qa1 : Int32.toInt 1 = 1 := (by decide); omega)) d_cX9_advance_182 ⟨w_3_48, w_1_4, w_3_51, by decide, rfl, (Nat.le_of_ble_eq_true rfl), (Nat.le_of_ble_eq_true rfl)⟩ w_3_50 w_p_4 0 rfl rfl [0, 1, 2] [] rfl rfl rfl rfl (by decide) (Nat.le_of_ble_eq_true rfl) (Nat.le_of_ble_eq_true rfl) (Nat.le_of_ble_eq_true rfl) (fun r w hp => ?_) (fun _ _ _ z => z.elim)
                  obtain ⟨o5371, o5372, rfl, rfl, bo5371, bo5372, x5373⟩ := hp
                  rw [show Int32.toInt 0 = 0 from by decide] at x5373
                  change G _ _ _ _ _ _ _ _ _ _ _
                  refine G_ws (ws' := [(q4658, .inr (14, [.ref q4659, .int o5371, .int 0, .int o5150, .int o5372])), (q4659, .inr (15, [.ref q4660, .int p4665])), (q4660, .inl (I .byte, 8192, .inl f4666))]) (cs' := 0) (sl' := 0) rfl rfl rfl ?_
                  refine G_goto 194 d_cX9_advance_185 (by decide +kernel) ?_
                  exact G_vret d_cX9_advance_194 rfl (Nat.le_of_ble_eq_true rfl) (Nat.le_of_ble_eq_true rfl) ⟨o5371, 0, o5150, o5372, rfl, rfl, bo5371, (gB_w (gBl (show Int32.toInt 0 = 0 by decide)) (by decide) (by decide)), (gB_w bo5150'' (by decide) (by decide)), bo5372, (by have qa0 : Int32.toInt 0 = 0 := (by decide); have qa1 : Int32.toInt 1 = 1 := (by decide); omega)⟩
              · have r5181' : gB z5178 48 255 := ⟨by omega, by omega⟩
                have r5181'' : gB z5178 58 255 := ⟨by omega, by omega⟩
                change G _ _ _ _ _ _ _ (.int 0 :: _) _ _ _
                refine G_ws (ws' := [(q4658, .inr (14, [.ref q4659, .int p4661, .int 0, .int o5150, .int p4664])), (q4659, .inr (15, [.ref q4660, .int p4665])), (q4660, .inl (I .byte, 8192, .inl f4666))]) (cs' := 0) (sl' := 0) rfl rfl rfl ?_
                refine G_if_eq 151 d_cX9_advance_138 (by decide +kernel) (fun _ => ?_) (fun hc => absurd hc (by decide))
                refine G_iload_n 1 d_cX9_advance_151 rfl ?_
                refine G_bipush 98 d_cX9_advance_152 (by decide +kernel) ?_
                refine G_icmp_ne 174 d_cX9_advance_154 (by decide +kernel) (fun _ => ?_) (fun hc => absurd (show False by have := gj_eq hc (show Int32.toInt 98 = 98 by decide); omega) not_false)
                refine G_iload_n 1 d_cX9_advance_174 rfl ?_
                refine G_callS (As := [.int z5154]) (wr := [(q4658, .inr (14, [.ref q4659, .int p4661, .int 0, .int o5150, .int p4664])), (q4659, .inr (15, [.ref q4660, .int p4665])), (q4660, .inl (I .byte, 8192, .inl f4666))]) (gV_ok D I) (ct_312_Signs_isLetter l hl0 D I z5154 ) d_cX9_advance_175 ⟨w_3_45, w_1_4, w_3_47, by decide, rfl, (Nat.le_of_ble_eq_true rfl), (Nat.le_of_ble_eq_true rfl)⟩ w_3_46 [] [0, 1, 2] rfl rfl rfl rfl (by decide) (Nat.le_of_ble_eq_true rfl) (Nat.le_of_ble_eq_true rfl) (Nat.le_of_ble_eq_true rfl) (fun r w hp => ?_) (fun _ _ _ z => z.elim)
                rcases hp with ⟨rfl, rfl, r5374⟩ | ⟨rfl, rfl, r5375, r5376⟩ | ⟨rfl, rfl, r5377, r5378⟩
                · exact absurd (show False by omega) not_false
                · exact absurd (show False by omega) not_false
                · change G _ _ _ _ _ _ _ (.int 1 :: _) _ _ _
                  refine G_ws (ws' := [(q4658, .inr (14, [.ref q4659, .int p4661, .int 0, .int o5150, .int p4664])), (q4659, .inr (15, [.ref q4660, .int p4665])), (q4660, .inl (I .byte, 8192, .inl f4666))]) (cs' := 0) (sl' := 0) rfl rfl rfl ?_
                  refine G_if_eq 188 d_cX9_advance_178 (by decide +kernel) (fun hc => absurd hc (by decide)) (fun _ => ?_)
                  refine G_aload_n 3 d_cX9_advance_181 rfl ?_
                  refine G_callV (As := []) (wr := []) (gV_ok D I) (ct_3805_Signs_takeWord l hl0 D I q4658 q4659 q4660 p4661 0 o5150 p4664 p4665 f4666 (gB_w bp4665'' (by decide) (by decide)) bf4666 (by have qa0 : Int32.toInt 0 = 0 := (by decide); have qa1 : Int32.toInt 1 = 1 := (by decide); omega)) d_cX9_advance_182 ⟨w_3_48, w_1_4, w_3_51, by decide, rfl, (Nat.le_of_ble_eq_true rfl), (Nat.le_of_ble_eq_true rfl)⟩ w_3_50 w_p_4 0 rfl rfl [0, 1, 2] [] rfl rfl rfl rfl (by decide) (Nat.le_of_ble_eq_true rfl) (Nat.le_of_ble_eq_true rfl) (Nat.le_of_ble_eq_true rfl) (fun r w hp => ?_) (fun _ _ _ z => z.elim)
                  obtain ⟨o5379, o5380, rfl, rfl, bo5379, bo5380, x5381⟩ := hp
                  rw [show Int32.toInt 0 = 0 from by decide] at x5381
                  change G _ _ _ _ _ _ _ _ _ _ _
                  refine G_ws (ws' := [(q4658, .inr (14, [.ref q4659, .int o5379, .int 0, .int o5150, .int o5380])), (q4659, .inr (15, [.ref q4660, .int p4665])), (q4660, .inl (I .byte, 8192, .inl f4666))]) (cs' := 0) (sl' := 0) rfl rfl rfl ?_
                  refine G_goto 194 d_cX9_advance_185 (by decide +kernel) ?_
                  exact G_vret d_cX9_advance_194 rfl (Nat.le_of_ble_eq_true rfl) (Nat.le_of_ble_eq_true rfl) ⟨o5379, 0, o5150, o5380, rfl, rfl, bo5379, (gB_w (gBl (show Int32.toInt 0 = 0 by decide)) (by decide) (by decide)), (gB_w bo5150'' (by decide) (by decide)), bo5380, (by have qa0 : Int32.toInt 0 = 0 := (by decide); have qa1 : Int32.toInt 1 = 1 := (by decide); omega)⟩
              · have r5181' : gB z5178 48 255 := ⟨by omega, by omega⟩
                have r5181'' : gB z5178 48 57 := ⟨by omega, by omega⟩
                change G _ _ _ _ _ _ _ (.int 1 :: _) _ _ _
                refine G_ws (ws' := [(q4658, .inr (14, [.ref q4659, .int p4661, .int 0, .int o5150, .int p4664])), (q4659, .inr (15, [.ref q4660, .int p4665])), (q4660, .inl (I .byte, 8192, .inl f4666))]) (cs' := 0) (sl' := 0) rfl rfl rfl ?_
                refine G_if_eq 151 d_cX9_advance_138 (by decide +kernel) (fun hc => absurd hc (by decide)) (fun _ => ?_)
                refine G_aload_n 3 d_cX9_advance_141 rfl ?_
                refine G_iconst 2 d_cX9_advance_142 (by decide +kernel) ?_
                refine G_bipush 100 d_cX9_advance_143 (by decide +kernel) ?_
                refine G_callV (As := [.int 2, .int 100]) (wr := []) (gV_ok D I) (ct_665_Signs_takeNamed l hl0 D I q4658 q4659 q4660 2 100 p4661 0 o5150 p4664 p4665 f4666 (gB_w (gBl (show Int32.toInt 2 = 2 by decide)) (by decide) (by decide)) (gB_w bp4665'' (by decide) (by decide)) bf4666 (by have qa0 : Int32.toInt 0 = 0 := (by decide); have qa1 : Int32.toInt 1 = 1 := (by decide); have qa2 : Int32.toInt 2 = 2 := (by decide); have qa3 : Int32.toInt 100 = 100 := (by decide); omega)) d_cX9_advance_145 ⟨w_3_41, w_1_4, w_3_44, by decide, rfl, (Nat.le_of_ble_eq_true rfl), (Nat.le_of_ble_eq_true rfl)⟩ w_3_43 w_p_3 0 rfl rfl [0, 1, 2] [] rfl rfl rfl rfl (by decide) (Nat.le_of_ble_eq_true rfl) (Nat.le_of_ble_eq_true rfl) (Nat.le_of_ble_eq_true rfl) (fun r w hp => ?_) (fun _ _ _ z => z.elim)
                obtain ⟨o5382, o5383, o5384, rfl, rfl, bo5382, bo5383, bo5384, x5385⟩ := hp
                change G _ _ _ _ _ _ _ _ _ _ _
                refine G_ws (ws' := [(q4658, .inr (14, [.ref q4659, .int o5382, .int o5383, .int o5150, .int o5384])), (q4659, .inr (15, [.ref q4660, .int p4665])), (q4660, .inl (I .byte, 8192, .inl f4666))]) (cs' := 0) (sl' := 0) rfl rfl rfl ?_
                refine G_goto 194 d_cX9_advance_148 (by decide +kernel) ?_
                exact G_vret d_cX9_advance_194 rfl (Nat.le_of_ble_eq_true rfl) (Nat.le_of_ble_eq_true rfl) ⟨o5382, o5383, o5150, o5384, rfl, rfl, (gB_w bo5382 (by decide) (by decide)), bo5383, (gB_w bo5150'' (by decide) (by decide)), bo5384, (by have qa0 : Int32.toInt 1 = 1 := (by decide); omega)⟩
          · have r5157' : gB z5154 48 255 := ⟨by omega, by omega⟩
            have r5157'' : gB z5154 48 57 := ⟨by omega, by omega⟩
            change G _ _ _ _ _ _ _ (.int 1 :: _) _ _ _
            refine G_ws (ws' := [(q4658, .inr (14, [.ref q4659, .int p4661, .int 0, .int o5150, .int p4664])), (q4659, .inr (15, [.ref q4660, .int p4665])), (q4660, .inl (I .byte, 8192, .inl f4666))]) (cs' := 0) (sl' := 0) rfl rfl rfl ?_
            refine G_if_ne 110 d_cX9_advance_90 (by decide +kernel) (fun _ => ?_) (fun hc => absurd hc (by decide))
            refine G_aload_n 3 d_cX9_advance_110 rfl ?_
            refine G_iload_n 1 d_cX9_advance_111 rfl ?_
            refine G_bipush 45 d_cX9_advance_112 (by decide +kernel) ?_
            refine G_icmp_ne 121 d_cX9_advance_114 (by decide +kernel) (fun _ => ?_) (fun hc => absurd (show False by have := gj_eq hc (show Int32.toInt 45 = 45 by decide); omega) not_false)
            refine G_iconst 0 d_cX9_advance_121 (by decide +kernel) ?_
            refine G_callV (As := [.int 0]) (wr := []) (gV_ok D I) (ct_628_Signs_takeNumber l hl0 D I q4658 q4659 q4660 0 p4661 0 o5150 p4664 p4665 f4666 (gB_w (gBl (show Int32.toInt 0 = 0 by decide)) (by decide) (by decide)) (gB_w bp4665'' (by decide) (by decide)) bf4666 (by have qa0 : Int32.toInt 0 = 0 := (by decide); have qa1 : Int32.toInt 1 = 1 := (by decide); omega)) d_cX9_advance_122 ⟨w_3_27, w_1_4, w_3_30, by decide, rfl, (Nat.le_of_ble_eq_true rfl), (Nat.le_of_ble_eq_true rfl)⟩ w_3_29 w_p_1 0 rfl rfl [0, 1, 2] [] rfl rfl rfl rfl (by decide) (Nat.le_of_ble_eq_true rfl) (Nat.le_of_ble_eq_true rfl) (Nat.le_of_ble_eq_true rfl) (fun r w hp => ?_) (fun _ _ _ z => z.elim)
            obtain ⟨o5386, o5387, o5388, rfl, rfl, bo5386, bo5387, bo5388, x5389⟩ := hp
            change G _ _ _ _ _ _ _ _ _ _ _
            refine G_ws (ws' := [(q4658, .inr (14, [.ref q4659, .int o5386, .int o5387, .int o5150, .int o5388])), (q4659, .inr (15, [.ref q4660, .int p4665])), (q4660, .inl (I .byte, 8192, .inl f4666))]) (cs' := 0) (sl' := 0) rfl rfl rfl ?_
            refine G_goto 194 d_cX9_advance_125 (by decide +kernel) ?_
            exact G_vret d_cX9_advance_194 rfl (Nat.le_of_ble_eq_true rfl) (Nat.le_of_ble_eq_true rfl) ⟨o5386, o5387, o5150, o5388, rfl, rfl, (gB_w bo5386 (by decide) (by decide)), bo5387, (gB_w bo5150'' (by decide) (by decide)), bo5388, (by have qa0 : Int32.toInt 1 = 1 := (by decide); omega)⟩
