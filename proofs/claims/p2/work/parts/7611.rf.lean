theorem dr_cX17_run_0 : decode cX17_run 0 = .ok (.iconst 0, 1) := by decide +kernel
theorem dr_cX17_run_1 : decode cX17_run 1 = .ok (.istore_n 3, 1) := by decide +kernel
theorem dr_cX17_run_2 : decode cX17_run 2 = .ok (.iload_n 3, 1) := by decide +kernel
theorem dr_cX17_run_3 : decode cX17_run 3 = .ok (.sipush 2000, 3) := by decide +kernel
theorem dr_cX17_run_6 : decode cX17_run 6 = .ok (.if_icmp .ge 23, 3) := by decide +kernel
theorem dr_cX17_run_29 : decode cX17_run 29 = .ok (.aload_n 0, 1) := by decide +kernel
theorem dr_cX17_run_30 : decode cX17_run 30 = .ok (.iconst 0, 1) := by decide +kernel
theorem dr_cX17_run_31 : decode cX17_run 31 = .ok (.putfield 277, 3) := by decide +kernel
theorem dr_cX17_run_34 : decode cX17_run 34 = .ok (.aload_n 0, 1) := by decide +kernel
theorem dr_cX17_run_35 : decode cX17_run 35 = .ok (.iconst 0, 1) := by decide +kernel
theorem dr_cX17_run_36 : decode cX17_run 36 = .ok (.putfield 280, 3) := by decide +kernel
theorem dr_cX17_run_39 : decode cX17_run 39 = .ok (.aload_n 0, 1) := by decide +kernel
theorem dr_cX17_run_40 : decode cX17_run 40 = .ok (.iconst 0, 1) := by decide +kernel
theorem dr_cX17_run_41 : decode cX17_run 41 = .ok (.putfield 283, 3) := by decide +kernel
theorem dr_cX17_run_44 : decode cX17_run 44 = .ok (.aload_n 0, 1) := by decide +kernel
theorem dr_cX17_run_45 : decode cX17_run 45 = .ok (.iconst 0, 1) := by decide +kernel
theorem dr_cX17_run_46 : decode cX17_run 46 = .ok (.putfield 286, 3) := by decide +kernel
theorem dr_cX17_run_49 : decode cX17_run 49 = .ok (.iconst 0, 1) := by decide +kernel
theorem dr_cX17_run_50 : decode cX17_run 50 = .ok (.istore_n 3, 1) := by decide +kernel
theorem dr_cX17_run_51 : decode cX17_run 51 = .ok (.iconst 0, 1) := by decide +kernel
theorem dr_cX17_run_52 : decode cX17_run 52 = .ok (.istore 4, 2) := by decide +kernel
theorem dr_cX17_run_54 : decode cX17_run 54 = .ok (.aload_n 1, 1) := by decide +kernel
theorem dr_cX17_run_55 : decode cX17_run 55 = .ok (.iload_n 3, 1) := by decide +kernel
theorem dr_cX17_run_56 : decode cX17_run 56 = .ok (.invokevirtual 101, 3) := by decide +kernel
theorem dr_cX17_run_59 : decode cX17_run 59 = .ok (.astore 5, 2) := by decide +kernel
theorem dr_cX17_run_61 : decode cX17_run 61 = .ok (.aload_n 0, 1) := by decide +kernel
theorem dr_cX17_run_62 : decode cX17_run 62 = .ok (.getfield 283, 3) := by decide +kernel
theorem dr_cX17_run_65 : decode cX17_run 65 = .ok (.iload_n 2, 1) := by decide +kernel
theorem dr_cX17_run_66 : decode cX17_run 66 = .ok (.if_icmp .ne 5, 3) := by decide +kernel
theorem dr_cX17_run_71 : decode cX17_run 71 = .ok (.aload_n 0, 1) := by decide +kernel
theorem dr_cX17_run_72 : decode cX17_run 72 = .ok (.dup, 1) := by decide +kernel
theorem dr_cX17_run_73 : decode cX17_run 73 = .ok (.getfield 283, 3) := by decide +kernel
theorem dr_cX17_run_76 : decode cX17_run 76 = .ok (.iconst 1, 1) := by decide +kernel
theorem dr_cX17_run_77 : decode cX17_run 77 = .ok (.iadd, 1) := by decide +kernel
theorem dr_cX17_run_78 : decode cX17_run 78 = .ok (.putfield 283, 3) := by decide +kernel
theorem dr_cX17_run_81 : decode cX17_run 81 = .ok (.iload 4, 2) := by decide +kernel
theorem dr_cX17_run_83 : decode cX17_run 83 = .ok (.aload 5, 2) := by decide +kernel
theorem dr_cX17_run_85 : decode cX17_run 85 = .ok (.getfield 117, 3) := by decide +kernel
theorem wr_9_220 : (Jvm.Cond.fieldLink "SpillForgeModel" (117 : Nat) "SpillForgeModel$Block" "rows" "Ljava/util/ArrayList;") ∈ gw := gw_9 220 rfl rfl
theorem dr_cX17_run_88 : decode cX17_run 88 = .ok (.invokevirtual 121, 3) := by decide +kernel
theorem wr_10_200 : (Jvm.Cond.methodLink "SpillForgeModel" (121 : Nat) ({ cls := "java/util/ArrayList", name := "size", desc := "()I" } : Jvm.MethodName)) ∈ gw := gw_10 200 rfl rfl
theorem dr_cX17_run_91 : decode cX17_run 91 = .ok (.if_icmp .ge 36, 3) := by decide +kernel
theorem dr_cX17_run_127 : decode cX17_run 127 = .ok (.aload 5, 2) := by decide +kernel
theorem dr_cX17_run_129 : decode cX17_run 129 = .ok (.getfield 109, 3) := by decide +kernel
theorem wr_9_223 : (Jvm.Cond.fieldLink "SpillForgeModel" (109 : Nat) "SpillForgeModel$Block" "end" "LSpillForgeModel$Row;") ∈ gw := gw_9 223 rfl rfl
theorem dr_cX17_run_132 : decode cX17_run 132 = .ok (.astore 6, 2) := by decide +kernel
theorem dr_cX17_run_134 : decode cX17_run 134 = .ok (.aload 6, 2) := by decide +kernel
theorem dr_cX17_run_136 : decode cX17_run 136 = .ok (.getfield 39, 3) := by decide +kernel
theorem dr_cX17_run_139 : decode cX17_run 139 = .ok (.bipush 32, 2) := by decide +kernel
theorem dr_cX17_run_141 : decode cX17_run 141 = .ok (.if_icmp .ne 23, 3) := by decide +kernel
theorem dr_cX17_run_164 : decode cX17_run 164 = .ok (.aload 6, 2) := by decide +kernel
theorem dr_cX17_run_166 : decode cX17_run 166 = .ok (.getfield 39, 3) := by decide +kernel
theorem dr_cX17_run_169 : decode cX17_run 169 = .ok (.bipush 30, 2) := by decide +kernel
theorem dr_cX17_run_171 : decode cX17_run 171 = .ok (.if_icmp .eq 20, 3) := by decide +kernel
theorem dr_cX17_run_191 : decode cX17_run 191 = .ok (.aload 5, 2) := by decide +kernel
theorem dr_cX17_run_193 : decode cX17_run 193 = .ok (.getfield 297, 3) := by decide +kernel
theorem wr_9_229 : (Jvm.Cond.fieldLink "SpillForgeModel" (297 : Nat) "SpillForgeModel$Block" "first" "I") ∈ gw := gw_9 229 rfl rfl
theorem dr_cX17_run_196 : decode cX17_run 196 = .ok (.goto 8, 3) := by decide +kernel
theorem dr_cX17_run_204 : decode cX17_run 204 = .ok (.istore_n 3, 1) := by decide +kernel
theorem dr_cX17_run_205 : decode cX17_run 205 = .ok (.iconst 0, 1) := by decide +kernel
theorem dr_cX17_run_206 : decode cX17_run 206 = .ok (.istore 4, 2) := by decide +kernel
theorem dr_cX17_run_208 : decode cX17_run 208 = .ok (.goto (-154), 3) := by decide +kernel
theorem dr_cX17_run_174 : decode cX17_run 174 = .ok (.aload_n 0, 1) := by decide +kernel
theorem dr_cX17_run_175 : decode cX17_run 175 = .ok (.aload 6, 2) := by decide +kernel
theorem dr_cX17_run_177 : decode cX17_run 177 = .ok (.getfield 141, 3) := by decide +kernel
theorem dr_cX17_run_180 : decode cX17_run 180 = .ok (.aload 6, 2) := by decide +kernel
theorem dr_cX17_run_182 : decode cX17_run 182 = .ok (.getfield 73, 3) := by decide +kernel
theorem dr_cX17_run_185 : decode cX17_run 185 = .ok (.invokevirtual 293, 3) := by decide +kernel
theorem dr_cX17_run_188 : decode cX17_run 188 = .ok (.ifCond .eq 11, 3) := by decide +kernel
theorem dr_cX17_run_199 : decode cX17_run 199 = .ok (.aload 5, 2) := by decide +kernel
theorem dr_cX17_run_201 : decode cX17_run 201 = .ok (.getfield 300, 3) := by decide +kernel
theorem wr_9_233 : (Jvm.Cond.fieldLink "SpillForgeModel" (300 : Nat) "SpillForgeModel$Block" "second" "I") ∈ gw := gw_9 233 rfl rfl
theorem dr_cX17_run_144 : decode cX17_run 144 = .ok (.aload_n 0, 1) := by decide +kernel
theorem dr_cX17_run_145 : decode cX17_run 145 = .ok (.aload_n 0, 1) := by decide +kernel
theorem dr_cX17_run_146 : decode cX17_run 146 = .ok (.aload 6, 2) := by decide +kernel
theorem dr_cX17_run_148 : decode cX17_run 148 = .ok (.getfield 141, 3) := by decide +kernel
theorem dr_cX17_run_151 : decode cX17_run 151 = .ok (.aload 6, 2) := by decide +kernel
theorem dr_cX17_run_153 : decode cX17_run 153 = .ok (.getfield 73, 3) := by decide +kernel
theorem dr_cX17_run_156 : decode cX17_run 156 = .ok (.invokevirtual 293, 3) := by decide +kernel
theorem dr_cX17_run_159 : decode cX17_run 159 = .ok (.putfield 277, 3) := by decide +kernel
theorem dr_cX17_run_162 : decode cX17_run 162 = .ok (.iconst 0, 1) := by decide +kernel
theorem dr_cX17_run_163 : decode cX17_run 163 = .ok (.ireturn, 1) := by decide +kernel
theorem dr_cX17_run_94 : decode cX17_run 94 = .ok (.aload_n 0, 1) := by decide +kernel
theorem dr_cX17_run_95 : decode cX17_run 95 = .ok (.aload 5, 2) := by decide +kernel
theorem dr_cX17_run_97 : decode cX17_run 97 = .ok (.getfield 117, 3) := by decide +kernel
theorem dr_cX17_run_100 : decode cX17_run 100 = .ok (.iload 4, 2) := by decide +kernel
theorem dr_cX17_run_102 : decode cX17_run 102 = .ok (.invokevirtual 124, 3) := by decide +kernel
theorem wr_10_201 : (Jvm.Cond.methodLink "SpillForgeModel" (124 : Nat) ({ cls := "java/util/ArrayList", name := "get", desc := "(I)Ljava/lang/Object;" } : Jvm.MethodName)) ∈ gw := gw_10 201 rfl rfl
theorem dr_cX17_run_105 : decode cX17_run 105 = .ok (.checkcast 40, 3) := by decide +kernel
theorem wr_10_202 : (Jvm.Cond.classLink "SpillForgeModel" (40 : Nat) "SpillForgeModel$Row") ∈ gw := gw_10 202 rfl rfl
theorem dr_cX17_run_108 : decode cX17_run 108 = .ok (.invokevirtual 289, 3) := by decide +kernel
theorem wr_11_96 : (Jvm.Cond.methodLink "SpillForgeModel" (289 : Nat) ({ cls := "SpillForgeModel", name := "step", desc := "(LSpillForgeModel$Row;)I" } : Jvm.MethodName)) ∈ gw := gw_11 96 rfl rfl
theorem wr_11_99 : (Jvm.Cond.code ({ cls := "SpillForgeModel", name := "step", desc := "(LSpillForgeModel$Row;)I" } : Jvm.MethodName) prog_14_method_30_code (4 : Nat) (Option.some Jvm.ClassFile.FieldType.int)) ∈ gw := gw_11 99 rfl rfl
theorem wr_11_98 : (Jvm.Cond.instanceMethod ({ cls := "SpillForgeModel", name := "step", desc := "(LSpillForgeModel$Row;)I" } : Jvm.MethodName)) ∈ gw := gw_11 98 rfl rfl
theorem wr_p_114 : Cond.selects "SpillForgeModel" ⟨"SpillForgeModel", "step", "(LSpillForgeModel$Row;)I"⟩ ⟨"SpillForgeModel", "step", "(LSpillForgeModel$Row;)I"⟩ ∈ gw := gw_p _ 114 rfl rfl rfl
theorem dr_cX17_run_111 : decode cX17_run 111 = .ok (.istore 6, 2) := by decide +kernel
theorem dr_cX17_run_113 : decode cX17_run 113 = .ok (.iload 6, 2) := by decide +kernel
theorem dr_cX17_run_115 : decode cX17_run 115 = .ok (.ifCond .lt 6, 3) := by decide +kernel
theorem dr_cX17_run_121 : decode cX17_run 121 = .ok (.iinc 4 1, 3) := by decide +kernel
theorem dr_cX17_run_124 : decode cX17_run 124 = .ok (.goto (-70), 3) := by decide +kernel
theorem dr_cX17_run_118 : decode cX17_run 118 = .ok (.iload 6, 2) := by decide +kernel
theorem dr_cX17_run_120 : decode cX17_run 120 = .ok (.ireturn, 1) := by decide +kernel
theorem dr_cX17_run_69 : decode cX17_run 69 = .ok (.iconst 4, 1) := by decide +kernel
theorem dr_cX17_run_70 : decode cX17_run 70 = .ok (.ireturn, 1) := by decide +kernel
theorem dr_cX17_run_9 : decode cX17_run 9 = .ok (.aload_n 0, 1) := by decide +kernel
theorem dr_cX17_run_10 : decode cX17_run 10 = .ok (.getfield 271, 3) := by decide +kernel
theorem dr_cX17_run_13 : decode cX17_run 13 = .ok (.iload_n 3, 1) := by decide +kernel
theorem dr_cX17_run_14 : decode cX17_run 14 = .ok (.iconst 0, 1) := by decide +kernel
theorem dr_cX17_run_15 : decode cX17_run 15 = .ok (.iastore, 1) := by decide +kernel
theorem dr_cX17_run_16 : decode cX17_run 16 = .ok (.aload_n 0, 1) := by decide +kernel
theorem dr_cX17_run_17 : decode cX17_run 17 = .ok (.getfield 274, 3) := by decide +kernel
theorem dr_cX17_run_20 : decode cX17_run 20 = .ok (.iload_n 3, 1) := by decide +kernel
theorem dr_cX17_run_21 : decode cX17_run 21 = .ok (.iconst 0, 1) := by decide +kernel
theorem dr_cX17_run_22 : decode cX17_run 22 = .ok (.iastore, 1) := by decide +kernel
theorem dr_cX17_run_23 : decode cX17_run 23 = .ok (.iinc 3 1, 3) := by decide +kernel
theorem dr_cX17_run_26 : decode cX17_run 26 = .ok (.goto (-24), 3) := by decide +kernel
theorem dr_cX17_weigh_0 : decode cX17_weigh 0 = .ok (.aload_n 0, 1) := by decide +kernel
theorem dr_cX17_weigh_1 : decode cX17_weigh 1 = .ok (.aload_n 1, 1) := by decide +kernel
theorem dr_cX17_weigh_2 : decode cX17_weigh 2 = .ok (.invokevirtual 170, 3) := by decide +kernel
theorem wr_11_37 : (Jvm.Cond.methodLink "SpillForgeModel" (170 : Nat) ({ cls := "SpillForgeModel", name := "findDepth", desc := "(LSpillForgeModel$Code;)V" } : Jvm.MethodName)) ∈ gw := gw_11 37 rfl rfl
theorem wr_11_40 : (Jvm.Cond.code ({ cls := "SpillForgeModel", name := "findDepth", desc := "(LSpillForgeModel$Code;)V" } : Jvm.MethodName) prog_14_method_14_code (13 : Nat) (Option.none : Option Jvm.ClassFile.FieldType)) ∈ gw := gw_11 40 rfl rfl
theorem wr_11_39 : (Jvm.Cond.instanceMethod ({ cls := "SpillForgeModel", name := "findDepth", desc := "(LSpillForgeModel$Code;)V" } : Jvm.MethodName)) ∈ gw := gw_11 39 rfl rfl
theorem wr_p_105 : Cond.selects "SpillForgeModel" ⟨"SpillForgeModel", "findDepth", "(LSpillForgeModel$Code;)V"⟩ ⟨"SpillForgeModel", "findDepth", "(LSpillForgeModel$Code;)V"⟩ ∈ gw := gw_p _ 105 rfl rfl rfl
theorem dr_cX17_weigh_5 : decode cX17_weigh 5 = .ok (.iconst 0, 1) := by decide +kernel
theorem dr_cX17_weigh_6 : decode cX17_weigh 6 = .ok (.istore_n 2, 1) := by decide +kernel
theorem dr_cX17_weigh_7 : decode cX17_weigh 7 = .ok (.iload_n 2, 1) := by decide +kernel
theorem dr_cX17_weigh_8 : decode cX17_weigh 8 = .ok (.sipush 2000, 3) := by decide +kernel
theorem dr_cX17_weigh_11 : decode cX17_weigh 11 = .ok (.if_icmp .ge 16, 3) := by decide +kernel
theorem dr_cX17_weigh_27 : decode cX17_weigh 27 = .ok (.iconst 0, 1) := by decide +kernel
theorem dr_cX17_weigh_28 : decode cX17_weigh 28 = .ok (.istore_n 2, 1) := by decide +kernel
theorem dr_cX17_weigh_29 : decode cX17_weigh 29 = .ok (.iload_n 2, 1) := by decide +kernel
theorem dr_cX17_weigh_30 : decode cX17_weigh 30 = .ok (.aload_n 1, 1) := by decide +kernel
theorem dr_cX17_weigh_31 : decode cX17_weigh 31 = .ok (.invokevirtual 96, 3) := by decide +kernel
theorem dr_cX17_weigh_34 : decode cX17_weigh 34 = .ok (.if_icmp .ge 167, 3) := by decide +kernel
theorem dr_cX17_weigh_201 : decode cX17_weigh 201 = .ok (.return_, 1) := by decide +kernel
theorem dr_cX17_weigh_37 : decode cX17_weigh 37 = .ok (.iconst 1, 1) := by decide +kernel
theorem dr_cX17_weigh_38 : decode cX17_weigh 38 = .ok (.istore_n 3, 1) := by decide +kernel
theorem dr_cX17_weigh_39 : decode cX17_weigh 39 = .ok (.iconst 0, 1) := by decide +kernel
theorem dr_cX17_weigh_40 : decode cX17_weigh 40 = .ok (.istore 4, 2) := by decide +kernel
theorem dr_cX17_weigh_42 : decode cX17_weigh 42 = .ok (.iload 4, 2) := by decide +kernel
theorem dr_cX17_weigh_44 : decode cX17_weigh 44 = .ok (.aload_n 0, 1) := by decide +kernel
theorem dr_cX17_weigh_45 : decode cX17_weigh 45 = .ok (.getfield 152, 3) := by decide +kernel
theorem dr_cX17_weigh_48 : decode cX17_weigh 48 = .ok (.iload_n 2, 1) := by decide +kernel
theorem dr_cX17_weigh_49 : decode cX17_weigh 49 = .ok (.iaload, 1) := by decide +kernel
theorem dr_cX17_weigh_50 : decode cX17_weigh 50 = .ok (.if_icmp .ge 14, 3) := by decide +kernel
theorem dr_cX17_weigh_64 : decode cX17_weigh 64 = .ok (.aload_n 1, 1) := by decide +kernel
theorem dr_cX17_weigh_65 : decode cX17_weigh 65 = .ok (.iload_n 2, 1) := by decide +kernel
theorem dr_cX17_weigh_66 : decode cX17_weigh 66 = .ok (.invokevirtual 101, 3) := by decide +kernel
theorem dr_cX17_weigh_69 : decode cX17_weigh 69 = .ok (.astore 4, 2) := by decide +kernel
theorem dr_cX17_weigh_71 : decode cX17_weigh 71 = .ok (.iconst 0, 1) := by decide +kernel
theorem dr_cX17_weigh_72 : decode cX17_weigh 72 = .ok (.istore 5, 2) := by decide +kernel
theorem dr_cX17_weigh_74 : decode cX17_weigh 74 = .ok (.iload 5, 2) := by decide +kernel
theorem dr_cX17_weigh_76 : decode cX17_weigh 76 = .ok (.aload 4, 2) := by decide +kernel
theorem dr_cX17_weigh_78 : decode cX17_weigh 78 = .ok (.getfield 117, 3) := by decide +kernel
theorem dr_cX17_weigh_81 : decode cX17_weigh 81 = .ok (.invokevirtual 121, 3) := by decide +kernel
theorem dr_cX17_weigh_84 : decode cX17_weigh 84 = .ok (.if_icmp .gt 111, 3) := by decide +kernel
theorem dr_cX17_weigh_195 : decode cX17_weigh 195 = .ok (.iinc 2 1, 3) := by decide +kernel
theorem dr_cX17_weigh_198 : decode cX17_weigh 198 = .ok (.goto (-169), 3) := by decide +kernel
theorem dr_cX17_weigh_87 : decode cX17_weigh 87 = .ok (.iload 5, 2) := by decide +kernel
theorem dr_cX17_weigh_89 : decode cX17_weigh 89 = .ok (.aload 4, 2) := by decide +kernel
theorem dr_cX17_weigh_91 : decode cX17_weigh 91 = .ok (.getfield 117, 3) := by decide +kernel
theorem dr_cX17_weigh_94 : decode cX17_weigh 94 = .ok (.invokevirtual 121, 3) := by decide +kernel
theorem dr_cX17_weigh_97 : decode cX17_weigh 97 = .ok (.if_icmp .ge 19, 3) := by decide +kernel
theorem dr_cX17_weigh_116 : decode cX17_weigh 116 = .ok (.aload 4, 2) := by decide +kernel
theorem dr_cX17_weigh_118 : decode cX17_weigh 118 = .ok (.getfield 109, 3) := by decide +kernel
theorem dr_cX17_weigh_121 : decode cX17_weigh 121 = .ok (.astore 6, 2) := by decide +kernel
theorem dr_cX17_weigh_123 : decode cX17_weigh 123 = .ok (.aload 6, 2) := by decide +kernel
theorem dr_cX17_weigh_125 : decode cX17_weigh 125 = .ok (.invokevirtual 48, 3) := by decide +kernel
theorem dr_cX17_weigh_128 : decode cX17_weigh 128 = .ok (.ifCond .eq 17, 3) := by decide +kernel
theorem dr_cX17_weigh_145 : decode cX17_weigh 145 = .ok (.aload 6, 2) := by decide +kernel
theorem dr_cX17_weigh_147 : decode cX17_weigh 147 = .ok (.invokevirtual 70, 3) := by decide +kernel
theorem dr_cX17_weigh_150 : decode cX17_weigh 150 = .ok (.ifCond .eq 17, 3) := by decide +kernel
theorem dr_cX17_weigh_167 : decode cX17_weigh 167 = .ok (.aload 6, 2) := by decide +kernel
theorem dr_cX17_weigh_169 : decode cX17_weigh 169 = .ok (.invokevirtual 76, 3) := by decide +kernel
theorem dr_cX17_weigh_172 : decode cX17_weigh 172 = .ok (.ifCond .eq 17, 3) := by decide +kernel
theorem dr_cX17_weigh_189 : decode cX17_weigh 189 = .ok (.iinc 5 1, 3) := by decide +kernel
theorem dr_cX17_weigh_192 : decode cX17_weigh 192 = .ok (.goto (-118), 3) := by decide +kernel
theorem dr_cX17_weigh_175 : decode cX17_weigh 175 = .ok (.aload_n 0, 1) := by decide +kernel
theorem dr_cX17_weigh_176 : decode cX17_weigh 176 = .ok (.getfield 174, 3) := by decide +kernel
theorem dr_cX17_weigh_179 : decode cX17_weigh 179 = .ok (.aload 6, 2) := by decide +kernel
theorem dr_cX17_weigh_181 : decode cX17_weigh 181 = .ok (.getfield 79, 3) := by decide +kernel
theorem dr_cX17_weigh_184 : decode cX17_weigh 184 = .ok (.dup2, 1) := by decide +kernel
theorem dr_cX17_weigh_185 : decode cX17_weigh 185 = .ok (.iaload, 1) := by decide +kernel
theorem dr_cX17_weigh_186 : decode cX17_weigh 186 = .ok (.iload_n 3, 1) := by decide +kernel
theorem dr_cX17_weigh_187 : decode cX17_weigh 187 = .ok (.iadd, 1) := by decide +kernel
theorem dr_cX17_weigh_188 : decode cX17_weigh 188 = .ok (.iastore, 1) := by decide +kernel
theorem dr_cX17_weigh_153 : decode cX17_weigh 153 = .ok (.aload_n 0, 1) := by decide +kernel
theorem dr_cX17_weigh_154 : decode cX17_weigh 154 = .ok (.getfield 174, 3) := by decide +kernel
theorem dr_cX17_weigh_157 : decode cX17_weigh 157 = .ok (.aload 6, 2) := by decide +kernel
theorem dr_cX17_weigh_159 : decode cX17_weigh 159 = .ok (.getfield 73, 3) := by decide +kernel
theorem dr_cX17_weigh_162 : decode cX17_weigh 162 = .ok (.dup2, 1) := by decide +kernel
theorem dr_cX17_weigh_163 : decode cX17_weigh 163 = .ok (.iaload, 1) := by decide +kernel
theorem dr_cX17_weigh_164 : decode cX17_weigh 164 = .ok (.iload_n 3, 1) := by decide +kernel
theorem dr_cX17_weigh_165 : decode cX17_weigh 165 = .ok (.iadd, 1) := by decide +kernel
theorem dr_cX17_weigh_166 : decode cX17_weigh 166 = .ok (.iastore, 1) := by decide +kernel
theorem dr_cX17_weigh_131 : decode cX17_weigh 131 = .ok (.aload_n 0, 1) := by decide +kernel
theorem dr_cX17_weigh_132 : decode cX17_weigh 132 = .ok (.getfield 174, 3) := by decide +kernel
theorem dr_cX17_weigh_135 : decode cX17_weigh 135 = .ok (.aload 6, 2) := by decide +kernel
theorem dr_cX17_weigh_137 : decode cX17_weigh 137 = .ok (.getfield 52, 3) := by decide +kernel
theorem dr_cX17_weigh_140 : decode cX17_weigh 140 = .ok (.dup2, 1) := by decide +kernel
theorem dr_cX17_weigh_141 : decode cX17_weigh 141 = .ok (.iaload, 1) := by decide +kernel
theorem dr_cX17_weigh_142 : decode cX17_weigh 142 = .ok (.iload_n 3, 1) := by decide +kernel
theorem dr_cX17_weigh_143 : decode cX17_weigh 143 = .ok (.iadd, 1) := by decide +kernel
theorem dr_cX17_weigh_144 : decode cX17_weigh 144 = .ok (.iastore, 1) := by decide +kernel
theorem dr_cX17_weigh_100 : decode cX17_weigh 100 = .ok (.aload 4, 2) := by decide +kernel
theorem dr_cX17_weigh_102 : decode cX17_weigh 102 = .ok (.getfield 117, 3) := by decide +kernel
theorem dr_cX17_weigh_105 : decode cX17_weigh 105 = .ok (.iload 5, 2) := by decide +kernel
theorem dr_cX17_weigh_107 : decode cX17_weigh 107 = .ok (.invokevirtual 124, 3) := by decide +kernel
theorem dr_cX17_weigh_110 : decode cX17_weigh 110 = .ok (.checkcast 40, 3) := by decide +kernel
theorem dr_cX17_weigh_113 : decode cX17_weigh 113 = .ok (.goto 8, 3) := by decide +kernel
theorem dr_cX17_weigh_53 : decode cX17_weigh 53 = .ok (.iload_n 3, 1) := by decide +kernel
theorem dr_cX17_weigh_54 : decode cX17_weigh 54 = .ok (.bipush 10, 2) := by decide +kernel
theorem dr_cX17_weigh_56 : decode cX17_weigh 56 = .ok (.imul, 1) := by decide +kernel
theorem dr_cX17_weigh_57 : decode cX17_weigh 57 = .ok (.istore_n 3, 1) := by decide +kernel
theorem dr_cX17_weigh_58 : decode cX17_weigh 58 = .ok (.iinc 4 1, 3) := by decide +kernel
theorem dr_cX17_weigh_61 : decode cX17_weigh 61 = .ok (.goto (-19), 3) := by decide +kernel
theorem dr_cX17_weigh_14 : decode cX17_weigh 14 = .ok (.aload_n 0, 1) := by decide +kernel
theorem dr_cX17_weigh_15 : decode cX17_weigh 15 = .ok (.getfield 174, 3) := by decide +kernel
theorem dr_cX17_weigh_18 : decode cX17_weigh 18 = .ok (.iload_n 2, 1) := by decide +kernel
theorem dr_cX17_weigh_19 : decode cX17_weigh 19 = .ok (.iconst 0, 1) := by decide +kernel
theorem dr_cX17_weigh_20 : decode cX17_weigh 20 = .ok (.iastore, 1) := by decide +kernel
theorem dr_cX17_weigh_21 : decode cX17_weigh 21 = .ok (.iinc 2 1, 3) := by decide +kernel
theorem dr_cX17_weigh_24 : decode cX17_weigh 24 = .ok (.goto (-17), 3) := by decide +kernel
abbrev ky_155004_SpillForgeModel_run : gKey := (cX17_run, 7, "SpillForgeModel", (some FieldType.int), [], "run", fun _ _ => True)
def pt_155004_SpillForgeModel_run (D : va_G) (I : FieldType → ClassId) (γ el : Nat → Nat → Nat) (P154998 : List Nat) (F154999 : Nat → va_E) (q155000 : Nat) (q155001 : Nat) (p155002 : Int32) : Option Value → va_W → Nat → Nat → Prop := fun r w dc ds => ∃ (F158834 : Nat → va_E) (o158833 : Int32), r = some (.int o158833) ∧ w = va_pl P154998 F158834 ∧ RS D I P154998 F158834 γ el ∧ rStr γ F154999 F158834 ∧ dc ≤ 0 ∧ ds ≤ 0 ∧ gB o158833 0 5
set_option maxRecDepth 100000 in
set_option maxHeartbeats 4000000 in
theorem ct_155004_SpillForgeModel_run (l : Launch) (hl0 : l.stackTraces = false) (D : va_G) (I : FieldType → ClassId) (γ el : Nat → Nat → Nat) (P154998 : List Nat) (F154999 : Nat → va_E) (q155000 : Nat) (q155001 : Nat) (p155002 : Int32) (hT : RS D I P154998 F154999 γ el) (htq155000 : rKd γ q155000 10) (htq155001 : rKd γ q155001 9) (bp155002 : gB p155002 1 100000) (x155003 : 0 < γ 6 (γ 1 q155001)) : CtA (gV D I) l yX17_run cX17_run 7 (some FieldType.int) 4 85 0 0 [.ref q155000, .ref q155001, .int p155002] (va_pl P154998 F154999) (pt_155004_SpillForgeModel_run D I γ el P154998 F154999 q155000 q155001 p155002) gNA := by
  refine CtA_of hl0 (by decide) (Nat.le_of_ble_eq_true rfl) ?_
  refine G_iconst 0 dr_cX17_run_0 (by decide +kernel) ?_
  refine G_istore_n (L' := [(3, .int 0), (0, .ref q155000), (1, .ref q155001), (2, .int p155002)]) dr_cX17_run_1 (Nat.le_of_ble_eq_true rfl) rfl ?_
  have hlp2_158115 : ∀ (n2_158115 : Nat) (F158113 : Nat → va_E) (g158112 : Int32), gB g158112 0 2000 → RS D I P154998 F158113 γ el → rStr γ F154999 F158113 → ((2001 : Int) - g158112.toInt).toNat < n2_158115 → G (gV D I) l (gRm 4 85 0 0) (gMA (gV D I) (pt_155004_SpillForgeModel_run D I γ el P154998 F154999 q155000 q155001 p155002) gNA 0 0) ky_155004_SpillForgeModel_run 2 [(3, .int g158112), (0, .ref q155000), (1, .ref q155001), (2, .int p155002)] [] (va_pl P154998 F158113) 0 0 := by
    intro n2_158115
    induction n2_158115 with
    | zero => intro F158113 g158112 bg158112 hT158114 hs158115 hm2_158115; exact absurd hm2_158115 (Nat.not_lt_zero _)
    | succ n2_158115 ih2_158115 =>
      intro F158113 g158112 bg158112 hT158114 hs158115 hm2_158115
      have hs158117 : rStr γ F154999 F158113 := fun b h0 hb => (hs158115 b h0 hb).trans ((rStr_rf (γ := γ) (F := F154999)) b h0 hb).symm
      have hs158118 : rStr γ F154999 F158113 := rStr_tr (rStr_rf (γ := γ) (F := F154999)) hs158117
      have hm158119 : q155000 ∈ P154998 := RS_m hT158114 htq155000 (by decide)
      obtain ⟨q158121, q158122, p158123, p158124, p158125, p158126, p158127, p158128, p158129, p158130, p158131, p158132, p158133, p158134, p158135, p158136, p158137, he158120, hB158164, ht158138, ht158139, ht158140, ht158141, ht158142, ht158143, ht158144, ht158145, ht158146, ht158147, ht158148, ht158149, ht158150, ht158151, ht158152, ht158153, ht158154, ht158155, ht158156, ht158157, ht158158, ht158159, ht158160, ht158161, hB158165⟩ := show rk_10 γ (F158113 q155000) from RS_o hT158114 htq155000
      have ac158166 : (fI (F158113 q155000) 26).toInt = p158132.toInt := by rw [he158120]; rfl
      have bp158132 : gB p158132 0 100000 := (hB158164.2.2.2.2.2.1)
      have ac158167 : (fI (F158113 q155000) 26).toInt = p158132.toInt := by rw [he158120]; rfl
      refine G_iload_n 0 dr_cX17_run_2 rfl ?_
      refine G_sipush 2000 dr_cX17_run_3 (by decide +kernel) ?_
      refine G_icmp_ge 29 dr_cX17_run_6 (by decide +kernel) (fun hc158168 => ?_) (fun hc158168 => ?_)
      · have r158169 : 2000 ≤ g158112.toInt := gj_leL hc158168 (show Int32.toInt 2000 = 2000 by decide)
        have bg158112' : gB g158112 2000 2000 := ⟨by omega, by omega⟩
        refine G_aload_n 1 dr_cX17_run_29 rfl ?_
        refine G_iconst 0 dr_cX17_run_30 (by decide +kernel) ?_
        refine Gp_put 24 hm158119 he158120 dr_cX17_run_31 (gk_X17 D I) (Nat.le_of_ble_eq_true rfl) wr_7_98 rfl rfl rfl (Nat.le_of_ble_eq_true rfl) (fun F158170 e158171 n158172 => ?_)
        have he158173 : F158170 q155000 = .inr (22, [.ref (γ 9 0), .ref (γ 9 1), .ref (γ 9 2), .ref (γ 9 3), .ref (γ 9 4), .ref (γ 9 5), .ref (γ 9 6), .ref (γ 9 7), .ref (γ 9 8), .int p158123, .int p158124, .int p158125, .int p158126, .int p158127, .int p158128, .ref (γ 9 15), .ref (γ 9 16), .ref (γ 9 17), .ref (γ 9 18), .ref (γ 9 19), .ref (γ 9 20), .ref (γ 9 21), .ref (γ 9 22), .int p158129, .int 0, .int p158131, .int p158132, .int p158133, .ref q158121, .ref (γ 9 29), .int p158134, .ref (γ 9 31), .int p158135, .int p158136, .int p158137, .ref q158122]) := e158171
        have hs158174 : rStr γ F154999 F158170 := rStr_put hs158115 n158172 htq155000 (by decide)
        refine G_aload_n 1 dr_cX17_run_34 rfl ?_
        refine G_iconst 0 dr_cX17_run_35 (by decide +kernel) ?_
        refine Gp_put 25 hm158119 he158173 dr_cX17_run_36 (gk_X17 D I) (Nat.le_of_ble_eq_true rfl) wr_7_99 rfl rfl rfl (Nat.le_of_ble_eq_true rfl) (fun F158175 e158176 n158177 => ?_)
        have he158178 : F158175 q155000 = .inr (22, [.ref (γ 9 0), .ref (γ 9 1), .ref (γ 9 2), .ref (γ 9 3), .ref (γ 9 4), .ref (γ 9 5), .ref (γ 9 6), .ref (γ 9 7), .ref (γ 9 8), .int p158123, .int p158124, .int p158125, .int p158126, .int p158127, .int p158128, .ref (γ 9 15), .ref (γ 9 16), .ref (γ 9 17), .ref (γ 9 18), .ref (γ 9 19), .ref (γ 9 20), .ref (γ 9 21), .ref (γ 9 22), .int p158129, .int 0, .int 0, .int p158132, .int p158133, .ref q158121, .ref (γ 9 29), .int p158134, .ref (γ 9 31), .int p158135, .int p158136, .int p158137, .ref q158122]) := e158176
        have hs158179 : rStr γ F154999 F158175 := rStr_put hs158174 n158177 htq155000 (by decide)
        have n158180 : ∀ b, b ≠ q155000 → F158175 b = F158113 b := fun b hb => (n158177 b hb).trans (n158172 b hb)
        refine G_aload_n 1 dr_cX17_run_39 rfl ?_
        refine G_iconst 0 dr_cX17_run_40 (by decide +kernel) ?_
        refine Gp_put 26 hm158119 he158178 dr_cX17_run_41 (gk_X17 D I) (Nat.le_of_ble_eq_true rfl) wr_7_100 rfl rfl rfl (Nat.le_of_ble_eq_true rfl) (fun F158181 e158182 n158183 => ?_)
        have he158184 : F158181 q155000 = .inr (22, [.ref (γ 9 0), .ref (γ 9 1), .ref (γ 9 2), .ref (γ 9 3), .ref (γ 9 4), .ref (γ 9 5), .ref (γ 9 6), .ref (γ 9 7), .ref (γ 9 8), .int p158123, .int p158124, .int p158125, .int p158126, .int p158127, .int p158128, .ref (γ 9 15), .ref (γ 9 16), .ref (γ 9 17), .ref (γ 9 18), .ref (γ 9 19), .ref (γ 9 20), .ref (γ 9 21), .ref (γ 9 22), .int p158129, .int 0, .int 0, .int 0, .int p158133, .ref q158121, .ref (γ 9 29), .int p158134, .ref (γ 9 31), .int p158135, .int p158136, .int p158137, .ref q158122]) := e158182
        have hs158185 : rStr γ F154999 F158181 := rStr_put hs158179 n158183 htq155000 (by decide)
        have n158186 : ∀ b, b ≠ q155000 → F158181 b = F158113 b := fun b hb => (n158183 b hb).trans (n158180 b hb)
        refine G_aload_n 1 dr_cX17_run_44 rfl ?_
        refine G_iconst 0 dr_cX17_run_45 (by decide +kernel) ?_
        refine Gp_put 27 hm158119 he158184 dr_cX17_run_46 (gk_X17 D I) (Nat.le_of_ble_eq_true rfl) wr_7_101 rfl rfl rfl (Nat.le_of_ble_eq_true rfl) (fun F158187 e158188 n158189 => ?_)
        have he158190 : F158187 q155000 = .inr (22, [.ref (γ 9 0), .ref (γ 9 1), .ref (γ 9 2), .ref (γ 9 3), .ref (γ 9 4), .ref (γ 9 5), .ref (γ 9 6), .ref (γ 9 7), .ref (γ 9 8), .int p158123, .int p158124, .int p158125, .int p158126, .int p158127, .int p158128, .ref (γ 9 15), .ref (γ 9 16), .ref (γ 9 17), .ref (γ 9 18), .ref (γ 9 19), .ref (γ 9 20), .ref (γ 9 21), .ref (γ 9 22), .int p158129, .int 0, .int 0, .int 0, .int 0, .ref q158121, .ref (γ 9 29), .int p158134, .ref (γ 9 31), .int p158135, .int p158136, .int p158137, .ref q158122]) := e158188
        have hs158191 : rStr γ F154999 F158187 := rStr_put hs158185 n158189 htq155000 (by decide)
        have n158192 : ∀ b, b ≠ q155000 → F158187 b = F158113 b := fun b hb => (n158189 b hb).trans (n158186 b hb)
        refine G_iconst 0 dr_cX17_run_49 (by decide +kernel) ?_
        refine G_istore_n (L' := [(3, .int 0), (0, .ref q155000), (1, .ref q155001), (2, .int p155002)]) dr_cX17_run_50 (Nat.le_of_ble_eq_true rfl) rfl ?_
        refine G_iconst 0 dr_cX17_run_51 (by decide +kernel) ?_
        refine G_istore (L' := [(4, .int 0), (3, .int 0), (0, .ref q155000), (1, .ref q155001), (2, .int p155002)]) dr_cX17_run_52 (Nat.le_of_ble_eq_true rfl) rfl ?_
        have hT158193 : RS D I P154998 F158187 γ el := RS_set hT158114 n158192 htq155000 (by decide) ⟨q158121, q158122, p158123, p158124, p158125, p158126, p158127, p158128, p158129, 0, 0, 0, 0, p158134, p158135, p158136, p158137, he158190, ⟨(hB158164.1), (hB158164.2.1), (hB158164.2.2.1), (hB158164.2.2.2.1), (gB_w (gBl (show Int32.toInt 0 = 0 by decide)) (by decide) (by decide)), (gB_w (gBl (show Int32.toInt 0 = 0 by decide)) (by decide) (by decide)), (gB_w (gBl (show Int32.toInt 0 = 0 by decide)) (by decide) (by decide)), (hB158164.2.2.2.2.2.2.2.1), (hB158164.2.2.2.2.2.2.2.2)⟩, ht158138, ht158139, ht158140, ht158141, ht158142, ht158143, ht158144, ht158145, ht158146, ht158147, ht158148, ht158149, ht158150, ht158151, ht158152, ht158153, ht158154, ht158155, ht158156, ht158157, ht158158, ht158159, ht158160, ht158161, hB158165⟩
        have hlp54_158454 : ∀ (n54_158454 : Nat) (F158450 : Nat → va_E) (g158448 : Int32) (g158449 : Int32), gB g158448 0 39 → gB g158449 0 1000000 → RS D I P154998 F158450 γ el → rStr γ F154999 F158450 → g158448.toInt < γ 6 (γ 1 q155001) → (fI (F158450 q155000) 26).toInt ≤ p155002.toInt → (p155002.toInt - (fI (F158450 q155000) 26).toInt).toNat < n54_158454 → G (gV D I) l (gRm 4 85 0 0) (gMA (gV D I) (pt_155004_SpillForgeModel_run D I γ el P154998 F154999 q155000 q155001 p155002) gNA 0 0) ky_155004_SpillForgeModel_run 54 [(4, .int g158449), (3, .int g158448), (0, .ref q155000), (1, .ref q155001), (2, .int p155002)] [] (va_pl P154998 F158450) 0 0 := by
          intro n54_158454
          induction n54_158454 with
          | zero => intro F158450 g158448 g158449 bg158448 bg158449 hT158451 hs158452 x158453 x158454 hm54_158454; exact absurd hm54_158454 (Nat.not_lt_zero _)
          | succ n54_158454 ih54_158454 =>
            intro F158450 g158448 g158449 bg158448 bg158449 hT158451 hs158452 x158453 x158454 hm54_158454
            have hs158456 : rStr γ F158187 F158450 := fun b h0 hb => (hs158452 b h0 hb).trans (hs158191 b h0 hb).symm
            have hs158457 : rStr γ F154999 F158450 := rStr_tr hs158191 hs158456
            have hm158458 : q155000 ∈ P154998 := RS_m hT158451 htq155000 (by decide)
            obtain ⟨q158460, q158461, p158462, p158463, p158464, p158465, p158466, p158467, p158468, p158469, p158470, p158471, p158472, p158473, p158474, p158475, p158476, he158459, hB158503, ht158477, ht158478, ht158479, ht158480, ht158481, ht158482, ht158483, ht158484, ht158485, ht158486, ht158487, ht158488, ht158489, ht158490, ht158491, ht158492, ht158493, ht158494, ht158495, ht158496, ht158497, ht158498, ht158499, ht158500, hB158504⟩ := show rk_10 γ (F158450 q155000) from RS_o hT158451 htq155000
            have ac158505 : (fI (F158450 q155000) 26).toInt = p158471.toInt := by rw [he158459]; rfl
            have bp158471 : gB p158471 0 100000 := (hB158503.2.2.2.2.2.1)
            have ac158506 : (fI (F158450 q155000) 26).toInt = p158471.toInt := by rw [he158459]; rfl
            refine G_aload_n 3 dr_cX17_run_54 rfl ?_
            refine G_iload_n 1 dr_cX17_run_55 rfl ?_
            have hm158507 : q155001 ∈ P154998 := RS_m hT158451 htq155001 (by decide)
            obtain ⟨q158509, q158510, p158511, p158512, he158508, ht158513, ht158514, ht158515, ht158516, r158517, r158518, r158519, r158520, r158521, r158522, r158523, r158524, r158525, r158526⟩ := show rk_9 γ el q155001 (F158450 q155001) from RS_o hT158451 htq155001
            have bp158511 : gB p158511 0 1000000 := ⟨by omega, by omega⟩
            have bp158512 : gB p158512 0 1000000 := ⟨by omega, by omega⟩
            have hm158527 : q158509 ∈ P154998 := RS_m hT158451 ht158513 (by decide)
            obtain ⟨⟨p158529, p158530, q158531, he158528, r158532, r158533, r158534⟩, r158535⟩ := show rk_4 D I γ el F158450 q158509 from RS_o hT158451 ht158513
            have bp158529 := gB_any p158529
            have bp158530 : gB p158530 0 1000000 := ⟨by omega, by omega⟩
            obtain ⟨r158536, r158537, n158543, f158544, r158538, r158539, r158540, r158541, r158542⟩ := rLC_n r158534 (by omega)
            have hm158545 : q158531 ∈ P154998 := RS_m hT158451 r158536 (by decide)
            obtain ⟨q158546, hx158547⟩ : ∃ x, x = el q158509 g158448.toInt.toNat := ⟨_, rfl⟩
            have hx158548 : f158544 g158448.toNatClampNeg = some q158546 := (r158541 _ (show g158448.toInt.toNat < γ 2 q158509 by omega)).trans (by rw [hx158547])
            have ht158551 : rKd γ q158546 2 := by rw [hx158547]; exact r158524 _ (by omega)
            have ht158552 : rFm γ q158546 q158509 := by rw [hx158547]; exact (r158535 _ (show g158448.toInt.toNat < γ 2 q158509 by omega)).2.1
            have hm158553 : q158546 ∈ P154998 := RS_m hT158451 ht158551 (by decide)
            obtain ⟨q158555, q158556, p158557, p158558, he158554, ht158559, ht158560, ht158561, ht158562, ht158563, bp158557, bp158558, r158564⟩ := show rk_2 γ q158546 (F158450 q158546) from RS_o hT158451 ht158551
            have fm158565 : γ 6 (γ 1 q158546) = γ 6 (γ 1 q155001) := by rw [show γ 1 q158546 = γ 1 q158509 from ht158552, show γ 1 q158509 = γ 1 q155001 from ht158514]
            refine Gw_callV (As := [.int g158448]) (gV_ok D I) (cp_6012_Code_get l hl0 D I P154998 F158450 q155001 q158509 q158531 g158448 q158510 p158511 p158512 p158529 p158530 f158544 n158543 q158546 q158555 q158556 p158557 p158558 hm158507 hm158527 hm158545 hm158553 he158508 he158528 r158538 he158554 (gB_w bg158448 (by decide) (by decide)) (gB_w bp158530 (by decide) (by decide)) (by omega) (by omega) (by assumption) (by omega)) dr_cX17_run_56 ⟨wr_10_161, wr_1_15, wr_10_141, by decide, rfl, (Nat.le_of_ble_eq_true rfl), (Nat.le_of_ble_eq_true rfl)⟩ wr_10_139 wr_10_140 hm158507 he158508 rfl (show 0 + 0 ≤ 0 by first | omega | decide) (show 0 + 0 ≤ 0 by first | omega | decide) (Nat.le_of_ble_eq_true rfl) (fun r158569 w158570 dc158566 ds158567 hp158568 => ?_) (fun _ _ _ _ _ z => z.elim)
            obtain ⟨rfl, rfl, hdc, hds⟩ := hp158568
            change G _ _ _ _ _ _ _ (.ref q158546 :: _) _ _ _
            refine G_widen (cs' := 0) (sl' := 0) (by omega) (by omega) ?_
            refine G_astore (L' := [(5, .ref q158546), (4, .int g158449), (3, .int g158448), (0, .ref q155000), (1, .ref q155001), (2, .int p155002)]) dr_cX17_run_59 (Nat.le_of_ble_eq_true rfl) rfl ?_
            refine G_aload_n 3 dr_cX17_run_61 rfl ?_
            refine Gp_get 26 hm158458 he158459 dr_cX17_run_62 (gk_X17 D I) (Nat.le_of_ble_eq_true rfl) wr_7_100 rfl ?_
            refine G_iload_n 5 dr_cX17_run_65 rfl ?_
            refine G_icmp_ne 71 dr_cX17_run_66 (by decide +kernel) (fun hc158571 => ?_) (fun hc158571 => ?_)
            · have r158572 : p158471.toInt ≠ p155002.toInt := gC_ne hc158571
              refine G_aload_n 3 dr_cX17_run_71 rfl ?_
              refine G_dup dr_cX17_run_72 rfl ?_
              refine Gp_get 26 hm158458 he158459 dr_cX17_run_73 (gk_X17 D I) (Nat.le_of_ble_eq_true rfl) wr_7_100 rfl ?_
              refine G_iconst 1 dr_cX17_run_76 (by decide +kernel) ?_
              refine G_iadd dr_cX17_run_77 (G_nam fun z158573 hz158573 => ?_)
              have ez158573 : z158573.toInt = p158471.toInt + 1 := by rw [gI_add hz158573 bp158471 (gBl (show Int32.toInt 1 = 1 by decide)) (by decide) (by decide), show Int32.toInt 1 = 1 from by decide]
              have bz158573 : gB z158573 1 100001 := gB_add (gI_add hz158573 bp158471 (gBl (show Int32.toInt 1 = 1 by decide)) (by decide) (by decide)) bp158471 (gBl (show Int32.toInt 1 = 1 by decide)) (by decide) (by decide)
              refine Gp_put 26 hm158458 he158459 dr_cX17_run_78 (gk_X17 D I) (Nat.le_of_ble_eq_true rfl) wr_7_100 rfl rfl rfl (Nat.le_of_ble_eq_true rfl) (fun F158574 e158575 n158576 => ?_)
              have he158577 : F158574 q155001 = .inr (18, [.ref q158509, .ref q158510, .int p158511, .int p158512]) := (n158576 q155001 (rn_oo he158508 he158459 (by decide))).trans he158508
              have he158578 : F158574 q158509 = .inr (4, [.int p158529, .ref q158531, .int p158530]) := (n158576 q158509 (rn_oo he158528 he158459 (by decide))).trans he158528
              have he158579 : F158574 q158531 = .inl (I (.object "java/lang/Object"), n158543, .inr (.inr (.inr (.inr f158544)))) := (n158576 q158531 (rn_ao r158538 he158459)).trans r158538
              have he158580 : F158574 q158546 = .inr (17, [.ref q158555, .ref q158556, .int p158557, .int p158558]) := (n158576 q158546 (rn_oo he158554 he158459 (by decide))).trans he158554
              have he158581 : F158574 q155000 = .inr (22, [.ref (γ 9 0), .ref (γ 9 1), .ref (γ 9 2), .ref (γ 9 3), .ref (γ 9 4), .ref (γ 9 5), .ref (γ 9 6), .ref (γ 9 7), .ref (γ 9 8), .int p158462, .int p158463, .int p158464, .int p158465, .int p158466, .int p158467, .ref (γ 9 15), .ref (γ 9 16), .ref (γ 9 17), .ref (γ 9 18), .ref (γ 9 19), .ref (γ 9 20), .ref (γ 9 21), .ref (γ 9 22), .int p158468, .int p158469, .int p158470, .int z158573, .int p158472, .ref q158460, .ref (γ 9 29), .int p158473, .ref (γ 9 31), .int p158474, .int p158475, .int p158476, .ref q158461]) := e158575
              have hs158582 : rStr γ F154999 F158574 := rStr_put hs158452 n158576 htq155000 (by decide)
              refine G_iload 1 dr_cX17_run_81 rfl ?_
              refine G_aload 0 dr_cX17_run_83 rfl ?_
              refine Gp_get 0 hm158553 he158580 dr_cX17_run_85 (gk_X12 D I) (Nat.le_of_ble_eq_true rfl) wr_9_220 rfl ?_
              have hT158583 : RS D I P154998 F158574 γ el := RS_set hT158451 n158576 htq155000 (by decide) ⟨q158460, q158461, p158462, p158463, p158464, p158465, p158466, p158467, p158468, p158469, p158470, z158573, p158472, p158473, p158474, p158475, p158476, he158581, ⟨(hB158503.1), (hB158503.2.1), (hB158503.2.2.1), (hB158503.2.2.2.1), (hB158503.2.2.2.2.1), ⟨by omega, by omega⟩, (hB158503.2.2.2.2.2.2.1), (hB158503.2.2.2.2.2.2.2.1), (hB158503.2.2.2.2.2.2.2.2)⟩, ht158477, ht158478, ht158479, ht158480, ht158481, ht158482, ht158483, ht158484, ht158485, ht158486, ht158487, ht158488, ht158489, ht158490, ht158491, ht158492, ht158493, ht158494, ht158495, ht158496, ht158497, ht158498, ht158499, ht158500, hB158504⟩
              have hm158584 : q158555 ∈ P154998 := RS_m hT158583 ht158559 (by decide)
              obtain ⟨⟨p158586, p158587, q158588, he158585, r158589, r158590, r158591⟩, r158592⟩ := show rk_3 D I γ el F158574 q158555 from RS_o hT158583 ht158559
              have bp158586 := gB_any p158586
              have bp158587 : gB p158587 0 1000000 := ⟨by omega, by omega⟩
              refine Gw_callV (As := []) (gV_ok D I) (cp_7_ArrayList_size l hl0 D I P154998 F158574 q158555 p158586 q158588 p158587 hm158584 he158585 (gB_w bp158587 (by decide) (by decide))) dr_cX17_run_88 ⟨wr_10_200, wr_1_18, wr_9_160, by decide, rfl, (Nat.le_of_ble_eq_true rfl), (Nat.le_of_ble_eq_true rfl)⟩ wr_9_158 wr_9_159 hm158584 he158585 rfl (show 0 + 0 ≤ 0 by first | omega | decide) (show 0 + 0 ≤ 0 by first | omega | decide) (Nat.le_of_ble_eq_true rfl) (fun r158596 w158597 dc158593 ds158594 hp158595 => ?_) (fun _ _ _ _ _ z => z.elim)
              obtain ⟨rfl, rfl, hdc, hds⟩ := hp158595
              change G _ _ _ _ _ _ _ (.int p158587 :: _) _ _ _
              refine G_widen (cs' := 0) (sl' := 0) (by omega) (by omega) ?_
              refine G_icmp_ge 127 dr_cX17_run_91 (by decide +kernel) (fun hc158598 => ?_) (fun hc158598 => ?_)
              · have r158599 : p158587.toInt ≤ g158449.toInt := gC_le hc158598
                refine G_aload 0 dr_cX17_run_127 rfl ?_
                refine Gp_get 1 hm158553 he158580 dr_cX17_run_129 (gk_X12 D I) (Nat.le_of_ble_eq_true rfl) wr_9_223 rfl ?_
                refine G_astore (L' := [(6, .ref q158556), (5, .ref q158546), (4, .int g158449), (3, .int g158448), (0, .ref q155000), (1, .ref q155001), (2, .int p155002)]) dr_cX17_run_132 (Nat.le_of_ble_eq_true rfl) rfl ?_
                refine G_aload 0 dr_cX17_run_134 rfl ?_
                have hm158600 : q158556 ∈ P154998 := RS_m hT158583 ht158561 (by decide)
                obtain ⟨p158602, p158603, p158604, p158605, p158606, p158607, p158608, he158601, bp158602, bp158603, bp158606, bp158607, bp158608, r158609, r158610, r158611, r158612⟩ := show rk_1 γ q158556 (F158574 q158556) from RS_o hT158583 ht158561
                have bp158604 := gB_any p158604
                have bp158605 := gB_any p158605
                refine Gp_get 0 hm158600 he158601 dr_cX17_run_136 (gk_X15 D I) (Nat.le_of_ble_eq_true rfl) wr_9_177 rfl ?_
                refine G_bipush 32 dr_cX17_run_139 (by decide +kernel) ?_
                refine G_icmp_ne 164 dr_cX17_run_141 (by decide +kernel) (fun hc158613 => ?_) (fun hc158613 => ?_)
                · have r158614 : p158602.toInt ≠ 32 := gj_neq hc158613 (show Int32.toInt 32 = 32 by decide)
                  have bp158602' : gB p158602 0 31 := ⟨by omega, by omega⟩
                  refine G_aload 0 dr_cX17_run_164 rfl ?_
                  refine Gp_get 0 hm158600 he158601 dr_cX17_run_166 (gk_X15 D I) (Nat.le_of_ble_eq_true rfl) wr_9_177 rfl ?_
                  refine G_bipush 30 dr_cX17_run_169 (by decide +kernel) ?_
                  refine G_icmp_eq 191 dr_cX17_run_171 (by decide +kernel) (fun hc158615 => ?_) (fun hc158615 => ?_)
                  · have r158616 : p158602.toInt = 30 := gj_eq hc158615 (show Int32.toInt 30 = 30 by decide)
                    have bp158602'' : gB p158602 30 30 := ⟨by omega, by omega⟩
                    refine G_aload 1 dr_cX17_run_191 rfl ?_
                    refine Gp_get 2 hm158553 he158580 dr_cX17_run_193 (gk_X12 D I) (Nat.le_of_ble_eq_true rfl) wr_9_229 rfl ?_
                    refine G_goto 204 dr_cX17_run_196 (by decide +kernel) ?_
                    refine G_istore_n (L' := [(3, .int p158557), (6, .ref q158556), (5, .ref q158546), (4, .int g158449), (0, .ref q155000), (1, .ref q155001), (2, .int p155002)]) dr_cX17_run_204 (Nat.le_of_ble_eq_true rfl) rfl ?_
                    refine G_iconst 0 dr_cX17_run_205 (by decide +kernel) ?_
                    refine G_istore (L' := [(4, .int 0), (3, .int p158557), (6, .ref q158556), (5, .ref q158546), (0, .ref q155000), (1, .ref q155001), (2, .int p155002)]) dr_cX17_run_206 (Nat.le_of_ble_eq_true rfl) rfl ?_
                    refine G_goto 54 dr_cX17_run_208 (by decide +kernel) ?_
                    refine G_lv (L' := [(4, .int 0), (3, .int p158557), (0, .ref q155000), (1, .ref q155001), (2, .int p155002)]) [0, 1, 4, 5, 6] rfl ?_
                    have ac158617 : (fI (F158574 q155000) 26).toInt = z158573.toInt := by rw [he158581]; rfl
                    exact ih54_158454 F158574 p158557 0 bp158557 (gB_w (gBl (show Int32.toInt 0 = 0 by decide)) (by decide) (by decide)) hT158583 hs158582 (by have qa0 : Int32.toInt 0 = 0 := (by decide); omega) (by omega) (by have qa0 : Int32.toInt 0 = 0 := (by decide); omega)
                  · have r158618 : p158602.toInt ≠ 30 := gj_neq hc158615 (show Int32.toInt 30 = 30 by decide)
                    refine G_aload_n 4 dr_cX17_run_174 rfl ?_
                    refine G_aload 0 dr_cX17_run_175 rfl ?_
                    refine Gp_get 5 hm158600 he158601 dr_cX17_run_177 (gk_X15 D I) (Nat.le_of_ble_eq_true rfl) wr_9_197 rfl ?_
                    refine G_aload 0 dr_cX17_run_180 rfl ?_
                    refine Gp_get 2 hm158600 he158601 dr_cX17_run_182 (gk_X15 D I) (Nat.le_of_ble_eq_true rfl) wr_9_186 rfl ?_
                    refine Gw_callV (As := [.int p158607, .int p158604]) (gV_ok D I) (ct_5682_SpillForgeModel_value l hl0 D I γ el P154998 F158574 q155000 p158607 p158604 hT158583 htq155000 bp158607 (by omega)) dr_cX17_run_185 ⟨wr_11_100, wr_1_14, wr_11_103, by decide, rfl, (Nat.le_of_ble_eq_true rfl), (Nat.le_of_ble_eq_true rfl)⟩ wr_11_102 wr_p_115 hm158458 he158581 rfl (show 0 + 0 ≤ 0 by first | omega | decide) (show 0 + 0 ≤ 0 by first | omega | decide) (Nat.le_of_ble_eq_true rfl) (fun r158622 w158623 dc158619 ds158620 hp158621 => ?_) (fun _ _ _ _ _ z => z.elim)
                    obtain ⟨o158624, rfl, rfl, hdc, hds⟩ := hp158621
                    have bo158624 := gB_any o158624
                    change G _ _ _ _ _ _ _ (.int o158624 :: _) _ _ _
                    refine G_widen (cs' := 0) (sl' := 0) (by omega) (by omega) ?_
                    refine G_if_eq 199 dr_cX17_run_188 (by decide +kernel) (fun hc158625 => ?_) (fun hc158625 => ?_)
                    · have r158626 : o158624.toInt = 0 := gj_eq hc158625 (show Int32.toInt 0 = 0 by decide)
                      have bo158624' : gB o158624 0 0 := ⟨by omega, by omega⟩
                      refine G_aload 1 dr_cX17_run_199 rfl ?_
                      refine Gp_get 3 hm158553 he158580 dr_cX17_run_201 (gk_X12 D I) (Nat.le_of_ble_eq_true rfl) wr_9_233 rfl ?_
                      refine G_istore_n (L' := [(3, .int p158558), (6, .ref q158556), (5, .ref q158546), (4, .int g158449), (0, .ref q155000), (1, .ref q155001), (2, .int p155002)]) dr_cX17_run_204 (Nat.le_of_ble_eq_true rfl) rfl ?_
                      refine G_iconst 0 dr_cX17_run_205 (by decide +kernel) ?_
                      refine G_istore (L' := [(4, .int 0), (3, .int p158558), (6, .ref q158556), (5, .ref q158546), (0, .ref q155000), (1, .ref q155001), (2, .int p155002)]) dr_cX17_run_206 (Nat.le_of_ble_eq_true rfl) rfl ?_
                      refine G_goto 54 dr_cX17_run_208 (by decide +kernel) ?_
                      refine G_lv (L' := [(4, .int 0), (3, .int p158558), (0, .ref q155000), (1, .ref q155001), (2, .int p155002)]) [0, 1, 4, 5, 6] rfl ?_
                      have ac158627 : (fI (F158574 q155000) 26).toInt = z158573.toInt := by rw [he158581]; rfl
                      exact ih54_158454 F158574 p158558 0 bp158558 (gB_w (gBl (show Int32.toInt 0 = 0 by decide)) (by decide) (by decide)) hT158583 hs158582 (by have qa0 : Int32.toInt 0 = 0 := (by decide); omega) (by omega) (by have qa0 : Int32.toInt 0 = 0 := (by decide); omega)
                    · have r158628 : o158624.toInt ≠ 0 := gj_neq hc158625 (show Int32.toInt 0 = 0 by decide)
                      refine G_aload 1 dr_cX17_run_191 rfl ?_
                      refine Gp_get 2 hm158553 he158580 dr_cX17_run_193 (gk_X12 D I) (Nat.le_of_ble_eq_true rfl) wr_9_229 rfl ?_
                      refine G_goto 204 dr_cX17_run_196 (by decide +kernel) ?_
                      refine G_istore_n (L' := [(3, .int p158557), (6, .ref q158556), (5, .ref q158546), (4, .int g158449), (0, .ref q155000), (1, .ref q155001), (2, .int p155002)]) dr_cX17_run_204 (Nat.le_of_ble_eq_true rfl) rfl ?_
                      refine G_iconst 0 dr_cX17_run_205 (by decide +kernel) ?_
                      refine G_istore (L' := [(4, .int 0), (3, .int p158557), (6, .ref q158556), (5, .ref q158546), (0, .ref q155000), (1, .ref q155001), (2, .int p155002)]) dr_cX17_run_206 (Nat.le_of_ble_eq_true rfl) rfl ?_
                      refine G_goto 54 dr_cX17_run_208 (by decide +kernel) ?_
                      refine G_lv (L' := [(4, .int 0), (3, .int p158557), (0, .ref q155000), (1, .ref q155001), (2, .int p155002)]) [0, 1, 4, 5, 6] rfl ?_
                      have ac158629 : (fI (F158574 q155000) 26).toInt = z158573.toInt := by rw [he158581]; rfl
                      exact ih54_158454 F158574 p158557 0 bp158557 (gB_w (gBl (show Int32.toInt 0 = 0 by decide)) (by decide) (by decide)) hT158583 hs158582 (by have qa0 : Int32.toInt 0 = 0 := (by decide); omega) (by omega) (by have qa0 : Int32.toInt 0 = 0 := (by decide); omega)
                · have r158630 : p158602.toInt = 32 := gj_eq hc158613 (show Int32.toInt 32 = 32 by decide)
                  have bp158602' : gB p158602 32 32 := ⟨by omega, by omega⟩
                  refine G_aload_n 4 dr_cX17_run_144 rfl ?_
                  refine G_aload_n 4 dr_cX17_run_145 rfl ?_
                  refine G_aload 0 dr_cX17_run_146 rfl ?_
                  refine Gp_get 5 hm158600 he158601 dr_cX17_run_148 (gk_X15 D I) (Nat.le_of_ble_eq_true rfl) wr_9_197 rfl ?_
                  refine G_aload 0 dr_cX17_run_151 rfl ?_
                  refine Gp_get 2 hm158600 he158601 dr_cX17_run_153 (gk_X15 D I) (Nat.le_of_ble_eq_true rfl) wr_9_186 rfl ?_
                  refine Gw_callV (As := [.int p158607, .int p158604]) (gV_ok D I) (ct_5682_SpillForgeModel_value l hl0 D I γ el P154998 F158574 q155000 p158607 p158604 hT158583 htq155000 bp158607 (by omega)) dr_cX17_run_156 ⟨wr_11_100, wr_1_14, wr_11_103, by decide, rfl, (Nat.le_of_ble_eq_true rfl), (Nat.le_of_ble_eq_true rfl)⟩ wr_11_102 wr_p_115 hm158458 he158581 rfl (show 0 + 0 ≤ 0 by first | omega | decide) (show 0 + 0 ≤ 0 by first | omega | decide) (Nat.le_of_ble_eq_true rfl) (fun r158634 w158635 dc158631 ds158632 hp158633 => ?_) (fun _ _ _ _ _ z => z.elim)
                  obtain ⟨o158636, rfl, rfl, hdc, hds⟩ := hp158633
                  have bo158636 := gB_any o158636
                  change G _ _ _ _ _ _ _ (.int o158636 :: _) _ _ _
                  refine G_widen (cs' := 0) (sl' := 0) (by omega) (by omega) ?_
                  refine Gp_put 24 hm158458 he158581 dr_cX17_run_159 (gk_X17 D I) (Nat.le_of_ble_eq_true rfl) wr_7_98 rfl rfl rfl (Nat.le_of_ble_eq_true rfl) (fun F158637 e158638 n158639 => ?_)
                  have he158640 : F158637 q155001 = .inr (18, [.ref q158509, .ref q158510, .int p158511, .int p158512]) := (n158639 q155001 (rn_oo he158577 he158581 (by decide))).trans he158577
                  have he158641 : F158637 q158509 = .inr (4, [.int p158529, .ref q158531, .int p158530]) := (n158639 q158509 (rn_oo he158578 he158581 (by decide))).trans he158578
                  have he158642 : F158637 q158531 = .inl (I (.object "java/lang/Object"), n158543, .inr (.inr (.inr (.inr f158544)))) := (n158639 q158531 (rn_ao he158579 he158581)).trans he158579
                  have he158643 : F158637 q158546 = .inr (17, [.ref q158555, .ref q158556, .int p158557, .int p158558]) := (n158639 q158546 (rn_oo he158580 he158581 (by decide))).trans he158580
                  have he158644 : F158637 q158555 = .inr (4, [.int p158586, .ref q158588, .int p158587]) := (n158639 q158555 (rn_oo he158585 he158581 (by decide))).trans he158585
                  have he158645 : F158637 q158556 = .inr (20, [.int p158602, .int p158603, .int p158604, .int p158605, .int p158606, .int p158607, .int p158608]) := (n158639 q158556 (rn_oo he158601 he158581 (by decide))).trans he158601
                  have he158646 : F158637 q155000 = .inr (22, [.ref (γ 9 0), .ref (γ 9 1), .ref (γ 9 2), .ref (γ 9 3), .ref (γ 9 4), .ref (γ 9 5), .ref (γ 9 6), .ref (γ 9 7), .ref (γ 9 8), .int p158462, .int p158463, .int p158464, .int p158465, .int p158466, .int p158467, .ref (γ 9 15), .ref (γ 9 16), .ref (γ 9 17), .ref (γ 9 18), .ref (γ 9 19), .ref (γ 9 20), .ref (γ 9 21), .ref (γ 9 22), .int p158468, .int o158636, .int p158470, .int z158573, .int p158472, .ref q158460, .ref (γ 9 29), .int p158473, .ref (γ 9 31), .int p158474, .int p158475, .int p158476, .ref q158461]) := e158638
                  have hs158647 : rStr γ F154999 F158637 := rStr_put hs158582 n158639 htq155000 (by decide)
                  refine G_iconst 0 dr_cX17_run_162 (by decide +kernel) ?_
                  have hT158648 : RS D I P154998 F158637 γ el := RS_set hT158583 n158639 htq155000 (by decide) ⟨q158460, q158461, p158462, p158463, p158464, p158465, p158466, p158467, p158468, o158636, p158470, z158573, p158472, p158473, p158474, p158475, p158476, he158646, ⟨(hB158503.1), (hB158503.2.1), (hB158503.2.2.1), (hB158503.2.2.2.1), (hB158503.2.2.2.2.1), ⟨by omega, by omega⟩, (hB158503.2.2.2.2.2.2.1), (hB158503.2.2.2.2.2.2.2.1), (hB158503.2.2.2.2.2.2.2.2)⟩, ht158477, ht158478, ht158479, ht158480, ht158481, ht158482, ht158483, ht158484, ht158485, ht158486, ht158487, ht158488, ht158489, ht158490, ht158491, ht158492, ht158493, ht158494, ht158495, ht158496, ht158497, ht158498, ht158499, ht158500, hB158504⟩
                  exact G_iretA dr_cX17_run_163 rfl (Nat.le_of_ble_eq_true rfl) (Nat.le_of_ble_eq_true rfl) ⟨F158637, 0, rfl, rfl, hT158648, hs158647, (Nat.le_of_ble_eq_true rfl), (Nat.le_of_ble_eq_true rfl), (gB_w (gBl (show Int32.toInt 0 = 0 by decide)) (by decide) (by decide))⟩
              · have r158649 : g158449.toInt < p158587.toInt := gC_nle hc158598
                have bg158449' : gB g158449 0 999999 := ⟨by omega, by omega⟩
                have bp158587' : gB p158587 1 1000000 := ⟨by omega, by omega⟩
                refine G_aload_n 3 dr_cX17_run_94 rfl ?_
                refine G_aload 0 dr_cX17_run_95 rfl ?_
                refine Gp_get 0 hm158553 he158580 dr_cX17_run_97 (gk_X12 D I) (Nat.le_of_ble_eq_true rfl) wr_9_220 rfl ?_
                refine G_iload 1 dr_cX17_run_100 rfl ?_
                obtain ⟨r158650, r158651, n158657, f158658, r158652, r158653, r158654, r158655, r158656⟩ := rLC_n r158591 (by omega)
                have hm158659 : q158588 ∈ P154998 := RS_m hT158583 r158650 (by decide)
                obtain ⟨q158660, hx158661⟩ : ∃ x, x = el q158555 g158449.toInt.toNat := ⟨_, rfl⟩
                have hx158662 : f158658 g158449.toNatClampNeg = some q158660 := (r158655 _ (show g158449.toInt.toNat < γ 2 q158555 by omega)).trans (by rw [hx158661])
                have ht158663 : rKd γ q158660 1 := by rw [hx158661]; exact (r158592 _ (show g158449.toInt.toNat < γ 2 q158555 by omega)).1
                have ht158664 : rFm γ q158660 q158555 := by rw [hx158661]; exact (r158592 _ (show g158449.toInt.toNat < γ 2 q158555 by omega)).2.1
                refine Gw_callV (As := [.int g158449]) (gV_ok D I) (cp_22_ArrayList_get l hl0 D I P154998 F158574 q158555 q158588 g158449 p158586 p158587 f158658 n158657 q158660 hm158584 hm158659 he158585 r158652 (gB_w bg158449' (by decide) (by decide)) (gB_w bp158587' (by decide) (by decide)) (by omega) (by omega) (by assumption) (by omega)) dr_cX17_run_102 ⟨wr_10_201, wr_1_18, wr_10_65, by decide, rfl, (Nat.le_of_ble_eq_true rfl), (Nat.le_of_ble_eq_true rfl)⟩ wr_10_63 wr_10_64 hm158584 he158585 rfl (show 0 + 0 ≤ 0 by first | omega | decide) (show 0 + 0 ≤ 0 by first | omega | decide) (Nat.le_of_ble_eq_true rfl) (fun r158668 w158669 dc158665 ds158666 hp158667 => ?_) (fun _ _ _ _ _ z => z.elim)
                obtain ⟨rfl, rfl, hdc, hds⟩ := hp158667
                change G _ _ _ _ _ _ _ (.ref q158660 :: _) _ _ _
                refine G_widen (cs' := 0) (sl' := 0) (by omega) (by omega) ?_
                have hm158670 : q158660 ∈ P154998 := RS_m hT158583 ht158663 (by decide)
                obtain ⟨p158672, p158673, p158674, p158675, p158676, p158677, p158678, he158671, bp158672, bp158673, bp158676, bp158677, bp158678, r158679, r158680, r158681, r158682⟩ := show rk_1 γ q158660 (F158574 q158660) from RS_o hT158583 ht158663
                have bp158674 := gB_any p158674
                have bp158675 := gB_any p158675
                refine Gp_cast hm158670 he158671 rfl dr_cX17_run_105 wr_10_202 (gr_cast 1 rfl) ?_
                have ac158683 : (fI (F158574 q155000) 26).toInt = z158573.toInt := by rw [he158581]; rfl
                refine Gw_callV (As := [.ref q158660]) (gV_ok D I) (ct_153177_SpillForgeModel_step l hl0 D I γ el P154998 F158574 q155000 q158660 hT158583 htq155000 ht158663) dr_cX17_run_108 ⟨wr_11_96, wr_1_14, wr_11_99, by decide, rfl, (Nat.le_of_ble_eq_true rfl), (Nat.le_of_ble_eq_true rfl)⟩ wr_11_98 wr_p_114 hm158458 he158581 rfl (show 0 + 0 ≤ 0 by first | omega | decide) (show 0 + 0 ≤ 0 by first | omega | decide) (Nat.le_of_ble_eq_true rfl) (fun r158687 w158688 dc158684 ds158685 hp158686 => ?_) (fun _ _ _ _ _ z => z.elim)
                obtain ⟨F158692, o158689, rfl, rfl, hT158693, hs158694, hdc, hds, bo158689, x158690, x158691⟩ := hp158686
                have he158695 : F158692 q155001 = .inr (18, [.ref q158509, .ref q158510, .int p158511, .int p158512]) := (hs158694 q155001 (rT0 htq155001 (by decide)) (rT1 htq155001 (by decide))).trans he158577
                have he158696 : F158692 q158509 = .inr (4, [.int p158529, .ref q158531, .int p158530]) := (hs158694 q158509 (rT0 ht158513 (by decide)) (rT1 ht158513 (by decide))).trans he158578
                have he158697 : F158692 q158531 = .inl (I (.object "java/lang/Object"), n158543, .inr (.inr (.inr (.inr f158544)))) := (hs158694 q158531 (rT0 r158536 (by decide)) (rT1 r158536 (by decide))).trans he158579
                have he158698 : F158692 q158546 = .inr (17, [.ref q158555, .ref q158556, .int p158557, .int p158558]) := (hs158694 q158546 (rT0 ht158551 (by decide)) (rT1 ht158551 (by decide))).trans he158580
                have he158699 : F158692 q158555 = .inr (4, [.int p158586, .ref q158588, .int p158587]) := (hs158694 q158555 (rT0 ht158559 (by decide)) (rT1 ht158559 (by decide))).trans he158585
                have he158700 : F158692 q158588 = .inl (I (.object "java/lang/Object"), n158657, .inr (.inr (.inr (.inr f158658)))) := (hs158694 q158588 (rT0 r158650 (by decide)) (rT1 r158650 (by decide))).trans r158652
                have he158701 : F158692 q158660 = .inr (20, [.int p158672, .int p158673, .int p158674, .int p158675, .int p158676, .int p158677, .int p158678]) := (hs158694 q158660 (rT0 ht158663 (by decide)) (rT1 ht158663 (by decide))).trans he158671
                have hs158702 : rStr γ F154999 F158692 := rStr_tr hs158582 hs158694
                change G _ _ _ _ _ _ _ (.int o158689 :: _) _ _ _
                refine G_widen (cs' := 0) (sl' := 0) (by omega) (by omega) ?_
                refine G_istore (L' := [(6, .int o158689), (5, .ref q158546), (4, .int g158449), (3, .int g158448), (0, .ref q155000), (1, .ref q155001), (2, .int p155002)]) dr_cX17_run_111 (Nat.le_of_ble_eq_true rfl) rfl ?_
                refine G_iload 0 dr_cX17_run_113 rfl ?_
                refine G_if_lt 121 dr_cX17_run_115 (by decide +kernel) (fun hc158703 => ?_) (fun hc158703 => ?_)
                · have r158704 : o158689.toInt < 0 := gj_lt hc158703 (show Int32.toInt 0 = 0 by decide)
                  have bo158689' : gB o158689 (-1) (-1) := ⟨by omega, by omega⟩
                  obtain ⟨z158705, hz158705⟩ : ∃ z : Int32, z = g158449 + Int32.ofInt 1 := ⟨_, rfl⟩
                  have ez158705 : z158705.toInt = g158449.toInt + 1 := gI_inc hz158705 (by decide) bg158449' (by decide) (by decide)
                  have bz158705 : gB z158705 1 1000000 := ⟨by omega, by omega⟩
                  refine G_iinc (L' := [(4, .int z158705), (6, .int o158689), (5, .ref q158546), (3, .int g158448), (0, .ref q155000), (1, .ref q155001), (2, .int p155002)]) z158705 2 dr_cX17_run_121 rfl hz158705.symm (Nat.le_of_ble_eq_true rfl) rfl ?_
                  refine G_goto 54 dr_cX17_run_124 (by decide +kernel) ?_
                  refine G_lv (L' := [(4, .int z158705), (3, .int g158448), (0, .ref q155000), (1, .ref q155001), (2, .int p155002)]) [0, 3, 4, 5, 6] rfl ?_
                  have hm158706 : q155000 ∈ P154998 := RS_m hT158693 htq155000 (by decide)
                  obtain ⟨q158708, q158709, p158710, p158711, p158712, p158713, p158714, p158715, p158716, p158717, p158718, p158719, p158720, p158721, p158722, p158723, p158724, he158707, hB158751, ht158725, ht158726, ht158727, ht158728, ht158729, ht158730, ht158731, ht158732, ht158733, ht158734, ht158735, ht158736, ht158737, ht158738, ht158739, ht158740, ht158741, ht158742, ht158743, ht158744, ht158745, ht158746, ht158747, ht158748, hB158752⟩ := show rk_10 γ (F158692 q155000) from RS_o hT158693 htq155000
                  have ac158753 : (fI (F158692 q155000) 26).toInt = p158719.toInt := by rw [he158707]; rfl
                  have bp158719 : gB p158719 0 100000 := (hB158751.2.2.2.2.2.1)
                  have ac158754 : (fI (F158692 q155000) 26).toInt = p158719.toInt := by rw [he158707]; rfl
                  exact ih54_158454 F158692 g158448 z158705 bg158448 (gB_w bz158705 (by decide) (by decide)) hT158693 hs158702 (by omega) (by omega) (by omega)
                · have r158755 : 0 ≤ o158689.toInt := gj_nlt hc158703 (show Int32.toInt 0 = 0 by decide)
                  have bo158689' : gB o158689 0 5 := ⟨by omega, by omega⟩
                  refine G_iload 0 dr_cX17_run_118 rfl ?_
                  exact G_iretA dr_cX17_run_120 rfl (Nat.le_of_ble_eq_true rfl) (Nat.le_of_ble_eq_true rfl) ⟨F158692, o158689, rfl, rfl, hT158693, hs158702, (Nat.le_of_ble_eq_true rfl), (Nat.le_of_ble_eq_true rfl), bo158689'⟩
            · have r158756 : p158471.toInt = p155002.toInt := gC_eq hc158571
              have bp158471' : gB p158471 1 100000 := ⟨by omega, by omega⟩
              refine G_iconst 4 dr_cX17_run_69 (by decide +kernel) ?_
              exact G_iretA dr_cX17_run_70 rfl (Nat.le_of_ble_eq_true rfl) (Nat.le_of_ble_eq_true rfl) ⟨F158450, 4, rfl, rfl, hT158451, hs158452, (Nat.le_of_ble_eq_true rfl), (Nat.le_of_ble_eq_true rfl), (gB_w (gBl (show Int32.toInt 4 = 4 by decide)) (by decide) (by decide))⟩
        have ac158757 : (fI (F158187 q155000) 26).toInt = 0 := by rw [he158190]; show Int32.toInt 0 = 0; decide
        exact hlp54_158454 ((p155002.toInt - (fI (F158187 q155000) 26).toInt).toNat + 1) F158187 0 0 (gB_w (gBl (show Int32.toInt 0 = 0 by decide)) (by decide) (by decide)) (gB_w (gBl (show Int32.toInt 0 = 0 by decide)) (by decide) (by decide)) hT158193 hs158191 (by have qa0 : Int32.toInt 0 = 0 := (by decide); omega) (by omega) (Nat.lt_succ_self _)
      · have r158758 : g158112.toInt < 2000 := gj_nleL hc158168 (show Int32.toInt 2000 = 2000 by decide)
        have bg158112' : gB g158112 0 1999 := ⟨by omega, by omega⟩
        refine G_aload_n 1 dr_cX17_run_9 rfl ?_
        refine Gp_get 20 hm158119 he158120 dr_cX17_run_10 (gk_X17 D I) (Nat.le_of_ble_eq_true rfl) wr_7_94 rfl ?_
        refine G_iload_n 0 dr_cX17_run_13 rfl ?_
        refine G_iconst 0 dr_cX17_run_14 (by decide +kernel) ?_
        have hm158759 : (γ 9 20) ∈ P154998 := RS_m hT158114 ht158154 (by decide)
        obtain ⟨f158761, he158760⟩ := show rk_22 I (F158113 (γ 9 20)) from RS_o hT158114 ht158154
        refine Gp_iast 0 hm158759 he158760 dr_cX17_run_15 rfl (gB_in bg158112' (by decide) (by decide)) (fun F158762 e158763 n158764 => ?_)
        obtain ⟨f158765, hf158765⟩ : ∃ z, z = upd f158761 g158112.toNatClampNeg 0 := ⟨_, rfl⟩
        rw [← hf158765] at e158763
        have he158766 : F158762 q155000 = .inr (22, [.ref (γ 9 0), .ref (γ 9 1), .ref (γ 9 2), .ref (γ 9 3), .ref (γ 9 4), .ref (γ 9 5), .ref (γ 9 6), .ref (γ 9 7), .ref (γ 9 8), .int p158123, .int p158124, .int p158125, .int p158126, .int p158127, .int p158128, .ref (γ 9 15), .ref (γ 9 16), .ref (γ 9 17), .ref (γ 9 18), .ref (γ 9 19), .ref (γ 9 20), .ref (γ 9 21), .ref (γ 9 22), .int p158129, .int p158130, .int p158131, .int p158132, .int p158133, .ref q158121, .ref (γ 9 29), .int p158134, .ref (γ 9 31), .int p158135, .int p158136, .int p158137, .ref q158122]) := (n158764 q155000 (rn_oa he158120 he158760)).trans he158120
        have he158767 : F158762 (γ 9 20) = .inl (I .int, 2000, .inl f158765) := e158763
        have hs158768 : rStr γ F154999 F158762 := rStr_put hs158115 n158764 ht158154 (by decide)
        refine G_aload_n 1 dr_cX17_run_16 rfl ?_
        refine Gp_get 21 hm158119 he158766 dr_cX17_run_17 (gk_X17 D I) (Nat.le_of_ble_eq_true rfl) wr_7_95 rfl ?_
        refine G_iload_n 0 dr_cX17_run_20 rfl ?_
        refine G_iconst 0 dr_cX17_run_21 (by decide +kernel) ?_
        have hT158769 : RS D I P154998 F158762 γ el := RS_set hT158114 n158764 ht158154 (by decide) ⟨f158765, he158767⟩
        have hm158770 : (γ 9 21) ∈ P154998 := RS_m hT158769 ht158155 (by decide)
        obtain ⟨f158772, he158771⟩ := show rk_23 I (F158762 (γ 9 21)) from RS_o hT158769 ht158155
        refine Gp_iast 0 hm158770 he158771 dr_cX17_run_22 rfl (gB_in bg158112' (by decide) (by decide)) (fun F158773 e158774 n158775 => ?_)
        obtain ⟨f158776, hf158776⟩ : ∃ z, z = upd f158772 g158112.toNatClampNeg 0 := ⟨_, rfl⟩
        rw [← hf158776] at e158774
        have he158777 : F158773 q155000 = .inr (22, [.ref (γ 9 0), .ref (γ 9 1), .ref (γ 9 2), .ref (γ 9 3), .ref (γ 9 4), .ref (γ 9 5), .ref (γ 9 6), .ref (γ 9 7), .ref (γ 9 8), .int p158123, .int p158124, .int p158125, .int p158126, .int p158127, .int p158128, .ref (γ 9 15), .ref (γ 9 16), .ref (γ 9 17), .ref (γ 9 18), .ref (γ 9 19), .ref (γ 9 20), .ref (γ 9 21), .ref (γ 9 22), .int p158129, .int p158130, .int p158131, .int p158132, .int p158133, .ref q158121, .ref (γ 9 29), .int p158134, .ref (γ 9 31), .int p158135, .int p158136, .int p158137, .ref q158122]) := (n158775 q155000 (rn_oa he158766 he158771)).trans he158766
        have he158778 : F158773 (γ 9 20) = .inl (I .int, 2000, .inl f158765) := (n158775 (γ 9 20) (rn_ty ht158154 ht158155 (by decide))).trans he158767
        have he158779 : F158773 (γ 9 21) = .inl (I .int, 2000, .inl f158776) := e158774
        have hs158780 : rStr γ F154999 F158773 := rStr_put hs158768 n158775 ht158155 (by decide)
        obtain ⟨z158781, hz158781⟩ : ∃ z : Int32, z = g158112 + Int32.ofInt 1 := ⟨_, rfl⟩
        have ez158781 : z158781.toInt = g158112.toInt + 1 := gI_inc hz158781 (by decide) bg158112' (by decide) (by decide)
        have bz158781 : gB z158781 1 2000 := ⟨by omega, by omega⟩
        refine G_iinc (L' := [(3, .int z158781), (0, .ref q155000), (1, .ref q155001), (2, .int p155002)]) z158781 0 dr_cX17_run_23 rfl hz158781.symm (Nat.le_of_ble_eq_true rfl) rfl ?_
        refine G_goto 2 dr_cX17_run_26 (by decide +kernel) ?_
        have hT158782 : RS D I P154998 F158773 γ el := RS_set hT158769 n158775 ht158155 (by decide) ⟨f158776, he158779⟩
        have ac158783 : (fI (F158773 q155000) 26).toInt = p158132.toInt := by rw [he158777]; rfl
        exact ih2_158115 F158773 z158781 (gB_w bz158781 (by decide) (by decide)) hT158782 hs158780 (by omega)
  have hm158784 : q155000 ∈ P154998 := RS_m hT htq155000 (by decide)
  obtain ⟨q158786, q158787, p158788, p158789, p158790, p158791, p158792, p158793, p158794, p158795, p158796, p158797, p158798, p158799, p158800, p158801, p158802, he158785, hB158829, ht158803, ht158804, ht158805, ht158806, ht158807, ht158808, ht158809, ht158810, ht158811, ht158812, ht158813, ht158814, ht158815, ht158816, ht158817, ht158818, ht158819, ht158820, ht158821, ht158822, ht158823, ht158824, ht158825, ht158826, hB158830⟩ := show rk_10 γ (F154999 q155000) from RS_o hT htq155000
  have ac158831 : (fI (F154999 q155000) 26).toInt = p158797.toInt := by rw [he158785]; rfl
  have bp158797 : gB p158797 0 100000 := (hB158829.2.2.2.2.2.1)
  have ac158832 : (fI (F154999 q155000) 26).toInt = p158797.toInt := by rw [he158785]; rfl
  exact hlp2_158115 (((2001 : Int) - 0).toNat + 1) F154999 0 (gB_w (gBl (show Int32.toInt 0 = 0 by decide)) (by decide) (by decide)) hT (rStr_rf (γ := γ) (F := F154999)) (Nat.lt_succ_self _)
abbrev ky_158840_SpillForgeModel_weigh : gKey := (cX17_weigh, 7, "SpillForgeModel", none, [], "weigh", fun _ _ => True)
def pt_158840_SpillForgeModel_weigh (D : va_G) (I : FieldType → ClassId) (γ el : Nat → Nat → Nat) (P158835 : List Nat) (F158836 : Nat → va_E) (q158837 : Nat) (q158838 : Nat) : Option Value → va_W → Nat → Nat → Prop := fun r w dc ds => ∃ (F222792 : Nat → va_E), r = none ∧ w = va_pl P158835 F222792 ∧ RS D I P158835 F222792 γ el ∧ rStr γ F158836 F222792 ∧ dc ≤ 0 ∧ ds ≤ 0
set_option maxRecDepth 100000 in
set_option maxHeartbeats 4000000 in
theorem ct_158840_SpillForgeModel_weigh (l : Launch) (hl0 : l.stackTraces = false) (D : va_G) (I : FieldType → ClassId) (γ el : Nat → Nat → Nat) (P158835 : List Nat) (F158836 : Nat → va_E) (q158837 : Nat) (q158838 : Nat) (hT : RS D I P158835 F158836 γ el) (htq158837 : rKd γ q158837 10) (htq158838 : rKd γ q158838 9) (x158839 : 0 < γ 6 (γ 1 q158838)) : CtA (gV D I) l yX17_weigh cX17_weigh 7 none 6 144 0 0 [.ref q158837, .ref q158838] (va_pl P158835 F158836) (pt_158840_SpillForgeModel_weigh D I γ el P158835 F158836 q158837 q158838) gNA := by
  refine CtA_of hl0 (by decide) (Nat.le_of_ble_eq_true rfl) ?_
  refine G_aload_n 0 dr_cX17_weigh_0 rfl ?_
  refine G_aload_n 1 dr_cX17_weigh_1 rfl ?_
  have hm158846 : q158837 ∈ P158835 := RS_m hT htq158837 (by decide)
  obtain ⟨q158848, q158849, p158850, p158851, p158852, p158853, p158854, p158855, p158856, p158857, p158858, p158859, p158860, p158861, p158862, p158863, p158864, he158847, hB158891, ht158865, ht158866, ht158867, ht158868, ht158869, ht158870, ht158871, ht158872, ht158873, ht158874, ht158875, ht158876, ht158877, ht158878, ht158879, ht158880, ht158881, ht158882, ht158883, ht158884, ht158885, ht158886, ht158887, ht158888, hB158892⟩ := show rk_10 γ (F158836 q158837) from RS_o hT htq158837
  refine Gw_callV (As := [.ref q158838]) (gV_ok D I) (ct_17247_SpillForgeModel_findDepth l hl0 D I γ el P158835 F158836 q158837 q158838 hT htq158837 htq158838 (by omega)) dr_cX17_weigh_2 ⟨wr_11_37, wr_1_14, wr_11_40, by decide, rfl, (Nat.le_of_ble_eq_true rfl), (Nat.le_of_ble_eq_true rfl)⟩ wr_11_39 wr_p_105 hm158846 he158847 rfl (show 0 + 0 ≤ 0 by first | omega | decide) (show 0 + 0 ≤ 0 by first | omega | decide) (Nat.le_of_ble_eq_true rfl) (fun r158844 w158845 dc158841 ds158842 hp158843 => ?_) (fun _ _ _ _ _ z => z.elim)
  obtain ⟨F158893, rfl, rfl, hT158894, hs158895, hdc, hds⟩ := hp158843
  have hs158896 : rStr γ F158836 F158893 := rStr_tr (rStr_rf (γ := γ) (F := F158836)) hs158895
  change G _ _ _ _ _ _ _ _ _ _ _
  refine G_widen (cs' := 0) (sl' := 0) (by omega) (by omega) ?_
  refine G_iconst 0 dr_cX17_weigh_5 (by decide +kernel) ?_
  refine G_istore_n (L' := [(2, .int 0), (0, .ref q158837), (1, .ref q158838)]) dr_cX17_weigh_6 (Nat.le_of_ble_eq_true rfl) rfl ?_
  have hlp7_216111 : ∀ (n7_216111 : Nat) (F216109 : Nat → va_E) (g216108 : Int32), gB g216108 0 2000 → RS D I P158835 F216109 γ el → rStr γ F158836 F216109 → ((2001 : Int) - g216108.toInt).toNat < n7_216111 → G (gV D I) l (gRm 6 144 0 0) (gMA (gV D I) (pt_158840_SpillForgeModel_weigh D I γ el P158835 F158836 q158837 q158838) gNA 0 0) ky_158840_SpillForgeModel_weigh 7 [(2, .int g216108), (0, .ref q158837), (1, .ref q158838)] [] (va_pl P158835 F216109) 0 0 := by
    intro n7_216111
    induction n7_216111 with
    | zero => intro F216109 g216108 bg216108 hT216110 hs216111 hm7_216111; exact absurd hm7_216111 (Nat.not_lt_zero _)
    | succ n7_216111 ih7_216111 =>
      intro F216109 g216108 bg216108 hT216110 hs216111 hm7_216111
      have hs216113 : rStr γ F158893 F216109 := fun b h0 hb => (hs216111 b h0 hb).trans (hs158896 b h0 hb).symm
      have hs216114 : rStr γ F158836 F216109 := rStr_tr hs158896 hs216113
      refine G_iload_n 0 dr_cX17_weigh_7 rfl ?_
      refine G_sipush 2000 dr_cX17_weigh_8 (by decide +kernel) ?_
      refine G_icmp_ge 27 dr_cX17_weigh_11 (by decide +kernel) (fun hc216115 => ?_) (fun hc216115 => ?_)
      · have r216116 : 2000 ≤ g216108.toInt := gj_leL hc216115 (show Int32.toInt 2000 = 2000 by decide)
        have bg216108' : gB g216108 2000 2000 := ⟨by omega, by omega⟩
        refine G_iconst 0 dr_cX17_weigh_27 (by decide +kernel) ?_
        refine G_istore_n (L' := [(2, .int 0), (0, .ref q158837), (1, .ref q158838)]) dr_cX17_weigh_28 (Nat.le_of_ble_eq_true rfl) rfl ?_
        have hlp29_219427 : ∀ (n29_219427 : Nat) (F219425 : Nat → va_E) (g219424 : Int32), gB g219424 0 1000000 → RS D I P158835 F219425 γ el → rStr γ F158836 F219425 → ((1000001 : Int) - g219424.toInt).toNat < n29_219427 → G (gV D I) l (gRm 6 144 0 0) (gMA (gV D I) (pt_158840_SpillForgeModel_weigh D I γ el P158835 F158836 q158837 q158838) gNA 0 0) ky_158840_SpillForgeModel_weigh 29 [(2, .int g219424), (0, .ref q158837), (1, .ref q158838)] [] (va_pl P158835 F219425) 0 0 := by
          intro n29_219427
          induction n29_219427 with
          | zero => intro F219425 g219424 bg219424 hT219426 hs219427 hm29_219427; exact absurd hm29_219427 (Nat.not_lt_zero _)
          | succ n29_219427 ih29_219427 =>
            intro F219425 g219424 bg219424 hT219426 hs219427 hm29_219427
            have hs219429 : rStr γ F216109 F219425 := fun b h0 hb => (hs219427 b h0 hb).trans (hs216111 b h0 hb).symm
            have hs219430 : rStr γ F158836 F219425 := rStr_tr hs216111 hs219429
            refine G_iload_n 0 dr_cX17_weigh_29 rfl ?_
            refine G_aload_n 2 dr_cX17_weigh_30 rfl ?_
            have hm219431 : q158838 ∈ P158835 := RS_m hT219426 htq158838 (by decide)
            obtain ⟨q219433, q219434, p219435, p219436, he219432, ht219437, ht219438, ht219439, ht219440, r219441, r219442, r219443, r219444, r219445, r219446, r219447, r219448, r219449, r219450⟩ := show rk_9 γ el q158838 (F219425 q158838) from RS_o hT219426 htq158838
            have bp219435 : gB p219435 0 1000000 := ⟨by omega, by omega⟩
            have bp219436 : gB p219436 0 1000000 := ⟨by omega, by omega⟩
            refine Gw_callV (As := []) (gV_ok D I) (cp_10426_Code_size l hl0 D I P158835 F219425 q158838 q219433 q219434 p219435 p219436 hm219431 he219432) dr_cX17_weigh_31 ⟨wr_10_160, wr_1_15, wr_9_131, by decide, rfl, (Nat.le_of_ble_eq_true rfl), (Nat.le_of_ble_eq_true rfl)⟩ wr_9_129 wr_9_130 hm219431 he219432 rfl (show 0 + 0 ≤ 0 by first | omega | decide) (show 0 + 0 ≤ 0 by first | omega | decide) (Nat.le_of_ble_eq_true rfl) (fun r219454 w219455 dc219451 ds219452 hp219453 => ?_) (fun _ _ _ _ _ z => z.elim)
            obtain ⟨rfl, rfl, hdc, hds⟩ := hp219453
            change G _ _ _ _ _ _ _ (.int p219436 :: _) _ _ _
            refine G_widen (cs' := 0) (sl' := 0) (by omega) (by omega) ?_
            refine G_icmp_ge 201 dr_cX17_weigh_34 (by decide +kernel) (fun hc219456 => ?_) (fun hc219456 => ?_)
            · have r219457 : p219436.toInt ≤ g219424.toInt := gC_le hc219456
              exact G_vretA dr_cX17_weigh_201 rfl (Nat.le_of_ble_eq_true rfl) (Nat.le_of_ble_eq_true rfl) ⟨F219425, rfl, rfl, hT219426, hs219427, (Nat.le_of_ble_eq_true rfl), (Nat.le_of_ble_eq_true rfl)⟩
            · have r219458 : g219424.toInt < p219436.toInt := gC_nle hc219456
              have bg219424' : gB g219424 0 999999 := ⟨by omega, by omega⟩
              have bp219436' : gB p219436 1 1000000 := ⟨by omega, by omega⟩
              refine G_iconst 1 dr_cX17_weigh_37 (by decide +kernel) ?_
              refine G_istore_n (L' := [(3, .int 1), (2, .int g219424), (0, .ref q158837), (1, .ref q158838)]) dr_cX17_weigh_38 (Nat.le_of_ble_eq_true rfl) rfl ?_
              refine G_iconst 0 dr_cX17_weigh_39 (by decide +kernel) ?_
              refine G_istore (L' := [(4, .int 0), (3, .int 1), (2, .int g219424), (0, .ref q158837), (1, .ref q158838)]) dr_cX17_weigh_40 (Nat.le_of_ble_eq_true rfl) rfl ?_
              have hlp42_221096 : ∀ (n42_221096 : Nat) (g221095 : Int32) (g221096 : Int32), gB g221095 0 2147483647 → ((2147483648 : Int) - g221095.toInt).toNat < n42_221096 → G (gV D I) l (gRm 6 144 0 0) (gMA (gV D I) (pt_158840_SpillForgeModel_weigh D I γ el P158835 F158836 q158837 q158838) gNA 0 0) ky_158840_SpillForgeModel_weigh 42 [(4, .int g221095), (3, .int g221096), (2, .int g219424), (0, .ref q158837), (1, .ref q158838)] [] (va_pl P158835 F219425) 0 0 := by
                intro n42_221096
                induction n42_221096 with
                | zero => intro g221095 g221096 bg221095 hm42_221096; exact absurd hm42_221096 (Nat.not_lt_zero _)
                | succ n42_221096 ih42_221096 =>
                  intro g221095 g221096 bg221095 hm42_221096
                  have bg221096 := gB_any g221096
                  refine G_iload 0 dr_cX17_weigh_42 rfl ?_
                  refine G_aload_n 3 dr_cX17_weigh_44 rfl ?_
                  have hm221098 : q158837 ∈ P158835 := RS_m hT219426 htq158837 (by decide)
                  obtain ⟨q221100, q221101, p221102, p221103, p221104, p221105, p221106, p221107, p221108, p221109, p221110, p221111, p221112, p221113, p221114, p221115, p221116, he221099, hB221143, ht221117, ht221118, ht221119, ht221120, ht221121, ht221122, ht221123, ht221124, ht221125, ht221126, ht221127, ht221128, ht221129, ht221130, ht221131, ht221132, ht221133, ht221134, ht221135, ht221136, ht221137, ht221138, ht221139, ht221140, hB221144⟩ := show rk_10 γ (F219425 q158837) from RS_o hT219426 htq158837
                  refine Gp_get 4 hm221098 he221099 dr_cX17_weigh_45 (gk_X17 D I) (Nat.le_of_ble_eq_true rfl) wr_7_78 rfl ?_
                  refine G_iload_n 2 dr_cX17_weigh_48 rfl ?_
                  have hm221145 : (γ 9 4) ∈ P158835 := RS_m hT219426 ht221123 (by decide)
                  obtain ⟨f221147, he221146⟩ := show rk_16 I (F219425 (γ 9 4)) from RS_o hT219426 ht221123
                  refine Gp_iald 0 hm221145 he221146 dr_cX17_weigh_49 rfl (gB_inr (by omega) (by omega)) (G_nam fun z221148 hz221148 => ?_)
                  have bz221148 : gB z221148 (-2147483648) 2147483647 := gB_any z221148
                  refine G_icmp_ge 64 dr_cX17_weigh_50 (by decide +kernel) (fun hc221149 => ?_) (fun hc221149 => ?_)
                  · have r221150 : z221148.toInt ≤ g221095.toInt := gC_le hc221149
                    refine G_aload_n 4 dr_cX17_weigh_64 rfl ?_
                    refine G_iload_n 2 dr_cX17_weigh_65 rfl ?_
                    have hm221151 : q219433 ∈ P158835 := RS_m hT219426 ht219437 (by decide)
                    obtain ⟨⟨p221153, p221154, q221155, he221152, r221156, r221157, r221158⟩, r221159⟩ := show rk_4 D I γ el F219425 q219433 from RS_o hT219426 ht219437
                    have bp221153 := gB_any p221153
                    have bp221154 : gB p221154 0 1000000 := ⟨by omega, by omega⟩
                    obtain ⟨r221160, r221161, n221167, f221168, r221162, r221163, r221164, r221165, r221166⟩ := rLC_n r221158 (by omega)
                    have hm221169 : q221155 ∈ P158835 := RS_m hT219426 r221160 (by decide)
                    obtain ⟨q221170, hx221171⟩ : ∃ x, x = el q219433 g219424.toInt.toNat := ⟨_, rfl⟩
                    have hx221172 : f221168 g219424.toNatClampNeg = some q221170 := (r221165 _ (show g219424.toInt.toNat < γ 2 q219433 by omega)).trans (by rw [hx221171])
                    have ht221175 : rKd γ q221170 2 := by rw [hx221171]; exact r219448 _ (by omega)
                    have ht221176 : rFm γ q221170 q219433 := by rw [hx221171]; exact (r221159 _ (show g219424.toInt.toNat < γ 2 q219433 by omega)).2.1
                    have hm221177 : q221170 ∈ P158835 := RS_m hT219426 ht221175 (by decide)
                    obtain ⟨q221179, q221180, p221181, p221182, he221178, ht221183, ht221184, ht221185, ht221186, ht221187, bp221181, bp221182, r221188⟩ := show rk_2 γ q221170 (F219425 q221170) from RS_o hT219426 ht221175
                    refine Gw_callV (As := [.int g219424]) (gV_ok D I) (cp_6012_Code_get l hl0 D I P158835 F219425 q158838 q219433 q221155 g219424 q219434 p219435 p219436 p221153 p221154 f221168 n221167 q221170 q221179 q221180 p221181 p221182 hm219431 hm221151 hm221169 hm221177 he219432 he221152 r221162 he221178 (gB_w bg219424' (by decide) (by decide)) (gB_w bp221154 (by decide) (by decide)) (by omega) (by omega) (by assumption) (by omega)) dr_cX17_weigh_66 ⟨wr_10_161, wr_1_15, wr_10_141, by decide, rfl, (Nat.le_of_ble_eq_true rfl), (Nat.le_of_ble_eq_true rfl)⟩ wr_10_139 wr_10_140 hm219431 he219432 rfl (show 0 + 0 ≤ 0 by first | omega | decide) (show 0 + 0 ≤ 0 by first | omega | decide) (Nat.le_of_ble_eq_true rfl) (fun r221192 w221193 dc221189 ds221190 hp221191 => ?_) (fun _ _ _ _ _ z => z.elim)
                    obtain ⟨rfl, rfl, hdc, hds⟩ := hp221191
                    change G _ _ _ _ _ _ _ (.ref q221170 :: _) _ _ _
                    refine G_widen (cs' := 0) (sl' := 0) (by omega) (by omega) ?_
                    refine G_astore (L' := [(4, .ref q221170), (3, .int g221096), (2, .int g219424), (0, .ref q158837), (1, .ref q158838)]) dr_cX17_weigh_69 (Nat.le_of_ble_eq_true rfl) rfl ?_
                    refine G_iconst 0 dr_cX17_weigh_71 (by decide +kernel) ?_
                    refine G_istore (L' := [(5, .int 0), (4, .ref q221170), (3, .int g221096), (2, .int g219424), (0, .ref q158837), (1, .ref q158838)]) dr_cX17_weigh_72 (Nat.le_of_ble_eq_true rfl) rfl ?_
                    have hlp74_221964 : ∀ (n74_221964 : Nat) (F221962 : Nat → va_E) (g221961 : Int32), gB g221961 0 1000001 → RS D I P158835 F221962 γ el → rStr γ F158836 F221962 → ((1000002 : Int) - g221961.toInt).toNat < n74_221964 → G (gV D I) l (gRm 6 144 0 0) (gMA (gV D I) (pt_158840_SpillForgeModel_weigh D I γ el P158835 F158836 q158837 q158838) gNA 0 0) ky_158840_SpillForgeModel_weigh 74 [(5, .int g221961), (4, .ref q221170), (3, .int g221096), (2, .int g219424), (0, .ref q158837), (1, .ref q158838)] [] (va_pl P158835 F221962) 0 0 := by
                      intro n74_221964
                      induction n74_221964 with
                      | zero => intro F221962 g221961 bg221961 hT221963 hs221964 hm74_221964; exact absurd hm74_221964 (Nat.not_lt_zero _)
                      | succ n74_221964 ih74_221964 =>
                        intro F221962 g221961 bg221961 hT221963 hs221964 hm74_221964
                        have hs221966 : rStr γ F219425 F221962 := fun b h0 hb => (hs221964 b h0 hb).trans (hs219427 b h0 hb).symm
                        have he221967 : F221962 q158838 = .inr (18, [.ref q219433, .ref q219434, .int p219435, .int p219436]) := (hs221966 q158838 (rT0 htq158838 (by decide)) (rT1 htq158838 (by decide))).trans he219432
                        have he221968 : F221962 q219433 = .inr (4, [.int p221153, .ref q221155, .int p221154]) := (hs221966 q219433 (rT0 ht219437 (by decide)) (rT1 ht219437 (by decide))).trans he221152
                        have he221969 : F221962 q221155 = .inl (I (.object "java/lang/Object"), n221167, .inr (.inr (.inr (.inr f221168)))) := (hs221966 q221155 (rT0 r221160 (by decide)) (rT1 r221160 (by decide))).trans r221162
                        have he221970 : F221962 q221170 = .inr (17, [.ref q221179, .ref q221180, .int p221181, .int p221182]) := (hs221966 q221170 (rT0 ht221175 (by decide)) (rT1 ht221175 (by decide))).trans he221178
                        have hs221971 : rStr γ F158836 F221962 := rStr_tr hs219427 hs221966
                        refine G_iload 0 dr_cX17_weigh_74 rfl ?_
                        refine G_aload 1 dr_cX17_weigh_76 rfl ?_
                        refine Gp_get 0 hm221177 he221970 dr_cX17_weigh_78 (gk_X12 D I) (Nat.le_of_ble_eq_true rfl) wr_9_220 rfl ?_
                        have hm221972 : q221179 ∈ P158835 := RS_m hT221963 ht221183 (by decide)
                        obtain ⟨⟨p221974, p221975, q221976, he221973, r221977, r221978, r221979⟩, r221980⟩ := show rk_3 D I γ el F221962 q221179 from RS_o hT221963 ht221183
                        have bp221974 := gB_any p221974
                        have bp221975 : gB p221975 0 1000000 := ⟨by omega, by omega⟩
                        refine Gw_callV (As := []) (gV_ok D I) (cp_7_ArrayList_size l hl0 D I P158835 F221962 q221179 p221974 q221976 p221975 hm221972 he221973 (gB_w bp221975 (by decide) (by decide))) dr_cX17_weigh_81 ⟨wr_10_200, wr_1_18, wr_9_160, by decide, rfl, (Nat.le_of_ble_eq_true rfl), (Nat.le_of_ble_eq_true rfl)⟩ wr_9_158 wr_9_159 hm221972 he221973 rfl (show 0 + 0 ≤ 0 by first | omega | decide) (show 0 + 0 ≤ 0 by first | omega | decide) (Nat.le_of_ble_eq_true rfl) (fun r221984 w221985 dc221981 ds221982 hp221983 => ?_) (fun _ _ _ _ _ z => z.elim)
                        obtain ⟨rfl, rfl, hdc, hds⟩ := hp221983
                        change G _ _ _ _ _ _ _ (.int p221975 :: _) _ _ _
                        refine G_widen (cs' := 0) (sl' := 0) (by omega) (by omega) ?_
                        refine G_icmp_gt 195 dr_cX17_weigh_84 (by decide +kernel) (fun hc221986 => ?_) (fun hc221986 => ?_)
                        · have r221987 : p221975.toInt < g221961.toInt := gC_lt hc221986
                          have bg221961' : gB g221961 1 1000001 := ⟨by omega, by omega⟩
                          obtain ⟨z221988, hz221988⟩ : ∃ z : Int32, z = g219424 + Int32.ofInt 1 := ⟨_, rfl⟩
                          have ez221988 : z221988.toInt = g219424.toInt + 1 := gI_inc hz221988 (by decide) bg219424' (by decide) (by decide)
                          have bz221988 : gB z221988 1 1000000 := ⟨by omega, by omega⟩
                          refine G_iinc (L' := [(2, .int z221988), (5, .int g221961), (4, .ref q221170), (3, .int g221096), (0, .ref q158837), (1, .ref q158838)]) z221988 3 dr_cX17_weigh_195 rfl hz221988.symm (Nat.le_of_ble_eq_true rfl) rfl ?_
                          refine G_goto 29 dr_cX17_weigh_198 (by decide +kernel) ?_
                          refine G_lv (L' := [(2, .int z221988), (0, .ref q158837), (1, .ref q158838)]) [0, 4, 5] rfl ?_
                          exact ih29_219427 F221962 z221988 (gB_w bz221988 (by decide) (by decide)) hT221963 hs221964 (by omega)
                        · have r221989 : g221961.toInt ≤ p221975.toInt := gC_nlt hc221986
                          have bg221961' : gB g221961 0 1000000 := ⟨by omega, by omega⟩
                          refine G_iload 0 dr_cX17_weigh_87 rfl ?_
                          refine G_aload 1 dr_cX17_weigh_89 rfl ?_
                          refine Gp_get 0 hm221177 he221970 dr_cX17_weigh_91 (gk_X12 D I) (Nat.le_of_ble_eq_true rfl) wr_9_220 rfl ?_
                          refine Gw_callV (As := []) (gV_ok D I) (cp_7_ArrayList_size l hl0 D I P158835 F221962 q221179 p221974 q221976 p221975 hm221972 he221973 (gB_w bp221975 (by decide) (by decide))) dr_cX17_weigh_94 ⟨wr_10_200, wr_1_18, wr_9_160, by decide, rfl, (Nat.le_of_ble_eq_true rfl), (Nat.le_of_ble_eq_true rfl)⟩ wr_9_158 wr_9_159 hm221972 he221973 rfl (show 0 + 0 ≤ 0 by first | omega | decide) (show 0 + 0 ≤ 0 by first | omega | decide) (Nat.le_of_ble_eq_true rfl) (fun r221993 w221994 dc221990 ds221991 hp221992 => ?_) (fun _ _ _ _ _ z => z.elim)
                          obtain ⟨rfl, rfl, hdc, hds⟩ := hp221992
                          change G _ _ _ _ _ _ _ (.int p221975 :: _) _ _ _
                          refine G_widen (cs' := 0) (sl' := 0) (by omega) (by omega) ?_
                          refine G_icmp_ge 116 dr_cX17_weigh_97 (by decide +kernel) (fun hc221995 => ?_) (fun hc221995 => ?_)
                          · have r221996 : p221975.toInt ≤ g221961.toInt := gC_le hc221995
                            refine G_aload 1 dr_cX17_weigh_116 rfl ?_
                            refine Gp_get 1 hm221177 he221970 dr_cX17_weigh_118 (gk_X12 D I) (Nat.le_of_ble_eq_true rfl) wr_9_223 rfl ?_
                            refine G_astore (L' := [(6, .ref q221180), (5, .int g221961), (4, .ref q221170), (3, .int g221096), (2, .int g219424), (0, .ref q158837), (1, .ref q158838)]) dr_cX17_weigh_121 (Nat.le_of_ble_eq_true rfl) rfl ?_
                            refine G_aload 0 dr_cX17_weigh_123 rfl ?_
                            have hm221997 : q221180 ∈ P158835 := RS_m hT221963 ht221185 (by decide)
                            obtain ⟨p221999, p222000, p222001, p222002, p222003, p222004, p222005, he221998, bp221999, bp222000, bp222003, bp222004, bp222005, r222006, r222007, r222008, r222009⟩ := show rk_1 γ q221180 (F221962 q221180) from RS_o hT221963 ht221185
                            have bp222001 := gB_any p222001
                            have bp222002 := gB_any p222002
                            refine Gw_callV (As := []) (gV_ok D I) (cp_1654_Row_sets l hl0 D I P158835 F221962 q221180 p221999 p222000 p222001 p222002 p222003 p222004 p222005 hm221997 he221998 bp221999 bp222000 bp222003 bp222004 bp222005) dr_cX17_weigh_125 ⟨wr_10_181, wr_1_39, wr_10_184, by decide, rfl, (Nat.le_of_ble_eq_true rfl), (Nat.le_of_ble_eq_true rfl)⟩ wr_10_182 wr_10_183 hm221997 he221998 rfl (show 0 + 0 ≤ 0 by first | omega | decide) (show 0 + 0 ≤ 0 by first | omega | decide) (Nat.le_of_ble_eq_true rfl) (fun r222013 w222014 dc222010 ds222011 hp222012 => ?_) (fun _ _ _ _ _ z => z.elim)
                            obtain ⟨o222015, rfl, rfl, hdc, hds, bo222015⟩ := hp222012
                            change G _ _ _ _ _ _ _ (.int o222015 :: _) _ _ _
                            refine G_widen (cs' := 0) (sl' := 0) (by omega) (by omega) ?_
                            refine G_if_eq 145 dr_cX17_weigh_128 (by decide +kernel) (fun hc222016 => ?_) (fun hc222016 => ?_)
                            · have r222017 : o222015.toInt = 0 := gj_eq hc222016 (show Int32.toInt 0 = 0 by decide)
                              have bo222015' : gB o222015 0 0 := ⟨by omega, by omega⟩
                              refine G_aload 0 dr_cX17_weigh_145 rfl ?_
                              refine Gw_callV (As := []) (gV_ok D I) (cp_1669_Row_usesA l hl0 D I P158835 F221962 q221180 p221999 p222000 p222001 p222002 p222003 p222004 p222005 hm221997 he221998 bp221999 bp222000 bp222003 bp222004 bp222005) dr_cX17_weigh_147 ⟨wr_10_192, wr_1_39, wr_10_195, by decide, rfl, (Nat.le_of_ble_eq_true rfl), (Nat.le_of_ble_eq_true rfl)⟩ wr_10_193 wr_10_194 hm221997 he221998 rfl (show 0 + 0 ≤ 0 by first | omega | decide) (show 0 + 0 ≤ 0 by first | omega | decide) (Nat.le_of_ble_eq_true rfl) (fun r222021 w222022 dc222018 ds222019 hp222020 => ?_) (fun _ _ _ _ _ z => z.elim)
                              obtain ⟨o222023, rfl, rfl, hdc, hds, bo222023, x222024⟩ := hp222020
                              change G _ _ _ _ _ _ _ (.int o222023 :: _) _ _ _
                              refine G_widen (cs' := 0) (sl' := 0) (by omega) (by omega) ?_
                              refine G_if_eq 167 dr_cX17_weigh_150 (by decide +kernel) (fun hc222025 => ?_) (fun hc222025 => ?_)
                              · have r222026 : o222023.toInt = 0 := gj_eq hc222025 (show Int32.toInt 0 = 0 by decide)
                                have bo222023' : gB o222023 0 0 := ⟨by omega, by omega⟩
                                refine G_aload 0 dr_cX17_weigh_167 rfl ?_
                                refine Gw_callV (As := []) (gV_ok D I) (cp_1693_Row_usesB l hl0 D I P158835 F221962 q221180 p221999 p222000 p222001 p222002 p222003 p222004 p222005 hm221997 he221998 bp221999 bp222000 bp222003 bp222004 bp222005) dr_cX17_weigh_169 ⟨wr_10_196, wr_1_39, wr_10_199, by decide, rfl, (Nat.le_of_ble_eq_true rfl), (Nat.le_of_ble_eq_true rfl)⟩ wr_10_197 wr_10_198 hm221997 he221998 rfl (show 0 + 0 ≤ 0 by first | omega | decide) (show 0 + 0 ≤ 0 by first | omega | decide) (Nat.le_of_ble_eq_true rfl) (fun r222030 w222031 dc222027 ds222028 hp222029 => ?_) (fun _ _ _ _ _ z => z.elim)
                                obtain ⟨o222032, rfl, rfl, hdc, hds, bo222032, x222033⟩ := hp222029
                                change G _ _ _ _ _ _ _ (.int o222032 :: _) _ _ _
                                refine G_widen (cs' := 0) (sl' := 0) (by omega) (by omega) ?_
                                refine G_if_eq 189 dr_cX17_weigh_172 (by decide +kernel) (fun hc222034 => ?_) (fun hc222034 => ?_)
                                · have r222035 : o222032.toInt = 0 := gj_eq hc222034 (show Int32.toInt 0 = 0 by decide)
                                  have bo222032' : gB o222032 0 0 := ⟨by omega, by omega⟩
                                  obtain ⟨z222036, hz222036⟩ : ∃ z : Int32, z = g221961 + Int32.ofInt 1 := ⟨_, rfl⟩
                                  have ez222036 : z222036.toInt = g221961.toInt + 1 := gI_inc hz222036 (by decide) bg221961' (by decide) (by decide)
                                  have bz222036 : gB z222036 1 1000001 := ⟨by omega, by omega⟩
                                  refine G_iinc (L' := [(5, .int z222036), (6, .ref q221180), (4, .ref q221170), (3, .int g221096), (2, .int g219424), (0, .ref q158837), (1, .ref q158838)]) z222036 1 dr_cX17_weigh_189 rfl hz222036.symm (Nat.le_of_ble_eq_true rfl) rfl ?_
                                  refine G_goto 74 dr_cX17_weigh_192 (by decide +kernel) ?_
                                  refine G_lv (L' := [(5, .int z222036), (4, .ref q221170), (3, .int g221096), (2, .int g219424), (0, .ref q158837), (1, .ref q158838)]) [0, 2, 3, 4, 5, 6] rfl ?_
                                  exact ih74_221964 F221962 z222036 (gB_w bz222036 (by decide) (by decide)) hT221963 hs221964 (by omega)
                                · have r222037 : o222032.toInt ≠ 0 := gj_neq hc222034 (show Int32.toInt 0 = 0 by decide)
                                  have bo222032' : gB o222032 1 1 := ⟨by omega, by omega⟩
                                  refine G_aload_n 5 dr_cX17_weigh_175 rfl ?_
                                  have hm222038 : q158837 ∈ P158835 := RS_m hT221963 htq158837 (by decide)
                                  obtain ⟨q222040, q222041, p222042, p222043, p222044, p222045, p222046, p222047, p222048, p222049, p222050, p222051, p222052, p222053, p222054, p222055, p222056, he222039, hB222083, ht222057, ht222058, ht222059, ht222060, ht222061, ht222062, ht222063, ht222064, ht222065, ht222066, ht222067, ht222068, ht222069, ht222070, ht222071, ht222072, ht222073, ht222074, ht222075, ht222076, ht222077, ht222078, ht222079, ht222080, hB222084⟩ := show rk_10 γ (F221962 q158837) from RS_o hT221963 htq158837
                                  refine Gp_get 5 hm222038 he222039 dr_cX17_weigh_176 (gk_X17 D I) (Nat.le_of_ble_eq_true rfl) wr_7_79 rfl ?_
                                  refine G_aload 0 dr_cX17_weigh_179 rfl ?_
                                  refine Gp_get 3 hm221997 he221998 dr_cX17_weigh_181 (gk_X15 D I) (Nat.le_of_ble_eq_true rfl) wr_9_190 rfl ?_
                                  refine G_dup2_11 dr_cX17_weigh_184 rfl rfl ?_
                                  have hm222085 : (γ 9 5) ∈ P158835 := RS_m hT221963 ht222064 (by decide)
                                  obtain ⟨f222087, he222086⟩ := show rk_17 I (F221962 (γ 9 5)) from RS_o hT221963 ht222064
                                  refine Gp_iald 0 hm222085 he222086 dr_cX17_weigh_185 rfl (gB_inr (by omega) (by omega)) (G_nam fun z222088 hz222088 => ?_)
                                  have bz222088 : gB z222088 (-2147483648) 2147483647 := gB_any z222088
                                  refine G_iload_n 3 dr_cX17_weigh_186 rfl ?_
                                  refine G_iadd dr_cX17_weigh_187 (G_nam fun z222089 hz222089 => ?_)
                                  have bz222089 : gB z222089 (-2147483648) 2147483647 := gB_any z222089
                                  refine Gp_iast 0 hm222085 he222086 dr_cX17_weigh_188 rfl (gB_inr (by omega) (by omega)) (fun F222090 e222091 n222092 => ?_)
                                  obtain ⟨f222093, hf222093⟩ : ∃ z, z = upd f222087 p222002.toNatClampNeg z222089 := ⟨_, rfl⟩
                                  rw [← hf222093] at e222091
                                  have he222094 : F222090 q158838 = .inr (18, [.ref q219433, .ref q219434, .int p219435, .int p219436]) := (n222092 q158838 (rn_oa he221967 he222086)).trans he221967
                                  have he222095 : F222090 q219433 = .inr (4, [.int p221153, .ref q221155, .int p221154]) := (n222092 q219433 (rn_oa he221968 he222086)).trans he221968
                                  have he222096 : F222090 q221155 = .inl (I (.object "java/lang/Object"), n221167, .inr (.inr (.inr (.inr f221168)))) := (n222092 q221155 (rn_ref_num he221969 he222086)).trans he221969
                                  have he222097 : F222090 q221170 = .inr (17, [.ref q221179, .ref q221180, .int p221181, .int p221182]) := (n222092 q221170 (rn_oa he221970 he222086)).trans he221970
                                  have he222098 : F222090 q221179 = .inr (4, [.int p221974, .ref q221976, .int p221975]) := (n222092 q221179 (rn_oa he221973 he222086)).trans he221973
                                  have he222099 : F222090 q221180 = .inr (20, [.int p221999, .int p222000, .int p222001, .int p222002, .int p222003, .int p222004, .int p222005]) := (n222092 q221180 (rn_oa he221998 he222086)).trans he221998
                                  have he222100 : F222090 q158837 = .inr (22, [.ref (γ 9 0), .ref (γ 9 1), .ref (γ 9 2), .ref (γ 9 3), .ref (γ 9 4), .ref (γ 9 5), .ref (γ 9 6), .ref (γ 9 7), .ref (γ 9 8), .int p222042, .int p222043, .int p222044, .int p222045, .int p222046, .int p222047, .ref (γ 9 15), .ref (γ 9 16), .ref (γ 9 17), .ref (γ 9 18), .ref (γ 9 19), .ref (γ 9 20), .ref (γ 9 21), .ref (γ 9 22), .int p222048, .int p222049, .int p222050, .int p222051, .int p222052, .ref q222040, .ref (γ 9 29), .int p222053, .ref (γ 9 31), .int p222054, .int p222055, .int p222056, .ref q222041]) := (n222092 q158837 (rn_oa he222039 he222086)).trans he222039
                                  have he222101 : F222090 (γ 9 5) = .inl (I .int, 2000, .inl f222093) := e222091
                                  have hs222102 : rStr γ F158836 F222090 := rStr_put hs221964 n222092 ht222064 (by decide)
                                  obtain ⟨z222103, hz222103⟩ : ∃ z : Int32, z = g221961 + Int32.ofInt 1 := ⟨_, rfl⟩
                                  have ez222103 : z222103.toInt = g221961.toInt + 1 := gI_inc hz222103 (by decide) bg221961' (by decide) (by decide)
                                  have bz222103 : gB z222103 1 1000001 := ⟨by omega, by omega⟩
                                  refine G_iinc (L' := [(5, .int z222103), (6, .ref q221180), (4, .ref q221170), (3, .int g221096), (2, .int g219424), (0, .ref q158837), (1, .ref q158838)]) z222103 1 dr_cX17_weigh_189 rfl hz222103.symm (Nat.le_of_ble_eq_true rfl) rfl ?_
                                  refine G_goto 74 dr_cX17_weigh_192 (by decide +kernel) ?_
                                  have hT222104 : RS D I P158835 F222090 γ el := RS_set hT221963 n222092 ht222064 (by decide) ⟨f222093, he222101⟩
                                  refine G_lv (L' := [(5, .int z222103), (4, .ref q221170), (3, .int g221096), (2, .int g219424), (0, .ref q158837), (1, .ref q158838)]) [0, 2, 3, 4, 5, 6] rfl ?_
                                  exact ih74_221964 F222090 z222103 (gB_w bz222103 (by decide) (by decide)) hT222104 hs222102 (by omega)
                              · have r222105 : o222023.toInt ≠ 0 := gj_neq hc222025 (show Int32.toInt 0 = 0 by decide)
                                have bo222023' : gB o222023 1 1 := ⟨by omega, by omega⟩
                                refine G_aload_n 5 dr_cX17_weigh_153 rfl ?_
                                have hm222106 : q158837 ∈ P158835 := RS_m hT221963 htq158837 (by decide)
                                obtain ⟨q222108, q222109, p222110, p222111, p222112, p222113, p222114, p222115, p222116, p222117, p222118, p222119, p222120, p222121, p222122, p222123, p222124, he222107, hB222151, ht222125, ht222126, ht222127, ht222128, ht222129, ht222130, ht222131, ht222132, ht222133, ht222134, ht222135, ht222136, ht222137, ht222138, ht222139, ht222140, ht222141, ht222142, ht222143, ht222144, ht222145, ht222146, ht222147, ht222148, hB222152⟩ := show rk_10 γ (F221962 q158837) from RS_o hT221963 htq158837
                                refine Gp_get 5 hm222106 he222107 dr_cX17_weigh_154 (gk_X17 D I) (Nat.le_of_ble_eq_true rfl) wr_7_79 rfl ?_
                                refine G_aload 0 dr_cX17_weigh_157 rfl ?_
                                refine Gp_get 2 hm221997 he221998 dr_cX17_weigh_159 (gk_X15 D I) (Nat.le_of_ble_eq_true rfl) wr_9_186 rfl ?_
                                refine G_dup2_11 dr_cX17_weigh_162 rfl rfl ?_
                                have hm222153 : (γ 9 5) ∈ P158835 := RS_m hT221963 ht222132 (by decide)
                                obtain ⟨f222155, he222154⟩ := show rk_17 I (F221962 (γ 9 5)) from RS_o hT221963 ht222132
                                refine Gp_iald 0 hm222153 he222154 dr_cX17_weigh_163 rfl (gB_inr (by omega) (by omega)) (G_nam fun z222156 hz222156 => ?_)
                                have bz222156 : gB z222156 (-2147483648) 2147483647 := gB_any z222156
                                refine G_iload_n 3 dr_cX17_weigh_164 rfl ?_
                                refine G_iadd dr_cX17_weigh_165 (G_nam fun z222157 hz222157 => ?_)
                                have bz222157 : gB z222157 (-2147483648) 2147483647 := gB_any z222157
                                refine Gp_iast 0 hm222153 he222154 dr_cX17_weigh_166 rfl (gB_inr (by omega) (by omega)) (fun F222158 e222159 n222160 => ?_)
                                obtain ⟨f222161, hf222161⟩ : ∃ z, z = upd f222155 p222001.toNatClampNeg z222157 := ⟨_, rfl⟩
                                rw [← hf222161] at e222159
                                have he222162 : F222158 q158838 = .inr (18, [.ref q219433, .ref q219434, .int p219435, .int p219436]) := (n222160 q158838 (rn_oa he221967 he222154)).trans he221967
                                have he222163 : F222158 q219433 = .inr (4, [.int p221153, .ref q221155, .int p221154]) := (n222160 q219433 (rn_oa he221968 he222154)).trans he221968
                                have he222164 : F222158 q221155 = .inl (I (.object "java/lang/Object"), n221167, .inr (.inr (.inr (.inr f221168)))) := (n222160 q221155 (rn_ref_num he221969 he222154)).trans he221969
                                have he222165 : F222158 q221170 = .inr (17, [.ref q221179, .ref q221180, .int p221181, .int p221182]) := (n222160 q221170 (rn_oa he221970 he222154)).trans he221970
                                have he222166 : F222158 q221179 = .inr (4, [.int p221974, .ref q221976, .int p221975]) := (n222160 q221179 (rn_oa he221973 he222154)).trans he221973
                                have he222167 : F222158 q221180 = .inr (20, [.int p221999, .int p222000, .int p222001, .int p222002, .int p222003, .int p222004, .int p222005]) := (n222160 q221180 (rn_oa he221998 he222154)).trans he221998
                                have he222168 : F222158 q158837 = .inr (22, [.ref (γ 9 0), .ref (γ 9 1), .ref (γ 9 2), .ref (γ 9 3), .ref (γ 9 4), .ref (γ 9 5), .ref (γ 9 6), .ref (γ 9 7), .ref (γ 9 8), .int p222110, .int p222111, .int p222112, .int p222113, .int p222114, .int p222115, .ref (γ 9 15), .ref (γ 9 16), .ref (γ 9 17), .ref (γ 9 18), .ref (γ 9 19), .ref (γ 9 20), .ref (γ 9 21), .ref (γ 9 22), .int p222116, .int p222117, .int p222118, .int p222119, .int p222120, .ref q222108, .ref (γ 9 29), .int p222121, .ref (γ 9 31), .int p222122, .int p222123, .int p222124, .ref q222109]) := (n222160 q158837 (rn_oa he222107 he222154)).trans he222107
                                have he222169 : F222158 (γ 9 5) = .inl (I .int, 2000, .inl f222161) := e222159
                                have hs222170 : rStr γ F158836 F222158 := rStr_put hs221964 n222160 ht222132 (by decide)
                                refine G_aload 0 dr_cX17_weigh_167 rfl ?_
                                have hT222171 : RS D I P158835 F222158 γ el := RS_set hT221963 n222160 ht222132 (by decide) ⟨f222161, he222169⟩
                                refine Gw_callV (As := []) (gV_ok D I) (cp_1693_Row_usesB l hl0 D I P158835 F222158 q221180 p221999 p222000 p222001 p222002 p222003 p222004 p222005 hm221997 he222167 bp221999 bp222000 bp222003 bp222004 bp222005) dr_cX17_weigh_169 ⟨wr_10_196, wr_1_39, wr_10_199, by decide, rfl, (Nat.le_of_ble_eq_true rfl), (Nat.le_of_ble_eq_true rfl)⟩ wr_10_197 wr_10_198 hm221997 he222167 rfl (show 0 + 0 ≤ 0 by first | omega | decide) (show 0 + 0 ≤ 0 by first | omega | decide) (Nat.le_of_ble_eq_true rfl) (fun r222175 w222176 dc222172 ds222173 hp222174 => ?_) (fun _ _ _ _ _ z => z.elim)
                                obtain ⟨o222177, rfl, rfl, hdc, hds, bo222177, x222178⟩ := hp222174
                                change G _ _ _ _ _ _ _ (.int o222177 :: _) _ _ _
                                refine G_widen (cs' := 0) (sl' := 0) (by omega) (by omega) ?_
                                refine G_if_eq 189 dr_cX17_weigh_172 (by decide +kernel) (fun hc222179 => ?_) (fun hc222179 => ?_)
                                · have r222180 : o222177.toInt = 0 := gj_eq hc222179 (show Int32.toInt 0 = 0 by decide)
                                  have bo222177' : gB o222177 0 0 := ⟨by omega, by omega⟩
                                  obtain ⟨z222181, hz222181⟩ : ∃ z : Int32, z = g221961 + Int32.ofInt 1 := ⟨_, rfl⟩
                                  have ez222181 : z222181.toInt = g221961.toInt + 1 := gI_inc hz222181 (by decide) bg221961' (by decide) (by decide)
                                  have bz222181 : gB z222181 1 1000001 := ⟨by omega, by omega⟩
                                  refine G_iinc (L' := [(5, .int z222181), (6, .ref q221180), (4, .ref q221170), (3, .int g221096), (2, .int g219424), (0, .ref q158837), (1, .ref q158838)]) z222181 1 dr_cX17_weigh_189 rfl hz222181.symm (Nat.le_of_ble_eq_true rfl) rfl ?_
                                  refine G_goto 74 dr_cX17_weigh_192 (by decide +kernel) ?_
                                  refine G_lv (L' := [(5, .int z222181), (4, .ref q221170), (3, .int g221096), (2, .int g219424), (0, .ref q158837), (1, .ref q158838)]) [0, 2, 3, 4, 5, 6] rfl ?_
                                  exact ih74_221964 F222158 z222181 (gB_w bz222181 (by decide) (by decide)) hT222171 hs222170 (by omega)
                                · have r222182 : o222177.toInt ≠ 0 := gj_neq hc222179 (show Int32.toInt 0 = 0 by decide)
                                  have bo222177' : gB o222177 1 1 := ⟨by omega, by omega⟩
                                  refine G_aload_n 5 dr_cX17_weigh_175 rfl ?_
                                  refine Gp_get 5 hm222106 he222168 dr_cX17_weigh_176 (gk_X17 D I) (Nat.le_of_ble_eq_true rfl) wr_7_79 rfl ?_
                                  refine G_aload 0 dr_cX17_weigh_179 rfl ?_
                                  refine Gp_get 3 hm221997 he222167 dr_cX17_weigh_181 (gk_X15 D I) (Nat.le_of_ble_eq_true rfl) wr_9_190 rfl ?_
                                  refine G_dup2_11 dr_cX17_weigh_184 rfl rfl ?_
                                  refine Gp_iald 0 hm222153 he222169 dr_cX17_weigh_185 rfl (gB_inr (by omega) (by omega)) (G_nam fun z222183 hz222183 => ?_)
                                  have bz222183 : gB z222183 (-2147483648) 2147483647 := gB_any z222183
                                  refine G_iload_n 3 dr_cX17_weigh_186 rfl ?_
                                  refine G_iadd dr_cX17_weigh_187 (G_nam fun z222184 hz222184 => ?_)
                                  have bz222184 : gB z222184 (-2147483648) 2147483647 := gB_any z222184
                                  refine Gp_iast 0 hm222153 he222169 dr_cX17_weigh_188 rfl (gB_inr (by omega) (by omega)) (fun F222185 e222186 n222187 => ?_)
                                  obtain ⟨f222188, hf222188⟩ : ∃ z, z = upd f222161 p222002.toNatClampNeg z222184 := ⟨_, rfl⟩
                                  rw [← hf222188] at e222186
                                  have he222189 : F222185 q158838 = .inr (18, [.ref q219433, .ref q219434, .int p219435, .int p219436]) := (n222187 q158838 (rn_oa he222162 he222169)).trans he222162
                                  have he222190 : F222185 q219433 = .inr (4, [.int p221153, .ref q221155, .int p221154]) := (n222187 q219433 (rn_oa he222163 he222169)).trans he222163
                                  have he222191 : F222185 q221155 = .inl (I (.object "java/lang/Object"), n221167, .inr (.inr (.inr (.inr f221168)))) := (n222187 q221155 (rn_ref_num he222164 he222169)).trans he222164
                                  have he222192 : F222185 q221170 = .inr (17, [.ref q221179, .ref q221180, .int p221181, .int p221182]) := (n222187 q221170 (rn_oa he222165 he222169)).trans he222165
                                  have he222193 : F222185 q221179 = .inr (4, [.int p221974, .ref q221976, .int p221975]) := (n222187 q221179 (rn_oa he222166 he222169)).trans he222166
                                  have he222194 : F222185 q221180 = .inr (20, [.int p221999, .int p222000, .int p222001, .int p222002, .int p222003, .int p222004, .int p222005]) := (n222187 q221180 (rn_oa he222167 he222169)).trans he222167
                                  have he222195 : F222185 q158837 = .inr (22, [.ref (γ 9 0), .ref (γ 9 1), .ref (γ 9 2), .ref (γ 9 3), .ref (γ 9 4), .ref (γ 9 5), .ref (γ 9 6), .ref (γ 9 7), .ref (γ 9 8), .int p222110, .int p222111, .int p222112, .int p222113, .int p222114, .int p222115, .ref (γ 9 15), .ref (γ 9 16), .ref (γ 9 17), .ref (γ 9 18), .ref (γ 9 19), .ref (γ 9 20), .ref (γ 9 21), .ref (γ 9 22), .int p222116, .int p222117, .int p222118, .int p222119, .int p222120, .ref q222108, .ref (γ 9 29), .int p222121, .ref (γ 9 31), .int p222122, .int p222123, .int p222124, .ref q222109]) := (n222187 q158837 (rn_oa he222168 he222169)).trans he222168
                                  have he222196 : F222185 (γ 9 5) = .inl (I .int, 2000, .inl f222188) := e222186
                                  have hs222197 : rStr γ F158836 F222185 := rStr_put hs222170 n222187 ht222132 (by decide)
                                  obtain ⟨z222198, hz222198⟩ : ∃ z : Int32, z = g221961 + Int32.ofInt 1 := ⟨_, rfl⟩
                                  have ez222198 : z222198.toInt = g221961.toInt + 1 := gI_inc hz222198 (by decide) bg221961' (by decide) (by decide)
                                  have bz222198 : gB z222198 1 1000001 := ⟨by omega, by omega⟩
                                  refine G_iinc (L' := [(5, .int z222198), (6, .ref q221180), (4, .ref q221170), (3, .int g221096), (2, .int g219424), (0, .ref q158837), (1, .ref q158838)]) z222198 1 dr_cX17_weigh_189 rfl hz222198.symm (Nat.le_of_ble_eq_true rfl) rfl ?_
                                  refine G_goto 74 dr_cX17_weigh_192 (by decide +kernel) ?_
                                  have hT222199 : RS D I P158835 F222185 γ el := RS_set hT222171 n222187 ht222132 (by decide) ⟨f222188, he222196⟩
                                  refine G_lv (L' := [(5, .int z222198), (4, .ref q221170), (3, .int g221096), (2, .int g219424), (0, .ref q158837), (1, .ref q158838)]) [0, 2, 3, 4, 5, 6] rfl ?_
                                  exact ih74_221964 F222185 z222198 (gB_w bz222198 (by decide) (by decide)) hT222199 hs222197 (by omega)
                            · have r222200 : o222015.toInt ≠ 0 := gj_neq hc222016 (show Int32.toInt 0 = 0 by decide)
                              have bo222015' : gB o222015 1 1 := ⟨by omega, by omega⟩
                              refine G_aload_n 5 dr_cX17_weigh_131 rfl ?_
                              have hm222201 : q158837 ∈ P158835 := RS_m hT221963 htq158837 (by decide)
                              obtain ⟨q222203, q222204, p222205, p222206, p222207, p222208, p222209, p222210, p222211, p222212, p222213, p222214, p222215, p222216, p222217, p222218, p222219, he222202, hB222246, ht222220, ht222221, ht222222, ht222223, ht222224, ht222225, ht222226, ht222227, ht222228, ht222229, ht222230, ht222231, ht222232, ht222233, ht222234, ht222235, ht222236, ht222237, ht222238, ht222239, ht222240, ht222241, ht222242, ht222243, hB222247⟩ := show rk_10 γ (F221962 q158837) from RS_o hT221963 htq158837
                              refine Gp_get 5 hm222201 he222202 dr_cX17_weigh_132 (gk_X17 D I) (Nat.le_of_ble_eq_true rfl) wr_7_79 rfl ?_
                              refine G_aload 0 dr_cX17_weigh_135 rfl ?_
                              refine Gp_get 1 hm221997 he221998 dr_cX17_weigh_137 (gk_X15 D I) (Nat.le_of_ble_eq_true rfl) wr_9_182 rfl ?_
                              refine G_dup2_11 dr_cX17_weigh_140 rfl rfl ?_
                              have hm222248 : (γ 9 5) ∈ P158835 := RS_m hT221963 ht222227 (by decide)
                              obtain ⟨f222250, he222249⟩ := show rk_17 I (F221962 (γ 9 5)) from RS_o hT221963 ht222227
                              refine Gp_iald 0 hm222248 he222249 dr_cX17_weigh_141 rfl (gB_in bp222000 (by decide) (by decide)) (G_nam fun z222251 hz222251 => ?_)
                              have bz222251 : gB z222251 (-2147483648) 2147483647 := gB_any z222251
                              refine G_iload_n 3 dr_cX17_weigh_142 rfl ?_
                              refine G_iadd dr_cX17_weigh_143 (G_nam fun z222252 hz222252 => ?_)
                              have bz222252 : gB z222252 (-2147483648) 2147483647 := gB_any z222252
                              refine Gp_iast 0 hm222248 he222249 dr_cX17_weigh_144 rfl (gB_in bp222000 (by decide) (by decide)) (fun F222253 e222254 n222255 => ?_)
                              obtain ⟨f222256, hf222256⟩ : ∃ z, z = upd f222250 p222000.toNatClampNeg z222252 := ⟨_, rfl⟩
                              rw [← hf222256] at e222254
                              have he222257 : F222253 q158838 = .inr (18, [.ref q219433, .ref q219434, .int p219435, .int p219436]) := (n222255 q158838 (rn_oa he221967 he222249)).trans he221967
                              have he222258 : F222253 q219433 = .inr (4, [.int p221153, .ref q221155, .int p221154]) := (n222255 q219433 (rn_oa he221968 he222249)).trans he221968
                              have he222259 : F222253 q221155 = .inl (I (.object "java/lang/Object"), n221167, .inr (.inr (.inr (.inr f221168)))) := (n222255 q221155 (rn_ref_num he221969 he222249)).trans he221969
                              have he222260 : F222253 q221170 = .inr (17, [.ref q221179, .ref q221180, .int p221181, .int p221182]) := (n222255 q221170 (rn_oa he221970 he222249)).trans he221970
                              have he222261 : F222253 q221179 = .inr (4, [.int p221974, .ref q221976, .int p221975]) := (n222255 q221179 (rn_oa he221973 he222249)).trans he221973
                              have he222262 : F222253 q221180 = .inr (20, [.int p221999, .int p222000, .int p222001, .int p222002, .int p222003, .int p222004, .int p222005]) := (n222255 q221180 (rn_oa he221998 he222249)).trans he221998
                              have he222263 : F222253 q158837 = .inr (22, [.ref (γ 9 0), .ref (γ 9 1), .ref (γ 9 2), .ref (γ 9 3), .ref (γ 9 4), .ref (γ 9 5), .ref (γ 9 6), .ref (γ 9 7), .ref (γ 9 8), .int p222205, .int p222206, .int p222207, .int p222208, .int p222209, .int p222210, .ref (γ 9 15), .ref (γ 9 16), .ref (γ 9 17), .ref (γ 9 18), .ref (γ 9 19), .ref (γ 9 20), .ref (γ 9 21), .ref (γ 9 22), .int p222211, .int p222212, .int p222213, .int p222214, .int p222215, .ref q222203, .ref (γ 9 29), .int p222216, .ref (γ 9 31), .int p222217, .int p222218, .int p222219, .ref q222204]) := (n222255 q158837 (rn_oa he222202 he222249)).trans he222202
                              have he222264 : F222253 (γ 9 5) = .inl (I .int, 2000, .inl f222256) := e222254
                              have hs222265 : rStr γ F158836 F222253 := rStr_put hs221964 n222255 ht222227 (by decide)
                              refine G_aload 0 dr_cX17_weigh_145 rfl ?_
                              have hT222266 : RS D I P158835 F222253 γ el := RS_set hT221963 n222255 ht222227 (by decide) ⟨f222256, he222264⟩
                              refine Gw_callV (As := []) (gV_ok D I) (cp_1669_Row_usesA l hl0 D I P158835 F222253 q221180 p221999 p222000 p222001 p222002 p222003 p222004 p222005 hm221997 he222262 bp221999 bp222000 bp222003 bp222004 bp222005) dr_cX17_weigh_147 ⟨wr_10_192, wr_1_39, wr_10_195, by decide, rfl, (Nat.le_of_ble_eq_true rfl), (Nat.le_of_ble_eq_true rfl)⟩ wr_10_193 wr_10_194 hm221997 he222262 rfl (show 0 + 0 ≤ 0 by first | omega | decide) (show 0 + 0 ≤ 0 by first | omega | decide) (Nat.le_of_ble_eq_true rfl) (fun r222270 w222271 dc222267 ds222268 hp222269 => ?_) (fun _ _ _ _ _ z => z.elim)
                              obtain ⟨o222272, rfl, rfl, hdc, hds, bo222272, x222273⟩ := hp222269
                              change G _ _ _ _ _ _ _ (.int o222272 :: _) _ _ _
                              refine G_widen (cs' := 0) (sl' := 0) (by omega) (by omega) ?_
                              refine G_if_eq 167 dr_cX17_weigh_150 (by decide +kernel) (fun hc222274 => ?_) (fun hc222274 => ?_)
                              · have r222275 : o222272.toInt = 0 := gj_eq hc222274 (show Int32.toInt 0 = 0 by decide)
                                have bo222272' : gB o222272 0 0 := ⟨by omega, by omega⟩
                                refine G_aload 0 dr_cX17_weigh_167 rfl ?_
                                refine Gw_callV (As := []) (gV_ok D I) (cp_1693_Row_usesB l hl0 D I P158835 F222253 q221180 p221999 p222000 p222001 p222002 p222003 p222004 p222005 hm221997 he222262 bp221999 bp222000 bp222003 bp222004 bp222005) dr_cX17_weigh_169 ⟨wr_10_196, wr_1_39, wr_10_199, by decide, rfl, (Nat.le_of_ble_eq_true rfl), (Nat.le_of_ble_eq_true rfl)⟩ wr_10_197 wr_10_198 hm221997 he222262 rfl (show 0 + 0 ≤ 0 by first | omega | decide) (show 0 + 0 ≤ 0 by first | omega | decide) (Nat.le_of_ble_eq_true rfl) (fun r222279 w222280 dc222276 ds222277 hp222278 => ?_) (fun _ _ _ _ _ z => z.elim)
                                obtain ⟨o222281, rfl, rfl, hdc, hds, bo222281, x222282⟩ := hp222278
                                change G _ _ _ _ _ _ _ (.int o222281 :: _) _ _ _
                                refine G_widen (cs' := 0) (sl' := 0) (by omega) (by omega) ?_
                                refine G_if_eq 189 dr_cX17_weigh_172 (by decide +kernel) (fun hc222283 => ?_) (fun hc222283 => ?_)
                                · have r222284 : o222281.toInt = 0 := gj_eq hc222283 (show Int32.toInt 0 = 0 by decide)
                                  have bo222281' : gB o222281 0 0 := ⟨by omega, by omega⟩
                                  obtain ⟨z222285, hz222285⟩ : ∃ z : Int32, z = g221961 + Int32.ofInt 1 := ⟨_, rfl⟩
                                  have ez222285 : z222285.toInt = g221961.toInt + 1 := gI_inc hz222285 (by decide) bg221961' (by decide) (by decide)
                                  have bz222285 : gB z222285 1 1000001 := ⟨by omega, by omega⟩
                                  refine G_iinc (L' := [(5, .int z222285), (6, .ref q221180), (4, .ref q221170), (3, .int g221096), (2, .int g219424), (0, .ref q158837), (1, .ref q158838)]) z222285 1 dr_cX17_weigh_189 rfl hz222285.symm (Nat.le_of_ble_eq_true rfl) rfl ?_
                                  refine G_goto 74 dr_cX17_weigh_192 (by decide +kernel) ?_
                                  refine G_lv (L' := [(5, .int z222285), (4, .ref q221170), (3, .int g221096), (2, .int g219424), (0, .ref q158837), (1, .ref q158838)]) [0, 2, 3, 4, 5, 6] rfl ?_
                                  exact ih74_221964 F222253 z222285 (gB_w bz222285 (by decide) (by decide)) hT222266 hs222265 (by omega)
                                · have r222286 : o222281.toInt ≠ 0 := gj_neq hc222283 (show Int32.toInt 0 = 0 by decide)
                                  have bo222281' : gB o222281 1 1 := ⟨by omega, by omega⟩
                                  refine G_aload_n 5 dr_cX17_weigh_175 rfl ?_
                                  refine Gp_get 5 hm222201 he222263 dr_cX17_weigh_176 (gk_X17 D I) (Nat.le_of_ble_eq_true rfl) wr_7_79 rfl ?_
                                  refine G_aload 0 dr_cX17_weigh_179 rfl ?_
                                  refine Gp_get 3 hm221997 he222262 dr_cX17_weigh_181 (gk_X15 D I) (Nat.le_of_ble_eq_true rfl) wr_9_190 rfl ?_
                                  refine G_dup2_11 dr_cX17_weigh_184 rfl rfl ?_
                                  refine Gp_iald 0 hm222248 he222264 dr_cX17_weigh_185 rfl (gB_inr (by omega) (by omega)) (G_nam fun z222287 hz222287 => ?_)
                                  have bz222287 : gB z222287 (-2147483648) 2147483647 := gB_any z222287
                                  refine G_iload_n 3 dr_cX17_weigh_186 rfl ?_
                                  refine G_iadd dr_cX17_weigh_187 (G_nam fun z222288 hz222288 => ?_)
                                  have bz222288 : gB z222288 (-2147483648) 2147483647 := gB_any z222288
                                  refine Gp_iast 0 hm222248 he222264 dr_cX17_weigh_188 rfl (gB_inr (by omega) (by omega)) (fun F222289 e222290 n222291 => ?_)
                                  obtain ⟨f222292, hf222292⟩ : ∃ z, z = upd f222256 p222002.toNatClampNeg z222288 := ⟨_, rfl⟩
                                  rw [← hf222292] at e222290
                                  have he222293 : F222289 q158838 = .inr (18, [.ref q219433, .ref q219434, .int p219435, .int p219436]) := (n222291 q158838 (rn_oa he222257 he222264)).trans he222257
                                  have he222294 : F222289 q219433 = .inr (4, [.int p221153, .ref q221155, .int p221154]) := (n222291 q219433 (rn_oa he222258 he222264)).trans he222258
                                  have he222295 : F222289 q221155 = .inl (I (.object "java/lang/Object"), n221167, .inr (.inr (.inr (.inr f221168)))) := (n222291 q221155 (rn_ref_num he222259 he222264)).trans he222259
                                  have he222296 : F222289 q221170 = .inr (17, [.ref q221179, .ref q221180, .int p221181, .int p221182]) := (n222291 q221170 (rn_oa he222260 he222264)).trans he222260
                                  have he222297 : F222289 q221179 = .inr (4, [.int p221974, .ref q221976, .int p221975]) := (n222291 q221179 (rn_oa he222261 he222264)).trans he222261
                                  have he222298 : F222289 q221180 = .inr (20, [.int p221999, .int p222000, .int p222001, .int p222002, .int p222003, .int p222004, .int p222005]) := (n222291 q221180 (rn_oa he222262 he222264)).trans he222262
                                  have he222299 : F222289 q158837 = .inr (22, [.ref (γ 9 0), .ref (γ 9 1), .ref (γ 9 2), .ref (γ 9 3), .ref (γ 9 4), .ref (γ 9 5), .ref (γ 9 6), .ref (γ 9 7), .ref (γ 9 8), .int p222205, .int p222206, .int p222207, .int p222208, .int p222209, .int p222210, .ref (γ 9 15), .ref (γ 9 16), .ref (γ 9 17), .ref (γ 9 18), .ref (γ 9 19), .ref (γ 9 20), .ref (γ 9 21), .ref (γ 9 22), .int p222211, .int p222212, .int p222213, .int p222214, .int p222215, .ref q222203, .ref (γ 9 29), .int p222216, .ref (γ 9 31), .int p222217, .int p222218, .int p222219, .ref q222204]) := (n222291 q158837 (rn_oa he222263 he222264)).trans he222263
                                  have he222300 : F222289 (γ 9 5) = .inl (I .int, 2000, .inl f222292) := e222290
                                  have hs222301 : rStr γ F158836 F222289 := rStr_put hs222265 n222291 ht222227 (by decide)
                                  obtain ⟨z222302, hz222302⟩ : ∃ z : Int32, z = g221961 + Int32.ofInt 1 := ⟨_, rfl⟩
                                  have ez222302 : z222302.toInt = g221961.toInt + 1 := gI_inc hz222302 (by decide) bg221961' (by decide) (by decide)
                                  have bz222302 : gB z222302 1 1000001 := ⟨by omega, by omega⟩
                                  refine G_iinc (L' := [(5, .int z222302), (6, .ref q221180), (4, .ref q221170), (3, .int g221096), (2, .int g219424), (0, .ref q158837), (1, .ref q158838)]) z222302 1 dr_cX17_weigh_189 rfl hz222302.symm (Nat.le_of_ble_eq_true rfl) rfl ?_
                                  refine G_goto 74 dr_cX17_weigh_192 (by decide +kernel) ?_
                                  have hT222303 : RS D I P158835 F222289 γ el := RS_set hT222266 n222291 ht222227 (by decide) ⟨f222292, he222300⟩
                                  refine G_lv (L' := [(5, .int z222302), (4, .ref q221170), (3, .int g221096), (2, .int g219424), (0, .ref q158837), (1, .ref q158838)]) [0, 2, 3, 4, 5, 6] rfl ?_
                                  exact ih74_221964 F222289 z222302 (gB_w bz222302 (by decide) (by decide)) hT222303 hs222301 (by omega)
                              · have r222304 : o222272.toInt ≠ 0 := gj_neq hc222274 (show Int32.toInt 0 = 0 by decide)
                                have bo222272' : gB o222272 1 1 := ⟨by omega, by omega⟩
                                refine G_aload_n 5 dr_cX17_weigh_153 rfl ?_
                                refine Gp_get 5 hm222201 he222263 dr_cX17_weigh_154 (gk_X17 D I) (Nat.le_of_ble_eq_true rfl) wr_7_79 rfl ?_
                                refine G_aload 0 dr_cX17_weigh_157 rfl ?_
                                refine Gp_get 2 hm221997 he222262 dr_cX17_weigh_159 (gk_X15 D I) (Nat.le_of_ble_eq_true rfl) wr_9_186 rfl ?_
                                refine G_dup2_11 dr_cX17_weigh_162 rfl rfl ?_
                                refine Gp_iald 0 hm222248 he222264 dr_cX17_weigh_163 rfl (gB_inr (by omega) (by omega)) (G_nam fun z222305 hz222305 => ?_)
                                have bz222305 : gB z222305 (-2147483648) 2147483647 := gB_any z222305
                                refine G_iload_n 3 dr_cX17_weigh_164 rfl ?_
                                refine G_iadd dr_cX17_weigh_165 (G_nam fun z222306 hz222306 => ?_)
                                have bz222306 : gB z222306 (-2147483648) 2147483647 := gB_any z222306
                                refine Gp_iast 0 hm222248 he222264 dr_cX17_weigh_166 rfl (gB_inr (by omega) (by omega)) (fun F222307 e222308 n222309 => ?_)
                                obtain ⟨f222310, hf222310⟩ : ∃ z, z = upd f222256 p222001.toNatClampNeg z222306 := ⟨_, rfl⟩
                                rw [← hf222310] at e222308
                                have he222311 : F222307 q158838 = .inr (18, [.ref q219433, .ref q219434, .int p219435, .int p219436]) := (n222309 q158838 (rn_oa he222257 he222264)).trans he222257
                                have he222312 : F222307 q219433 = .inr (4, [.int p221153, .ref q221155, .int p221154]) := (n222309 q219433 (rn_oa he222258 he222264)).trans he222258
                                have he222313 : F222307 q221155 = .inl (I (.object "java/lang/Object"), n221167, .inr (.inr (.inr (.inr f221168)))) := (n222309 q221155 (rn_ref_num he222259 he222264)).trans he222259
                                have he222314 : F222307 q221170 = .inr (17, [.ref q221179, .ref q221180, .int p221181, .int p221182]) := (n222309 q221170 (rn_oa he222260 he222264)).trans he222260
                                have he222315 : F222307 q221179 = .inr (4, [.int p221974, .ref q221976, .int p221975]) := (n222309 q221179 (rn_oa he222261 he222264)).trans he222261
                                have he222316 : F222307 q221180 = .inr (20, [.int p221999, .int p222000, .int p222001, .int p222002, .int p222003, .int p222004, .int p222005]) := (n222309 q221180 (rn_oa he222262 he222264)).trans he222262
                                have he222317 : F222307 q158837 = .inr (22, [.ref (γ 9 0), .ref (γ 9 1), .ref (γ 9 2), .ref (γ 9 3), .ref (γ 9 4), .ref (γ 9 5), .ref (γ 9 6), .ref (γ 9 7), .ref (γ 9 8), .int p222205, .int p222206, .int p222207, .int p222208, .int p222209, .int p222210, .ref (γ 9 15), .ref (γ 9 16), .ref (γ 9 17), .ref (γ 9 18), .ref (γ 9 19), .ref (γ 9 20), .ref (γ 9 21), .ref (γ 9 22), .int p222211, .int p222212, .int p222213, .int p222214, .int p222215, .ref q222203, .ref (γ 9 29), .int p222216, .ref (γ 9 31), .int p222217, .int p222218, .int p222219, .ref q222204]) := (n222309 q158837 (rn_oa he222263 he222264)).trans he222263
                                have he222318 : F222307 (γ 9 5) = .inl (I .int, 2000, .inl f222310) := e222308
                                have hs222319 : rStr γ F158836 F222307 := rStr_put hs222265 n222309 ht222227 (by decide)
                                refine G_aload 0 dr_cX17_weigh_167 rfl ?_
                                have hT222320 : RS D I P158835 F222307 γ el := RS_set hT222266 n222309 ht222227 (by decide) ⟨f222310, he222318⟩
                                refine Gw_callV (As := []) (gV_ok D I) (cp_1693_Row_usesB l hl0 D I P158835 F222307 q221180 p221999 p222000 p222001 p222002 p222003 p222004 p222005 hm221997 he222316 bp221999 bp222000 bp222003 bp222004 bp222005) dr_cX17_weigh_169 ⟨wr_10_196, wr_1_39, wr_10_199, by decide, rfl, (Nat.le_of_ble_eq_true rfl), (Nat.le_of_ble_eq_true rfl)⟩ wr_10_197 wr_10_198 hm221997 he222316 rfl (show 0 + 0 ≤ 0 by first | omega | decide) (show 0 + 0 ≤ 0 by first | omega | decide) (Nat.le_of_ble_eq_true rfl) (fun r222324 w222325 dc222321 ds222322 hp222323 => ?_) (fun _ _ _ _ _ z => z.elim)
                                obtain ⟨o222326, rfl, rfl, hdc, hds, bo222326, x222327⟩ := hp222323
                                change G _ _ _ _ _ _ _ (.int o222326 :: _) _ _ _
                                refine G_widen (cs' := 0) (sl' := 0) (by omega) (by omega) ?_
                                refine G_if_eq 189 dr_cX17_weigh_172 (by decide +kernel) (fun hc222328 => ?_) (fun hc222328 => ?_)
                                · have r222329 : o222326.toInt = 0 := gj_eq hc222328 (show Int32.toInt 0 = 0 by decide)
                                  have bo222326' : gB o222326 0 0 := ⟨by omega, by omega⟩
                                  obtain ⟨z222330, hz222330⟩ : ∃ z : Int32, z = g221961 + Int32.ofInt 1 := ⟨_, rfl⟩
                                  have ez222330 : z222330.toInt = g221961.toInt + 1 := gI_inc hz222330 (by decide) bg221961' (by decide) (by decide)
                                  have bz222330 : gB z222330 1 1000001 := ⟨by omega, by omega⟩
                                  refine G_iinc (L' := [(5, .int z222330), (6, .ref q221180), (4, .ref q221170), (3, .int g221096), (2, .int g219424), (0, .ref q158837), (1, .ref q158838)]) z222330 1 dr_cX17_weigh_189 rfl hz222330.symm (Nat.le_of_ble_eq_true rfl) rfl ?_
                                  refine G_goto 74 dr_cX17_weigh_192 (by decide +kernel) ?_
                                  refine G_lv (L' := [(5, .int z222330), (4, .ref q221170), (3, .int g221096), (2, .int g219424), (0, .ref q158837), (1, .ref q158838)]) [0, 2, 3, 4, 5, 6] rfl ?_
                                  exact ih74_221964 F222307 z222330 (gB_w bz222330 (by decide) (by decide)) hT222320 hs222319 (by omega)
                                · have r222331 : o222326.toInt ≠ 0 := gj_neq hc222328 (show Int32.toInt 0 = 0 by decide)
                                  have bo222326' : gB o222326 1 1 := ⟨by omega, by omega⟩
                                  refine G_aload_n 5 dr_cX17_weigh_175 rfl ?_
                                  refine Gp_get 5 hm222201 he222317 dr_cX17_weigh_176 (gk_X17 D I) (Nat.le_of_ble_eq_true rfl) wr_7_79 rfl ?_
                                  refine G_aload 0 dr_cX17_weigh_179 rfl ?_
                                  refine Gp_get 3 hm221997 he222316 dr_cX17_weigh_181 (gk_X15 D I) (Nat.le_of_ble_eq_true rfl) wr_9_190 rfl ?_
                                  refine G_dup2_11 dr_cX17_weigh_184 rfl rfl ?_
                                  refine Gp_iald 0 hm222248 he222318 dr_cX17_weigh_185 rfl (gB_inr (by omega) (by omega)) (G_nam fun z222332 hz222332 => ?_)
                                  have bz222332 : gB z222332 (-2147483648) 2147483647 := gB_any z222332
                                  refine G_iload_n 3 dr_cX17_weigh_186 rfl ?_
                                  refine G_iadd dr_cX17_weigh_187 (G_nam fun z222333 hz222333 => ?_)
                                  have bz222333 : gB z222333 (-2147483648) 2147483647 := gB_any z222333
                                  refine Gp_iast 0 hm222248 he222318 dr_cX17_weigh_188 rfl (gB_inr (by omega) (by omega)) (fun F222334 e222335 n222336 => ?_)
                                  obtain ⟨f222337, hf222337⟩ : ∃ z, z = upd f222310 p222002.toNatClampNeg z222333 := ⟨_, rfl⟩
                                  rw [← hf222337] at e222335
                                  have he222338 : F222334 q158838 = .inr (18, [.ref q219433, .ref q219434, .int p219435, .int p219436]) := (n222336 q158838 (rn_oa he222311 he222318)).trans he222311
                                  have he222339 : F222334 q219433 = .inr (4, [.int p221153, .ref q221155, .int p221154]) := (n222336 q219433 (rn_oa he222312 he222318)).trans he222312
                                  have he222340 : F222334 q221155 = .inl (I (.object "java/lang/Object"), n221167, .inr (.inr (.inr (.inr f221168)))) := (n222336 q221155 (rn_ref_num he222313 he222318)).trans he222313
                                  have he222341 : F222334 q221170 = .inr (17, [.ref q221179, .ref q221180, .int p221181, .int p221182]) := (n222336 q221170 (rn_oa he222314 he222318)).trans he222314
                                  have he222342 : F222334 q221179 = .inr (4, [.int p221974, .ref q221976, .int p221975]) := (n222336 q221179 (rn_oa he222315 he222318)).trans he222315
                                  have he222343 : F222334 q221180 = .inr (20, [.int p221999, .int p222000, .int p222001, .int p222002, .int p222003, .int p222004, .int p222005]) := (n222336 q221180 (rn_oa he222316 he222318)).trans he222316
                                  have he222344 : F222334 q158837 = .inr (22, [.ref (γ 9 0), .ref (γ 9 1), .ref (γ 9 2), .ref (γ 9 3), .ref (γ 9 4), .ref (γ 9 5), .ref (γ 9 6), .ref (γ 9 7), .ref (γ 9 8), .int p222205, .int p222206, .int p222207, .int p222208, .int p222209, .int p222210, .ref (γ 9 15), .ref (γ 9 16), .ref (γ 9 17), .ref (γ 9 18), .ref (γ 9 19), .ref (γ 9 20), .ref (γ 9 21), .ref (γ 9 22), .int p222211, .int p222212, .int p222213, .int p222214, .int p222215, .ref q222203, .ref (γ 9 29), .int p222216, .ref (γ 9 31), .int p222217, .int p222218, .int p222219, .ref q222204]) := (n222336 q158837 (rn_oa he222317 he222318)).trans he222317
                                  have he222345 : F222334 (γ 9 5) = .inl (I .int, 2000, .inl f222337) := e222335
                                  have hs222346 : rStr γ F158836 F222334 := rStr_put hs222319 n222336 ht222227 (by decide)
                                  obtain ⟨z222347, hz222347⟩ : ∃ z : Int32, z = g221961 + Int32.ofInt 1 := ⟨_, rfl⟩
                                  have ez222347 : z222347.toInt = g221961.toInt + 1 := gI_inc hz222347 (by decide) bg221961' (by decide) (by decide)
                                  have bz222347 : gB z222347 1 1000001 := ⟨by omega, by omega⟩
                                  refine G_iinc (L' := [(5, .int z222347), (6, .ref q221180), (4, .ref q221170), (3, .int g221096), (2, .int g219424), (0, .ref q158837), (1, .ref q158838)]) z222347 1 dr_cX17_weigh_189 rfl hz222347.symm (Nat.le_of_ble_eq_true rfl) rfl ?_
                                  refine G_goto 74 dr_cX17_weigh_192 (by decide +kernel) ?_
                                  have hT222348 : RS D I P158835 F222334 γ el := RS_set hT222320 n222336 ht222227 (by decide) ⟨f222337, he222345⟩
                                  refine G_lv (L' := [(5, .int z222347), (4, .ref q221170), (3, .int g221096), (2, .int g219424), (0, .ref q158837), (1, .ref q158838)]) [0, 2, 3, 4, 5, 6] rfl ?_
                                  exact ih74_221964 F222334 z222347 (gB_w bz222347 (by decide) (by decide)) hT222348 hs222346 (by omega)
                          · have r222349 : g221961.toInt < p221975.toInt := gC_nle hc221995
                            have bg221961'' : gB g221961 0 999999 := ⟨by omega, by omega⟩
                            have bp221975' : gB p221975 1 1000000 := ⟨by omega, by omega⟩
                            refine G_aload 1 dr_cX17_weigh_100 rfl ?_
                            refine Gp_get 0 hm221177 he221970 dr_cX17_weigh_102 (gk_X12 D I) (Nat.le_of_ble_eq_true rfl) wr_9_220 rfl ?_
                            refine G_iload 0 dr_cX17_weigh_105 rfl ?_
                            obtain ⟨r222350, r222351, n222357, f222358, r222352, r222353, r222354, r222355, r222356⟩ := rLC_n r221979 (by omega)
                            have hm222359 : q221976 ∈ P158835 := RS_m hT221963 r222350 (by decide)
                            obtain ⟨q222360, hx222361⟩ : ∃ x, x = el q221179 g221961.toInt.toNat := ⟨_, rfl⟩
                            have hx222362 : f222358 g221961.toNatClampNeg = some q222360 := (r222355 _ (show g221961.toInt.toNat < γ 2 q221179 by omega)).trans (by rw [hx222361])
                            have ht222363 : rKd γ q222360 1 := by rw [hx222361]; exact (r221980 _ (show g221961.toInt.toNat < γ 2 q221179 by omega)).1
                            have ht222364 : rFm γ q222360 q221179 := by rw [hx222361]; exact (r221980 _ (show g221961.toInt.toNat < γ 2 q221179 by omega)).2.1
                            refine Gw_callV (As := [.int g221961]) (gV_ok D I) (cp_22_ArrayList_get l hl0 D I P158835 F221962 q221179 q221976 g221961 p221974 p221975 f222358 n222357 q222360 hm221972 hm222359 he221973 r222352 (gB_w bg221961'' (by decide) (by decide)) (gB_w bp221975' (by decide) (by decide)) (by omega) (by omega) (by assumption) (by omega)) dr_cX17_weigh_107 ⟨wr_10_201, wr_1_18, wr_10_65, by decide, rfl, (Nat.le_of_ble_eq_true rfl), (Nat.le_of_ble_eq_true rfl)⟩ wr_10_63 wr_10_64 hm221972 he221973 rfl (show 0 + 0 ≤ 0 by first | omega | decide) (show 0 + 0 ≤ 0 by first | omega | decide) (Nat.le_of_ble_eq_true rfl) (fun r222368 w222369 dc222365 ds222366 hp222367 => ?_) (fun _ _ _ _ _ z => z.elim)
                            obtain ⟨rfl, rfl, hdc, hds⟩ := hp222367
                            change G _ _ _ _ _ _ _ (.ref q222360 :: _) _ _ _
                            refine G_widen (cs' := 0) (sl' := 0) (by omega) (by omega) ?_
                            have hm222370 : q222360 ∈ P158835 := RS_m hT221963 ht222363 (by decide)
                            obtain ⟨p222372, p222373, p222374, p222375, p222376, p222377, p222378, he222371, bp222372, bp222373, bp222376, bp222377, bp222378, r222379, r222380, r222381, r222382⟩ := show rk_1 γ q222360 (F221962 q222360) from RS_o hT221963 ht222363
                            have bp222374 := gB_any p222374
                            have bp222375 := gB_any p222375
                            refine Gp_cast hm222370 he222371 rfl dr_cX17_weigh_110 wr_10_202 (gr_cast 1 rfl) ?_
                            refine G_goto 121 dr_cX17_weigh_113 (by decide +kernel) ?_
                            refine G_astore (L' := [(6, .ref q222360), (5, .int g221961), (4, .ref q221170), (3, .int g221096), (2, .int g219424), (0, .ref q158837), (1, .ref q158838)]) dr_cX17_weigh_121 (Nat.le_of_ble_eq_true rfl) rfl ?_
                            refine G_aload 0 dr_cX17_weigh_123 rfl ?_
                            refine Gw_callV (As := []) (gV_ok D I) (cp_1654_Row_sets l hl0 D I P158835 F221962 q222360 p222372 p222373 p222374 p222375 p222376 p222377 p222378 hm222370 he222371 bp222372 bp222373 bp222376 bp222377 bp222378) dr_cX17_weigh_125 ⟨wr_10_181, wr_1_39, wr_10_184, by decide, rfl, (Nat.le_of_ble_eq_true rfl), (Nat.le_of_ble_eq_true rfl)⟩ wr_10_182 wr_10_183 hm222370 he222371 rfl (show 0 + 0 ≤ 0 by first | omega | decide) (show 0 + 0 ≤ 0 by first | omega | decide) (Nat.le_of_ble_eq_true rfl) (fun r222386 w222387 dc222383 ds222384 hp222385 => ?_) (fun _ _ _ _ _ z => z.elim)
                            obtain ⟨o222388, rfl, rfl, hdc, hds, bo222388⟩ := hp222385
                            change G _ _ _ _ _ _ _ (.int o222388 :: _) _ _ _
                            refine G_widen (cs' := 0) (sl' := 0) (by omega) (by omega) ?_
                            refine G_if_eq 145 dr_cX17_weigh_128 (by decide +kernel) (fun hc222389 => ?_) (fun hc222389 => ?_)
                            · have r222390 : o222388.toInt = 0 := gj_eq hc222389 (show Int32.toInt 0 = 0 by decide)
                              have bo222388' : gB o222388 0 0 := ⟨by omega, by omega⟩
                              refine G_aload 0 dr_cX17_weigh_145 rfl ?_
                              refine Gw_callV (As := []) (gV_ok D I) (cp_1669_Row_usesA l hl0 D I P158835 F221962 q222360 p222372 p222373 p222374 p222375 p222376 p222377 p222378 hm222370 he222371 bp222372 bp222373 bp222376 bp222377 bp222378) dr_cX17_weigh_147 ⟨wr_10_192, wr_1_39, wr_10_195, by decide, rfl, (Nat.le_of_ble_eq_true rfl), (Nat.le_of_ble_eq_true rfl)⟩ wr_10_193 wr_10_194 hm222370 he222371 rfl (show 0 + 0 ≤ 0 by first | omega | decide) (show 0 + 0 ≤ 0 by first | omega | decide) (Nat.le_of_ble_eq_true rfl) (fun r222394 w222395 dc222391 ds222392 hp222393 => ?_) (fun _ _ _ _ _ z => z.elim)
                              obtain ⟨o222396, rfl, rfl, hdc, hds, bo222396, x222397⟩ := hp222393
                              change G _ _ _ _ _ _ _ (.int o222396 :: _) _ _ _
                              refine G_widen (cs' := 0) (sl' := 0) (by omega) (by omega) ?_
                              refine G_if_eq 167 dr_cX17_weigh_150 (by decide +kernel) (fun hc222398 => ?_) (fun hc222398 => ?_)
                              · have r222399 : o222396.toInt = 0 := gj_eq hc222398 (show Int32.toInt 0 = 0 by decide)
                                have bo222396' : gB o222396 0 0 := ⟨by omega, by omega⟩
                                refine G_aload 0 dr_cX17_weigh_167 rfl ?_
                                refine Gw_callV (As := []) (gV_ok D I) (cp_1693_Row_usesB l hl0 D I P158835 F221962 q222360 p222372 p222373 p222374 p222375 p222376 p222377 p222378 hm222370 he222371 bp222372 bp222373 bp222376 bp222377 bp222378) dr_cX17_weigh_169 ⟨wr_10_196, wr_1_39, wr_10_199, by decide, rfl, (Nat.le_of_ble_eq_true rfl), (Nat.le_of_ble_eq_true rfl)⟩ wr_10_197 wr_10_198 hm222370 he222371 rfl (show 0 + 0 ≤ 0 by first | omega | decide) (show 0 + 0 ≤ 0 by first | omega | decide) (Nat.le_of_ble_eq_true rfl) (fun r222403 w222404 dc222400 ds222401 hp222402 => ?_) (fun _ _ _ _ _ z => z.elim)
                                obtain ⟨o222405, rfl, rfl, hdc, hds, bo222405, x222406⟩ := hp222402
                                change G _ _ _ _ _ _ _ (.int o222405 :: _) _ _ _
                                refine G_widen (cs' := 0) (sl' := 0) (by omega) (by omega) ?_
                                refine G_if_eq 189 dr_cX17_weigh_172 (by decide +kernel) (fun hc222407 => ?_) (fun hc222407 => ?_)
                                · have r222408 : o222405.toInt = 0 := gj_eq hc222407 (show Int32.toInt 0 = 0 by decide)
                                  have bo222405' : gB o222405 0 0 := ⟨by omega, by omega⟩
                                  obtain ⟨z222409, hz222409⟩ : ∃ z : Int32, z = g221961 + Int32.ofInt 1 := ⟨_, rfl⟩
                                  have ez222409 : z222409.toInt = g221961.toInt + 1 := gI_inc hz222409 (by decide) bg221961'' (by decide) (by decide)
                                  have bz222409 : gB z222409 1 1000000 := ⟨by omega, by omega⟩
                                  refine G_iinc (L' := [(5, .int z222409), (6, .ref q222360), (4, .ref q221170), (3, .int g221096), (2, .int g219424), (0, .ref q158837), (1, .ref q158838)]) z222409 1 dr_cX17_weigh_189 rfl hz222409.symm (Nat.le_of_ble_eq_true rfl) rfl ?_
                                  refine G_goto 74 dr_cX17_weigh_192 (by decide +kernel) ?_
                                  refine G_lv (L' := [(5, .int z222409), (4, .ref q221170), (3, .int g221096), (2, .int g219424), (0, .ref q158837), (1, .ref q158838)]) [0, 2, 3, 4, 5, 6] rfl ?_
                                  exact ih74_221964 F221962 z222409 (gB_w bz222409 (by decide) (by decide)) hT221963 hs221964 (by omega)
                                · have r222410 : o222405.toInt ≠ 0 := gj_neq hc222407 (show Int32.toInt 0 = 0 by decide)
                                  have bo222405' : gB o222405 1 1 := ⟨by omega, by omega⟩
                                  refine G_aload_n 5 dr_cX17_weigh_175 rfl ?_
                                  have hm222411 : q158837 ∈ P158835 := RS_m hT221963 htq158837 (by decide)
                                  obtain ⟨q222413, q222414, p222415, p222416, p222417, p222418, p222419, p222420, p222421, p222422, p222423, p222424, p222425, p222426, p222427, p222428, p222429, he222412, hB222456, ht222430, ht222431, ht222432, ht222433, ht222434, ht222435, ht222436, ht222437, ht222438, ht222439, ht222440, ht222441, ht222442, ht222443, ht222444, ht222445, ht222446, ht222447, ht222448, ht222449, ht222450, ht222451, ht222452, ht222453, hB222457⟩ := show rk_10 γ (F221962 q158837) from RS_o hT221963 htq158837
                                  refine Gp_get 5 hm222411 he222412 dr_cX17_weigh_176 (gk_X17 D I) (Nat.le_of_ble_eq_true rfl) wr_7_79 rfl ?_
                                  refine G_aload 0 dr_cX17_weigh_179 rfl ?_
                                  refine Gp_get 3 hm222370 he222371 dr_cX17_weigh_181 (gk_X15 D I) (Nat.le_of_ble_eq_true rfl) wr_9_190 rfl ?_
                                  refine G_dup2_11 dr_cX17_weigh_184 rfl rfl ?_
                                  have hm222458 : (γ 9 5) ∈ P158835 := RS_m hT221963 ht222437 (by decide)
                                  obtain ⟨f222460, he222459⟩ := show rk_17 I (F221962 (γ 9 5)) from RS_o hT221963 ht222437
                                  refine Gp_iald 0 hm222458 he222459 dr_cX17_weigh_185 rfl (gB_inr (by omega) (by omega)) (G_nam fun z222461 hz222461 => ?_)
                                  have bz222461 : gB z222461 (-2147483648) 2147483647 := gB_any z222461
                                  refine G_iload_n 3 dr_cX17_weigh_186 rfl ?_
                                  refine G_iadd dr_cX17_weigh_187 (G_nam fun z222462 hz222462 => ?_)
                                  have bz222462 : gB z222462 (-2147483648) 2147483647 := gB_any z222462
                                  refine Gp_iast 0 hm222458 he222459 dr_cX17_weigh_188 rfl (gB_inr (by omega) (by omega)) (fun F222463 e222464 n222465 => ?_)
                                  obtain ⟨f222466, hf222466⟩ : ∃ z, z = upd f222460 p222375.toNatClampNeg z222462 := ⟨_, rfl⟩
                                  rw [← hf222466] at e222464
                                  have he222467 : F222463 q158838 = .inr (18, [.ref q219433, .ref q219434, .int p219435, .int p219436]) := (n222465 q158838 (rn_oa he221967 he222459)).trans he221967
                                  have he222468 : F222463 q219433 = .inr (4, [.int p221153, .ref q221155, .int p221154]) := (n222465 q219433 (rn_oa he221968 he222459)).trans he221968
                                  have he222469 : F222463 q221155 = .inl (I (.object "java/lang/Object"), n221167, .inr (.inr (.inr (.inr f221168)))) := (n222465 q221155 (rn_ref_num he221969 he222459)).trans he221969
                                  have he222470 : F222463 q221170 = .inr (17, [.ref q221179, .ref q221180, .int p221181, .int p221182]) := (n222465 q221170 (rn_oa he221970 he222459)).trans he221970
                                  have he222471 : F222463 q221179 = .inr (4, [.int p221974, .ref q221976, .int p221975]) := (n222465 q221179 (rn_oa he221973 he222459)).trans he221973
                                  have he222472 : F222463 q221976 = .inl (I (.object "java/lang/Object"), n222357, .inr (.inr (.inr (.inr f222358)))) := (n222465 q221976 (rn_ref_num r222352 he222459)).trans r222352
                                  have he222473 : F222463 q222360 = .inr (20, [.int p222372, .int p222373, .int p222374, .int p222375, .int p222376, .int p222377, .int p222378]) := (n222465 q222360 (rn_oa he222371 he222459)).trans he222371
                                  have he222474 : F222463 q158837 = .inr (22, [.ref (γ 9 0), .ref (γ 9 1), .ref (γ 9 2), .ref (γ 9 3), .ref (γ 9 4), .ref (γ 9 5), .ref (γ 9 6), .ref (γ 9 7), .ref (γ 9 8), .int p222415, .int p222416, .int p222417, .int p222418, .int p222419, .int p222420, .ref (γ 9 15), .ref (γ 9 16), .ref (γ 9 17), .ref (γ 9 18), .ref (γ 9 19), .ref (γ 9 20), .ref (γ 9 21), .ref (γ 9 22), .int p222421, .int p222422, .int p222423, .int p222424, .int p222425, .ref q222413, .ref (γ 9 29), .int p222426, .ref (γ 9 31), .int p222427, .int p222428, .int p222429, .ref q222414]) := (n222465 q158837 (rn_oa he222412 he222459)).trans he222412
                                  have he222475 : F222463 (γ 9 5) = .inl (I .int, 2000, .inl f222466) := e222464
                                  have hs222476 : rStr γ F158836 F222463 := rStr_put hs221964 n222465 ht222437 (by decide)
                                  obtain ⟨z222477, hz222477⟩ : ∃ z : Int32, z = g221961 + Int32.ofInt 1 := ⟨_, rfl⟩
                                  have ez222477 : z222477.toInt = g221961.toInt + 1 := gI_inc hz222477 (by decide) bg221961'' (by decide) (by decide)
                                  have bz222477 : gB z222477 1 1000000 := ⟨by omega, by omega⟩
                                  refine G_iinc (L' := [(5, .int z222477), (6, .ref q222360), (4, .ref q221170), (3, .int g221096), (2, .int g219424), (0, .ref q158837), (1, .ref q158838)]) z222477 1 dr_cX17_weigh_189 rfl hz222477.symm (Nat.le_of_ble_eq_true rfl) rfl ?_
                                  refine G_goto 74 dr_cX17_weigh_192 (by decide +kernel) ?_
                                  have hT222478 : RS D I P158835 F222463 γ el := RS_set hT221963 n222465 ht222437 (by decide) ⟨f222466, he222475⟩
                                  refine G_lv (L' := [(5, .int z222477), (4, .ref q221170), (3, .int g221096), (2, .int g219424), (0, .ref q158837), (1, .ref q158838)]) [0, 2, 3, 4, 5, 6] rfl ?_
                                  exact ih74_221964 F222463 z222477 (gB_w bz222477 (by decide) (by decide)) hT222478 hs222476 (by omega)
                              · have r222479 : o222396.toInt ≠ 0 := gj_neq hc222398 (show Int32.toInt 0 = 0 by decide)
                                have bo222396' : gB o222396 1 1 := ⟨by omega, by omega⟩
                                refine G_aload_n 5 dr_cX17_weigh_153 rfl ?_
                                have hm222480 : q158837 ∈ P158835 := RS_m hT221963 htq158837 (by decide)
                                obtain ⟨q222482, q222483, p222484, p222485, p222486, p222487, p222488, p222489, p222490, p222491, p222492, p222493, p222494, p222495, p222496, p222497, p222498, he222481, hB222525, ht222499, ht222500, ht222501, ht222502, ht222503, ht222504, ht222505, ht222506, ht222507, ht222508, ht222509, ht222510, ht222511, ht222512, ht222513, ht222514, ht222515, ht222516, ht222517, ht222518, ht222519, ht222520, ht222521, ht222522, hB222526⟩ := show rk_10 γ (F221962 q158837) from RS_o hT221963 htq158837
                                refine Gp_get 5 hm222480 he222481 dr_cX17_weigh_154 (gk_X17 D I) (Nat.le_of_ble_eq_true rfl) wr_7_79 rfl ?_
                                refine G_aload 0 dr_cX17_weigh_157 rfl ?_
                                refine Gp_get 2 hm222370 he222371 dr_cX17_weigh_159 (gk_X15 D I) (Nat.le_of_ble_eq_true rfl) wr_9_186 rfl ?_
                                refine G_dup2_11 dr_cX17_weigh_162 rfl rfl ?_
                                have hm222527 : (γ 9 5) ∈ P158835 := RS_m hT221963 ht222506 (by decide)
                                obtain ⟨f222529, he222528⟩ := show rk_17 I (F221962 (γ 9 5)) from RS_o hT221963 ht222506
                                refine Gp_iald 0 hm222527 he222528 dr_cX17_weigh_163 rfl (gB_inr (by omega) (by omega)) (G_nam fun z222530 hz222530 => ?_)
                                have bz222530 : gB z222530 (-2147483648) 2147483647 := gB_any z222530
                                refine G_iload_n 3 dr_cX17_weigh_164 rfl ?_
                                refine G_iadd dr_cX17_weigh_165 (G_nam fun z222531 hz222531 => ?_)
                                have bz222531 : gB z222531 (-2147483648) 2147483647 := gB_any z222531
                                refine Gp_iast 0 hm222527 he222528 dr_cX17_weigh_166 rfl (gB_inr (by omega) (by omega)) (fun F222532 e222533 n222534 => ?_)
                                obtain ⟨f222535, hf222535⟩ : ∃ z, z = upd f222529 p222374.toNatClampNeg z222531 := ⟨_, rfl⟩
                                rw [← hf222535] at e222533
                                have he222536 : F222532 q158838 = .inr (18, [.ref q219433, .ref q219434, .int p219435, .int p219436]) := (n222534 q158838 (rn_oa he221967 he222528)).trans he221967
                                have he222537 : F222532 q219433 = .inr (4, [.int p221153, .ref q221155, .int p221154]) := (n222534 q219433 (rn_oa he221968 he222528)).trans he221968
                                have he222538 : F222532 q221155 = .inl (I (.object "java/lang/Object"), n221167, .inr (.inr (.inr (.inr f221168)))) := (n222534 q221155 (rn_ref_num he221969 he222528)).trans he221969
                                have he222539 : F222532 q221170 = .inr (17, [.ref q221179, .ref q221180, .int p221181, .int p221182]) := (n222534 q221170 (rn_oa he221970 he222528)).trans he221970
                                have he222540 : F222532 q221179 = .inr (4, [.int p221974, .ref q221976, .int p221975]) := (n222534 q221179 (rn_oa he221973 he222528)).trans he221973
                                have he222541 : F222532 q221976 = .inl (I (.object "java/lang/Object"), n222357, .inr (.inr (.inr (.inr f222358)))) := (n222534 q221976 (rn_ref_num r222352 he222528)).trans r222352
                                have he222542 : F222532 q222360 = .inr (20, [.int p222372, .int p222373, .int p222374, .int p222375, .int p222376, .int p222377, .int p222378]) := (n222534 q222360 (rn_oa he222371 he222528)).trans he222371
                                have he222543 : F222532 q158837 = .inr (22, [.ref (γ 9 0), .ref (γ 9 1), .ref (γ 9 2), .ref (γ 9 3), .ref (γ 9 4), .ref (γ 9 5), .ref (γ 9 6), .ref (γ 9 7), .ref (γ 9 8), .int p222484, .int p222485, .int p222486, .int p222487, .int p222488, .int p222489, .ref (γ 9 15), .ref (γ 9 16), .ref (γ 9 17), .ref (γ 9 18), .ref (γ 9 19), .ref (γ 9 20), .ref (γ 9 21), .ref (γ 9 22), .int p222490, .int p222491, .int p222492, .int p222493, .int p222494, .ref q222482, .ref (γ 9 29), .int p222495, .ref (γ 9 31), .int p222496, .int p222497, .int p222498, .ref q222483]) := (n222534 q158837 (rn_oa he222481 he222528)).trans he222481
                                have he222544 : F222532 (γ 9 5) = .inl (I .int, 2000, .inl f222535) := e222533
                                have hs222545 : rStr γ F158836 F222532 := rStr_put hs221964 n222534 ht222506 (by decide)
                                refine G_aload 0 dr_cX17_weigh_167 rfl ?_
                                have hT222546 : RS D I P158835 F222532 γ el := RS_set hT221963 n222534 ht222506 (by decide) ⟨f222535, he222544⟩
                                refine Gw_callV (As := []) (gV_ok D I) (cp_1693_Row_usesB l hl0 D I P158835 F222532 q222360 p222372 p222373 p222374 p222375 p222376 p222377 p222378 hm222370 he222542 bp222372 bp222373 bp222376 bp222377 bp222378) dr_cX17_weigh_169 ⟨wr_10_196, wr_1_39, wr_10_199, by decide, rfl, (Nat.le_of_ble_eq_true rfl), (Nat.le_of_ble_eq_true rfl)⟩ wr_10_197 wr_10_198 hm222370 he222542 rfl (show 0 + 0 ≤ 0 by first | omega | decide) (show 0 + 0 ≤ 0 by first | omega | decide) (Nat.le_of_ble_eq_true rfl) (fun r222550 w222551 dc222547 ds222548 hp222549 => ?_) (fun _ _ _ _ _ z => z.elim)
                                obtain ⟨o222552, rfl, rfl, hdc, hds, bo222552, x222553⟩ := hp222549
                                change G _ _ _ _ _ _ _ (.int o222552 :: _) _ _ _
                                refine G_widen (cs' := 0) (sl' := 0) (by omega) (by omega) ?_
                                refine G_if_eq 189 dr_cX17_weigh_172 (by decide +kernel) (fun hc222554 => ?_) (fun hc222554 => ?_)
                                · have r222555 : o222552.toInt = 0 := gj_eq hc222554 (show Int32.toInt 0 = 0 by decide)
                                  have bo222552' : gB o222552 0 0 := ⟨by omega, by omega⟩
                                  obtain ⟨z222556, hz222556⟩ : ∃ z : Int32, z = g221961 + Int32.ofInt 1 := ⟨_, rfl⟩
                                  have ez222556 : z222556.toInt = g221961.toInt + 1 := gI_inc hz222556 (by decide) bg221961'' (by decide) (by decide)
                                  have bz222556 : gB z222556 1 1000000 := ⟨by omega, by omega⟩
                                  refine G_iinc (L' := [(5, .int z222556), (6, .ref q222360), (4, .ref q221170), (3, .int g221096), (2, .int g219424), (0, .ref q158837), (1, .ref q158838)]) z222556 1 dr_cX17_weigh_189 rfl hz222556.symm (Nat.le_of_ble_eq_true rfl) rfl ?_
                                  refine G_goto 74 dr_cX17_weigh_192 (by decide +kernel) ?_
                                  refine G_lv (L' := [(5, .int z222556), (4, .ref q221170), (3, .int g221096), (2, .int g219424), (0, .ref q158837), (1, .ref q158838)]) [0, 2, 3, 4, 5, 6] rfl ?_
                                  exact ih74_221964 F222532 z222556 (gB_w bz222556 (by decide) (by decide)) hT222546 hs222545 (by omega)
                                · have r222557 : o222552.toInt ≠ 0 := gj_neq hc222554 (show Int32.toInt 0 = 0 by decide)
                                  have bo222552' : gB o222552 1 1 := ⟨by omega, by omega⟩
                                  refine G_aload_n 5 dr_cX17_weigh_175 rfl ?_
                                  refine Gp_get 5 hm222480 he222543 dr_cX17_weigh_176 (gk_X17 D I) (Nat.le_of_ble_eq_true rfl) wr_7_79 rfl ?_
                                  refine G_aload 0 dr_cX17_weigh_179 rfl ?_
                                  refine Gp_get 3 hm222370 he222542 dr_cX17_weigh_181 (gk_X15 D I) (Nat.le_of_ble_eq_true rfl) wr_9_190 rfl ?_
                                  refine G_dup2_11 dr_cX17_weigh_184 rfl rfl ?_
                                  refine Gp_iald 0 hm222527 he222544 dr_cX17_weigh_185 rfl (gB_inr (by omega) (by omega)) (G_nam fun z222558 hz222558 => ?_)
                                  have bz222558 : gB z222558 (-2147483648) 2147483647 := gB_any z222558
                                  refine G_iload_n 3 dr_cX17_weigh_186 rfl ?_
                                  refine G_iadd dr_cX17_weigh_187 (G_nam fun z222559 hz222559 => ?_)
                                  have bz222559 : gB z222559 (-2147483648) 2147483647 := gB_any z222559
                                  refine Gp_iast 0 hm222527 he222544 dr_cX17_weigh_188 rfl (gB_inr (by omega) (by omega)) (fun F222560 e222561 n222562 => ?_)
                                  obtain ⟨f222563, hf222563⟩ : ∃ z, z = upd f222535 p222375.toNatClampNeg z222559 := ⟨_, rfl⟩
                                  rw [← hf222563] at e222561
                                  have he222564 : F222560 q158838 = .inr (18, [.ref q219433, .ref q219434, .int p219435, .int p219436]) := (n222562 q158838 (rn_oa he222536 he222544)).trans he222536
                                  have he222565 : F222560 q219433 = .inr (4, [.int p221153, .ref q221155, .int p221154]) := (n222562 q219433 (rn_oa he222537 he222544)).trans he222537
                                  have he222566 : F222560 q221155 = .inl (I (.object "java/lang/Object"), n221167, .inr (.inr (.inr (.inr f221168)))) := (n222562 q221155 (rn_ref_num he222538 he222544)).trans he222538
                                  have he222567 : F222560 q221170 = .inr (17, [.ref q221179, .ref q221180, .int p221181, .int p221182]) := (n222562 q221170 (rn_oa he222539 he222544)).trans he222539
                                  have he222568 : F222560 q221179 = .inr (4, [.int p221974, .ref q221976, .int p221975]) := (n222562 q221179 (rn_oa he222540 he222544)).trans he222540
                                  have he222569 : F222560 q221976 = .inl (I (.object "java/lang/Object"), n222357, .inr (.inr (.inr (.inr f222358)))) := (n222562 q221976 (rn_ref_num he222541 he222544)).trans he222541
                                  have he222570 : F222560 q222360 = .inr (20, [.int p222372, .int p222373, .int p222374, .int p222375, .int p222376, .int p222377, .int p222378]) := (n222562 q222360 (rn_oa he222542 he222544)).trans he222542
                                  have he222571 : F222560 q158837 = .inr (22, [.ref (γ 9 0), .ref (γ 9 1), .ref (γ 9 2), .ref (γ 9 3), .ref (γ 9 4), .ref (γ 9 5), .ref (γ 9 6), .ref (γ 9 7), .ref (γ 9 8), .int p222484, .int p222485, .int p222486, .int p222487, .int p222488, .int p222489, .ref (γ 9 15), .ref (γ 9 16), .ref (γ 9 17), .ref (γ 9 18), .ref (γ 9 19), .ref (γ 9 20), .ref (γ 9 21), .ref (γ 9 22), .int p222490, .int p222491, .int p222492, .int p222493, .int p222494, .ref q222482, .ref (γ 9 29), .int p222495, .ref (γ 9 31), .int p222496, .int p222497, .int p222498, .ref q222483]) := (n222562 q158837 (rn_oa he222543 he222544)).trans he222543
                                  have he222572 : F222560 (γ 9 5) = .inl (I .int, 2000, .inl f222563) := e222561
                                  have hs222573 : rStr γ F158836 F222560 := rStr_put hs222545 n222562 ht222506 (by decide)
                                  obtain ⟨z222574, hz222574⟩ : ∃ z : Int32, z = g221961 + Int32.ofInt 1 := ⟨_, rfl⟩
                                  have ez222574 : z222574.toInt = g221961.toInt + 1 := gI_inc hz222574 (by decide) bg221961'' (by decide) (by decide)
                                  have bz222574 : gB z222574 1 1000000 := ⟨by omega, by omega⟩
                                  refine G_iinc (L' := [(5, .int z222574), (6, .ref q222360), (4, .ref q221170), (3, .int g221096), (2, .int g219424), (0, .ref q158837), (1, .ref q158838)]) z222574 1 dr_cX17_weigh_189 rfl hz222574.symm (Nat.le_of_ble_eq_true rfl) rfl ?_
                                  refine G_goto 74 dr_cX17_weigh_192 (by decide +kernel) ?_
                                  have hT222575 : RS D I P158835 F222560 γ el := RS_set hT222546 n222562 ht222506 (by decide) ⟨f222563, he222572⟩
                                  refine G_lv (L' := [(5, .int z222574), (4, .ref q221170), (3, .int g221096), (2, .int g219424), (0, .ref q158837), (1, .ref q158838)]) [0, 2, 3, 4, 5, 6] rfl ?_
                                  exact ih74_221964 F222560 z222574 (gB_w bz222574 (by decide) (by decide)) hT222575 hs222573 (by omega)
                            · have r222576 : o222388.toInt ≠ 0 := gj_neq hc222389 (show Int32.toInt 0 = 0 by decide)
                              have bo222388' : gB o222388 1 1 := ⟨by omega, by omega⟩
                              refine G_aload_n 5 dr_cX17_weigh_131 rfl ?_
                              have hm222577 : q158837 ∈ P158835 := RS_m hT221963 htq158837 (by decide)
                              obtain ⟨q222579, q222580, p222581, p222582, p222583, p222584, p222585, p222586, p222587, p222588, p222589, p222590, p222591, p222592, p222593, p222594, p222595, he222578, hB222622, ht222596, ht222597, ht222598, ht222599, ht222600, ht222601, ht222602, ht222603, ht222604, ht222605, ht222606, ht222607, ht222608, ht222609, ht222610, ht222611, ht222612, ht222613, ht222614, ht222615, ht222616, ht222617, ht222618, ht222619, hB222623⟩ := show rk_10 γ (F221962 q158837) from RS_o hT221963 htq158837
                              refine Gp_get 5 hm222577 he222578 dr_cX17_weigh_132 (gk_X17 D I) (Nat.le_of_ble_eq_true rfl) wr_7_79 rfl ?_
                              refine G_aload 0 dr_cX17_weigh_135 rfl ?_
                              refine Gp_get 1 hm222370 he222371 dr_cX17_weigh_137 (gk_X15 D I) (Nat.le_of_ble_eq_true rfl) wr_9_182 rfl ?_
                              refine G_dup2_11 dr_cX17_weigh_140 rfl rfl ?_
                              have hm222624 : (γ 9 5) ∈ P158835 := RS_m hT221963 ht222603 (by decide)
                              obtain ⟨f222626, he222625⟩ := show rk_17 I (F221962 (γ 9 5)) from RS_o hT221963 ht222603
                              refine Gp_iald 0 hm222624 he222625 dr_cX17_weigh_141 rfl (gB_in bp222373 (by decide) (by decide)) (G_nam fun z222627 hz222627 => ?_)
                              have bz222627 : gB z222627 (-2147483648) 2147483647 := gB_any z222627
                              refine G_iload_n 3 dr_cX17_weigh_142 rfl ?_
                              refine G_iadd dr_cX17_weigh_143 (G_nam fun z222628 hz222628 => ?_)
                              have bz222628 : gB z222628 (-2147483648) 2147483647 := gB_any z222628
                              refine Gp_iast 0 hm222624 he222625 dr_cX17_weigh_144 rfl (gB_in bp222373 (by decide) (by decide)) (fun F222629 e222630 n222631 => ?_)
                              obtain ⟨f222632, hf222632⟩ : ∃ z, z = upd f222626 p222373.toNatClampNeg z222628 := ⟨_, rfl⟩
                              rw [← hf222632] at e222630
                              have he222633 : F222629 q158838 = .inr (18, [.ref q219433, .ref q219434, .int p219435, .int p219436]) := (n222631 q158838 (rn_oa he221967 he222625)).trans he221967
                              have he222634 : F222629 q219433 = .inr (4, [.int p221153, .ref q221155, .int p221154]) := (n222631 q219433 (rn_oa he221968 he222625)).trans he221968
                              have he222635 : F222629 q221155 = .inl (I (.object "java/lang/Object"), n221167, .inr (.inr (.inr (.inr f221168)))) := (n222631 q221155 (rn_ref_num he221969 he222625)).trans he221969
                              have he222636 : F222629 q221170 = .inr (17, [.ref q221179, .ref q221180, .int p221181, .int p221182]) := (n222631 q221170 (rn_oa he221970 he222625)).trans he221970
                              have he222637 : F222629 q221179 = .inr (4, [.int p221974, .ref q221976, .int p221975]) := (n222631 q221179 (rn_oa he221973 he222625)).trans he221973
                              have he222638 : F222629 q221976 = .inl (I (.object "java/lang/Object"), n222357, .inr (.inr (.inr (.inr f222358)))) := (n222631 q221976 (rn_ref_num r222352 he222625)).trans r222352
                              have he222639 : F222629 q222360 = .inr (20, [.int p222372, .int p222373, .int p222374, .int p222375, .int p222376, .int p222377, .int p222378]) := (n222631 q222360 (rn_oa he222371 he222625)).trans he222371
                              have he222640 : F222629 q158837 = .inr (22, [.ref (γ 9 0), .ref (γ 9 1), .ref (γ 9 2), .ref (γ 9 3), .ref (γ 9 4), .ref (γ 9 5), .ref (γ 9 6), .ref (γ 9 7), .ref (γ 9 8), .int p222581, .int p222582, .int p222583, .int p222584, .int p222585, .int p222586, .ref (γ 9 15), .ref (γ 9 16), .ref (γ 9 17), .ref (γ 9 18), .ref (γ 9 19), .ref (γ 9 20), .ref (γ 9 21), .ref (γ 9 22), .int p222587, .int p222588, .int p222589, .int p222590, .int p222591, .ref q222579, .ref (γ 9 29), .int p222592, .ref (γ 9 31), .int p222593, .int p222594, .int p222595, .ref q222580]) := (n222631 q158837 (rn_oa he222578 he222625)).trans he222578
                              have he222641 : F222629 (γ 9 5) = .inl (I .int, 2000, .inl f222632) := e222630
                              have hs222642 : rStr γ F158836 F222629 := rStr_put hs221964 n222631 ht222603 (by decide)
                              refine G_aload 0 dr_cX17_weigh_145 rfl ?_
                              have hT222643 : RS D I P158835 F222629 γ el := RS_set hT221963 n222631 ht222603 (by decide) ⟨f222632, he222641⟩
                              refine Gw_callV (As := []) (gV_ok D I) (cp_1669_Row_usesA l hl0 D I P158835 F222629 q222360 p222372 p222373 p222374 p222375 p222376 p222377 p222378 hm222370 he222639 bp222372 bp222373 bp222376 bp222377 bp222378) dr_cX17_weigh_147 ⟨wr_10_192, wr_1_39, wr_10_195, by decide, rfl, (Nat.le_of_ble_eq_true rfl), (Nat.le_of_ble_eq_true rfl)⟩ wr_10_193 wr_10_194 hm222370 he222639 rfl (show 0 + 0 ≤ 0 by first | omega | decide) (show 0 + 0 ≤ 0 by first | omega | decide) (Nat.le_of_ble_eq_true rfl) (fun r222647 w222648 dc222644 ds222645 hp222646 => ?_) (fun _ _ _ _ _ z => z.elim)
                              obtain ⟨o222649, rfl, rfl, hdc, hds, bo222649, x222650⟩ := hp222646
                              change G _ _ _ _ _ _ _ (.int o222649 :: _) _ _ _
                              refine G_widen (cs' := 0) (sl' := 0) (by omega) (by omega) ?_
                              refine G_if_eq 167 dr_cX17_weigh_150 (by decide +kernel) (fun hc222651 => ?_) (fun hc222651 => ?_)
                              · have r222652 : o222649.toInt = 0 := gj_eq hc222651 (show Int32.toInt 0 = 0 by decide)
                                have bo222649' : gB o222649 0 0 := ⟨by omega, by omega⟩
                                refine G_aload 0 dr_cX17_weigh_167 rfl ?_
                                refine Gw_callV (As := []) (gV_ok D I) (cp_1693_Row_usesB l hl0 D I P158835 F222629 q222360 p222372 p222373 p222374 p222375 p222376 p222377 p222378 hm222370 he222639 bp222372 bp222373 bp222376 bp222377 bp222378) dr_cX17_weigh_169 ⟨wr_10_196, wr_1_39, wr_10_199, by decide, rfl, (Nat.le_of_ble_eq_true rfl), (Nat.le_of_ble_eq_true rfl)⟩ wr_10_197 wr_10_198 hm222370 he222639 rfl (show 0 + 0 ≤ 0 by first | omega | decide) (show 0 + 0 ≤ 0 by first | omega | decide) (Nat.le_of_ble_eq_true rfl) (fun r222656 w222657 dc222653 ds222654 hp222655 => ?_) (fun _ _ _ _ _ z => z.elim)
                                obtain ⟨o222658, rfl, rfl, hdc, hds, bo222658, x222659⟩ := hp222655
                                change G _ _ _ _ _ _ _ (.int o222658 :: _) _ _ _
                                refine G_widen (cs' := 0) (sl' := 0) (by omega) (by omega) ?_
                                refine G_if_eq 189 dr_cX17_weigh_172 (by decide +kernel) (fun hc222660 => ?_) (fun hc222660 => ?_)
                                · have r222661 : o222658.toInt = 0 := gj_eq hc222660 (show Int32.toInt 0 = 0 by decide)
                                  have bo222658' : gB o222658 0 0 := ⟨by omega, by omega⟩
                                  obtain ⟨z222662, hz222662⟩ : ∃ z : Int32, z = g221961 + Int32.ofInt 1 := ⟨_, rfl⟩
                                  have ez222662 : z222662.toInt = g221961.toInt + 1 := gI_inc hz222662 (by decide) bg221961'' (by decide) (by decide)
                                  have bz222662 : gB z222662 1 1000000 := ⟨by omega, by omega⟩
                                  refine G_iinc (L' := [(5, .int z222662), (6, .ref q222360), (4, .ref q221170), (3, .int g221096), (2, .int g219424), (0, .ref q158837), (1, .ref q158838)]) z222662 1 dr_cX17_weigh_189 rfl hz222662.symm (Nat.le_of_ble_eq_true rfl) rfl ?_
                                  refine G_goto 74 dr_cX17_weigh_192 (by decide +kernel) ?_
                                  refine G_lv (L' := [(5, .int z222662), (4, .ref q221170), (3, .int g221096), (2, .int g219424), (0, .ref q158837), (1, .ref q158838)]) [0, 2, 3, 4, 5, 6] rfl ?_
                                  exact ih74_221964 F222629 z222662 (gB_w bz222662 (by decide) (by decide)) hT222643 hs222642 (by omega)
                                · have r222663 : o222658.toInt ≠ 0 := gj_neq hc222660 (show Int32.toInt 0 = 0 by decide)
                                  have bo222658' : gB o222658 1 1 := ⟨by omega, by omega⟩
                                  refine G_aload_n 5 dr_cX17_weigh_175 rfl ?_
                                  refine Gp_get 5 hm222577 he222640 dr_cX17_weigh_176 (gk_X17 D I) (Nat.le_of_ble_eq_true rfl) wr_7_79 rfl ?_
                                  refine G_aload 0 dr_cX17_weigh_179 rfl ?_
                                  refine Gp_get 3 hm222370 he222639 dr_cX17_weigh_181 (gk_X15 D I) (Nat.le_of_ble_eq_true rfl) wr_9_190 rfl ?_
                                  refine G_dup2_11 dr_cX17_weigh_184 rfl rfl ?_
                                  refine Gp_iald 0 hm222624 he222641 dr_cX17_weigh_185 rfl (gB_inr (by omega) (by omega)) (G_nam fun z222664 hz222664 => ?_)
                                  have bz222664 : gB z222664 (-2147483648) 2147483647 := gB_any z222664
                                  refine G_iload_n 3 dr_cX17_weigh_186 rfl ?_
                                  refine G_iadd dr_cX17_weigh_187 (G_nam fun z222665 hz222665 => ?_)
                                  have bz222665 : gB z222665 (-2147483648) 2147483647 := gB_any z222665
                                  refine Gp_iast 0 hm222624 he222641 dr_cX17_weigh_188 rfl (gB_inr (by omega) (by omega)) (fun F222666 e222667 n222668 => ?_)
                                  obtain ⟨f222669, hf222669⟩ : ∃ z, z = upd f222632 p222375.toNatClampNeg z222665 := ⟨_, rfl⟩
                                  rw [← hf222669] at e222667
                                  have he222670 : F222666 q158838 = .inr (18, [.ref q219433, .ref q219434, .int p219435, .int p219436]) := (n222668 q158838 (rn_oa he222633 he222641)).trans he222633
                                  have he222671 : F222666 q219433 = .inr (4, [.int p221153, .ref q221155, .int p221154]) := (n222668 q219433 (rn_oa he222634 he222641)).trans he222634
                                  have he222672 : F222666 q221155 = .inl (I (.object "java/lang/Object"), n221167, .inr (.inr (.inr (.inr f221168)))) := (n222668 q221155 (rn_ref_num he222635 he222641)).trans he222635
                                  have he222673 : F222666 q221170 = .inr (17, [.ref q221179, .ref q221180, .int p221181, .int p221182]) := (n222668 q221170 (rn_oa he222636 he222641)).trans he222636
                                  have he222674 : F222666 q221179 = .inr (4, [.int p221974, .ref q221976, .int p221975]) := (n222668 q221179 (rn_oa he222637 he222641)).trans he222637
                                  have he222675 : F222666 q221976 = .inl (I (.object "java/lang/Object"), n222357, .inr (.inr (.inr (.inr f222358)))) := (n222668 q221976 (rn_ref_num he222638 he222641)).trans he222638
                                  have he222676 : F222666 q222360 = .inr (20, [.int p222372, .int p222373, .int p222374, .int p222375, .int p222376, .int p222377, .int p222378]) := (n222668 q222360 (rn_oa he222639 he222641)).trans he222639
                                  have he222677 : F222666 q158837 = .inr (22, [.ref (γ 9 0), .ref (γ 9 1), .ref (γ 9 2), .ref (γ 9 3), .ref (γ 9 4), .ref (γ 9 5), .ref (γ 9 6), .ref (γ 9 7), .ref (γ 9 8), .int p222581, .int p222582, .int p222583, .int p222584, .int p222585, .int p222586, .ref (γ 9 15), .ref (γ 9 16), .ref (γ 9 17), .ref (γ 9 18), .ref (γ 9 19), .ref (γ 9 20), .ref (γ 9 21), .ref (γ 9 22), .int p222587, .int p222588, .int p222589, .int p222590, .int p222591, .ref q222579, .ref (γ 9 29), .int p222592, .ref (γ 9 31), .int p222593, .int p222594, .int p222595, .ref q222580]) := (n222668 q158837 (rn_oa he222640 he222641)).trans he222640
                                  have he222678 : F222666 (γ 9 5) = .inl (I .int, 2000, .inl f222669) := e222667
                                  have hs222679 : rStr γ F158836 F222666 := rStr_put hs222642 n222668 ht222603 (by decide)
                                  obtain ⟨z222680, hz222680⟩ : ∃ z : Int32, z = g221961 + Int32.ofInt 1 := ⟨_, rfl⟩
                                  have ez222680 : z222680.toInt = g221961.toInt + 1 := gI_inc hz222680 (by decide) bg221961'' (by decide) (by decide)
                                  have bz222680 : gB z222680 1 1000000 := ⟨by omega, by omega⟩
                                  refine G_iinc (L' := [(5, .int z222680), (6, .ref q222360), (4, .ref q221170), (3, .int g221096), (2, .int g219424), (0, .ref q158837), (1, .ref q158838)]) z222680 1 dr_cX17_weigh_189 rfl hz222680.symm (Nat.le_of_ble_eq_true rfl) rfl ?_
                                  refine G_goto 74 dr_cX17_weigh_192 (by decide +kernel) ?_
                                  have hT222681 : RS D I P158835 F222666 γ el := RS_set hT222643 n222668 ht222603 (by decide) ⟨f222669, he222678⟩
                                  refine G_lv (L' := [(5, .int z222680), (4, .ref q221170), (3, .int g221096), (2, .int g219424), (0, .ref q158837), (1, .ref q158838)]) [0, 2, 3, 4, 5, 6] rfl ?_
                                  exact ih74_221964 F222666 z222680 (gB_w bz222680 (by decide) (by decide)) hT222681 hs222679 (by omega)
                              · have r222682 : o222649.toInt ≠ 0 := gj_neq hc222651 (show Int32.toInt 0 = 0 by decide)
                                have bo222649' : gB o222649 1 1 := ⟨by omega, by omega⟩
                                refine G_aload_n 5 dr_cX17_weigh_153 rfl ?_
                                refine Gp_get 5 hm222577 he222640 dr_cX17_weigh_154 (gk_X17 D I) (Nat.le_of_ble_eq_true rfl) wr_7_79 rfl ?_
                                refine G_aload 0 dr_cX17_weigh_157 rfl ?_
                                refine Gp_get 2 hm222370 he222639 dr_cX17_weigh_159 (gk_X15 D I) (Nat.le_of_ble_eq_true rfl) wr_9_186 rfl ?_
                                refine G_dup2_11 dr_cX17_weigh_162 rfl rfl ?_
                                refine Gp_iald 0 hm222624 he222641 dr_cX17_weigh_163 rfl (gB_inr (by omega) (by omega)) (G_nam fun z222683 hz222683 => ?_)
                                have bz222683 : gB z222683 (-2147483648) 2147483647 := gB_any z222683
                                refine G_iload_n 3 dr_cX17_weigh_164 rfl ?_
                                refine G_iadd dr_cX17_weigh_165 (G_nam fun z222684 hz222684 => ?_)
                                have bz222684 : gB z222684 (-2147483648) 2147483647 := gB_any z222684
                                refine Gp_iast 0 hm222624 he222641 dr_cX17_weigh_166 rfl (gB_inr (by omega) (by omega)) (fun F222685 e222686 n222687 => ?_)
                                obtain ⟨f222688, hf222688⟩ : ∃ z, z = upd f222632 p222374.toNatClampNeg z222684 := ⟨_, rfl⟩
                                rw [← hf222688] at e222686
                                have he222689 : F222685 q158838 = .inr (18, [.ref q219433, .ref q219434, .int p219435, .int p219436]) := (n222687 q158838 (rn_oa he222633 he222641)).trans he222633
                                have he222690 : F222685 q219433 = .inr (4, [.int p221153, .ref q221155, .int p221154]) := (n222687 q219433 (rn_oa he222634 he222641)).trans he222634
                                have he222691 : F222685 q221155 = .inl (I (.object "java/lang/Object"), n221167, .inr (.inr (.inr (.inr f221168)))) := (n222687 q221155 (rn_ref_num he222635 he222641)).trans he222635
                                have he222692 : F222685 q221170 = .inr (17, [.ref q221179, .ref q221180, .int p221181, .int p221182]) := (n222687 q221170 (rn_oa he222636 he222641)).trans he222636
                                have he222693 : F222685 q221179 = .inr (4, [.int p221974, .ref q221976, .int p221975]) := (n222687 q221179 (rn_oa he222637 he222641)).trans he222637
                                have he222694 : F222685 q221976 = .inl (I (.object "java/lang/Object"), n222357, .inr (.inr (.inr (.inr f222358)))) := (n222687 q221976 (rn_ref_num he222638 he222641)).trans he222638
                                have he222695 : F222685 q222360 = .inr (20, [.int p222372, .int p222373, .int p222374, .int p222375, .int p222376, .int p222377, .int p222378]) := (n222687 q222360 (rn_oa he222639 he222641)).trans he222639
                                have he222696 : F222685 q158837 = .inr (22, [.ref (γ 9 0), .ref (γ 9 1), .ref (γ 9 2), .ref (γ 9 3), .ref (γ 9 4), .ref (γ 9 5), .ref (γ 9 6), .ref (γ 9 7), .ref (γ 9 8), .int p222581, .int p222582, .int p222583, .int p222584, .int p222585, .int p222586, .ref (γ 9 15), .ref (γ 9 16), .ref (γ 9 17), .ref (γ 9 18), .ref (γ 9 19), .ref (γ 9 20), .ref (γ 9 21), .ref (γ 9 22), .int p222587, .int p222588, .int p222589, .int p222590, .int p222591, .ref q222579, .ref (γ 9 29), .int p222592, .ref (γ 9 31), .int p222593, .int p222594, .int p222595, .ref q222580]) := (n222687 q158837 (rn_oa he222640 he222641)).trans he222640
                                have he222697 : F222685 (γ 9 5) = .inl (I .int, 2000, .inl f222688) := e222686
                                have hs222698 : rStr γ F158836 F222685 := rStr_put hs222642 n222687 ht222603 (by decide)
                                refine G_aload 0 dr_cX17_weigh_167 rfl ?_
                                have hT222699 : RS D I P158835 F222685 γ el := RS_set hT222643 n222687 ht222603 (by decide) ⟨f222688, he222697⟩
                                refine Gw_callV (As := []) (gV_ok D I) (cp_1693_Row_usesB l hl0 D I P158835 F222685 q222360 p222372 p222373 p222374 p222375 p222376 p222377 p222378 hm222370 he222695 bp222372 bp222373 bp222376 bp222377 bp222378) dr_cX17_weigh_169 ⟨wr_10_196, wr_1_39, wr_10_199, by decide, rfl, (Nat.le_of_ble_eq_true rfl), (Nat.le_of_ble_eq_true rfl)⟩ wr_10_197 wr_10_198 hm222370 he222695 rfl (show 0 + 0 ≤ 0 by first | omega | decide) (show 0 + 0 ≤ 0 by first | omega | decide) (Nat.le_of_ble_eq_true rfl) (fun r222703 w222704 dc222700 ds222701 hp222702 => ?_) (fun _ _ _ _ _ z => z.elim)
                                obtain ⟨o222705, rfl, rfl, hdc, hds, bo222705, x222706⟩ := hp222702
                                change G _ _ _ _ _ _ _ (.int o222705 :: _) _ _ _
                                refine G_widen (cs' := 0) (sl' := 0) (by omega) (by omega) ?_
                                refine G_if_eq 189 dr_cX17_weigh_172 (by decide +kernel) (fun hc222707 => ?_) (fun hc222707 => ?_)
                                · have r222708 : o222705.toInt = 0 := gj_eq hc222707 (show Int32.toInt 0 = 0 by decide)
                                  have bo222705' : gB o222705 0 0 := ⟨by omega, by omega⟩
                                  obtain ⟨z222709, hz222709⟩ : ∃ z : Int32, z = g221961 + Int32.ofInt 1 := ⟨_, rfl⟩
                                  have ez222709 : z222709.toInt = g221961.toInt + 1 := gI_inc hz222709 (by decide) bg221961'' (by decide) (by decide)
                                  have bz222709 : gB z222709 1 1000000 := ⟨by omega, by omega⟩
                                  refine G_iinc (L' := [(5, .int z222709), (6, .ref q222360), (4, .ref q221170), (3, .int g221096), (2, .int g219424), (0, .ref q158837), (1, .ref q158838)]) z222709 1 dr_cX17_weigh_189 rfl hz222709.symm (Nat.le_of_ble_eq_true rfl) rfl ?_
                                  refine G_goto 74 dr_cX17_weigh_192 (by decide +kernel) ?_
                                  refine G_lv (L' := [(5, .int z222709), (4, .ref q221170), (3, .int g221096), (2, .int g219424), (0, .ref q158837), (1, .ref q158838)]) [0, 2, 3, 4, 5, 6] rfl ?_
                                  exact ih74_221964 F222685 z222709 (gB_w bz222709 (by decide) (by decide)) hT222699 hs222698 (by omega)
                                · have r222710 : o222705.toInt ≠ 0 := gj_neq hc222707 (show Int32.toInt 0 = 0 by decide)
                                  have bo222705' : gB o222705 1 1 := ⟨by omega, by omega⟩
                                  refine G_aload_n 5 dr_cX17_weigh_175 rfl ?_
                                  refine Gp_get 5 hm222577 he222696 dr_cX17_weigh_176 (gk_X17 D I) (Nat.le_of_ble_eq_true rfl) wr_7_79 rfl ?_
                                  refine G_aload 0 dr_cX17_weigh_179 rfl ?_
                                  refine Gp_get 3 hm222370 he222695 dr_cX17_weigh_181 (gk_X15 D I) (Nat.le_of_ble_eq_true rfl) wr_9_190 rfl ?_
                                  refine G_dup2_11 dr_cX17_weigh_184 rfl rfl ?_
                                  refine Gp_iald 0 hm222624 he222697 dr_cX17_weigh_185 rfl (gB_inr (by omega) (by omega)) (G_nam fun z222711 hz222711 => ?_)
                                  have bz222711 : gB z222711 (-2147483648) 2147483647 := gB_any z222711
                                  refine G_iload_n 3 dr_cX17_weigh_186 rfl ?_
                                  refine G_iadd dr_cX17_weigh_187 (G_nam fun z222712 hz222712 => ?_)
                                  have bz222712 : gB z222712 (-2147483648) 2147483647 := gB_any z222712
                                  refine Gp_iast 0 hm222624 he222697 dr_cX17_weigh_188 rfl (gB_inr (by omega) (by omega)) (fun F222713 e222714 n222715 => ?_)
                                  obtain ⟨f222716, hf222716⟩ : ∃ z, z = upd f222688 p222375.toNatClampNeg z222712 := ⟨_, rfl⟩
                                  rw [← hf222716] at e222714
                                  have he222717 : F222713 q158838 = .inr (18, [.ref q219433, .ref q219434, .int p219435, .int p219436]) := (n222715 q158838 (rn_oa he222689 he222697)).trans he222689
                                  have he222718 : F222713 q219433 = .inr (4, [.int p221153, .ref q221155, .int p221154]) := (n222715 q219433 (rn_oa he222690 he222697)).trans he222690
                                  have he222719 : F222713 q221155 = .inl (I (.object "java/lang/Object"), n221167, .inr (.inr (.inr (.inr f221168)))) := (n222715 q221155 (rn_ref_num he222691 he222697)).trans he222691
                                  have he222720 : F222713 q221170 = .inr (17, [.ref q221179, .ref q221180, .int p221181, .int p221182]) := (n222715 q221170 (rn_oa he222692 he222697)).trans he222692
                                  have he222721 : F222713 q221179 = .inr (4, [.int p221974, .ref q221976, .int p221975]) := (n222715 q221179 (rn_oa he222693 he222697)).trans he222693
                                  have he222722 : F222713 q221976 = .inl (I (.object "java/lang/Object"), n222357, .inr (.inr (.inr (.inr f222358)))) := (n222715 q221976 (rn_ref_num he222694 he222697)).trans he222694
                                  have he222723 : F222713 q222360 = .inr (20, [.int p222372, .int p222373, .int p222374, .int p222375, .int p222376, .int p222377, .int p222378]) := (n222715 q222360 (rn_oa he222695 he222697)).trans he222695
                                  have he222724 : F222713 q158837 = .inr (22, [.ref (γ 9 0), .ref (γ 9 1), .ref (γ 9 2), .ref (γ 9 3), .ref (γ 9 4), .ref (γ 9 5), .ref (γ 9 6), .ref (γ 9 7), .ref (γ 9 8), .int p222581, .int p222582, .int p222583, .int p222584, .int p222585, .int p222586, .ref (γ 9 15), .ref (γ 9 16), .ref (γ 9 17), .ref (γ 9 18), .ref (γ 9 19), .ref (γ 9 20), .ref (γ 9 21), .ref (γ 9 22), .int p222587, .int p222588, .int p222589, .int p222590, .int p222591, .ref q222579, .ref (γ 9 29), .int p222592, .ref (γ 9 31), .int p222593, .int p222594, .int p222595, .ref q222580]) := (n222715 q158837 (rn_oa he222696 he222697)).trans he222696
                                  have he222725 : F222713 (γ 9 5) = .inl (I .int, 2000, .inl f222716) := e222714
                                  have hs222726 : rStr γ F158836 F222713 := rStr_put hs222698 n222715 ht222603 (by decide)
                                  obtain ⟨z222727, hz222727⟩ : ∃ z : Int32, z = g221961 + Int32.ofInt 1 := ⟨_, rfl⟩
                                  have ez222727 : z222727.toInt = g221961.toInt + 1 := gI_inc hz222727 (by decide) bg221961'' (by decide) (by decide)
                                  have bz222727 : gB z222727 1 1000000 := ⟨by omega, by omega⟩
                                  refine G_iinc (L' := [(5, .int z222727), (6, .ref q222360), (4, .ref q221170), (3, .int g221096), (2, .int g219424), (0, .ref q158837), (1, .ref q158838)]) z222727 1 dr_cX17_weigh_189 rfl hz222727.symm (Nat.le_of_ble_eq_true rfl) rfl ?_
                                  refine G_goto 74 dr_cX17_weigh_192 (by decide +kernel) ?_
                                  have hT222728 : RS D I P158835 F222713 γ el := RS_set hT222699 n222715 ht222603 (by decide) ⟨f222716, he222725⟩
                                  refine G_lv (L' := [(5, .int z222727), (4, .ref q221170), (3, .int g221096), (2, .int g219424), (0, .ref q158837), (1, .ref q158838)]) [0, 2, 3, 4, 5, 6] rfl ?_
                                  exact ih74_221964 F222713 z222727 (gB_w bz222727 (by decide) (by decide)) hT222728 hs222726 (by omega)
                    exact hlp74_221964 (((1000002 : Int) - 0).toNat + 1) F219425 0 (gB_w (gBl (show Int32.toInt 0 = 0 by decide)) (by decide) (by decide)) hT219426 hs219427 (Nat.lt_succ_self _)
                  · have r222729 : g221095.toInt < z221148.toInt := gC_nle hc221149
                    have bg221095' : gB g221095 0 2147483646 := ⟨by omega, by omega⟩
                    have bz221148' : gB z221148 1 2147483647 := ⟨by omega, by omega⟩
                    refine G_iload_n 1 dr_cX17_weigh_53 rfl ?_
                    refine G_bipush 10 dr_cX17_weigh_54 (by decide +kernel) ?_
                    refine G_imul dr_cX17_weigh_56 (G_nam fun z222730 hz222730 => ?_)
                    have bz222730 : gB z222730 (-2147483648) 2147483647 := gB_any z222730
                    refine G_istore_n (L' := [(3, .int z222730), (4, .int g221095), (2, .int g219424), (0, .ref q158837), (1, .ref q158838)]) dr_cX17_weigh_57 (Nat.le_of_ble_eq_true rfl) rfl ?_
                    obtain ⟨z222731, hz222731⟩ : ∃ z : Int32, z = g221095 + Int32.ofInt 1 := ⟨_, rfl⟩
                    have ez222731 : z222731.toInt = g221095.toInt + 1 := gI_inc hz222731 (by decide) bg221095' (by decide) (by decide)
                    have bz222731 : gB z222731 1 2147483647 := ⟨by omega, by omega⟩
                    refine G_iinc (L' := [(4, .int z222731), (3, .int z222730), (2, .int g219424), (0, .ref q158837), (1, .ref q158838)]) z222731 1 dr_cX17_weigh_58 rfl hz222731.symm (Nat.le_of_ble_eq_true rfl) rfl ?_
                    refine G_goto 42 dr_cX17_weigh_61 (by decide +kernel) ?_
                    exact ih42_221096 z222731 z222730 (gB_w bz222731 (by decide) (by decide)) (by omega)
              exact hlp42_221096 (((2147483648 : Int) - 0).toNat + 1) 0 1 (gB_w (gBl (show Int32.toInt 0 = 0 by decide)) (by decide) (by decide)) (Nat.lt_succ_self _)
        exact hlp29_219427 (((1000001 : Int) - 0).toNat + 1) F216109 0 (gB_w (gBl (show Int32.toInt 0 = 0 by decide)) (by decide) (by decide)) hT216110 hs216111 (Nat.lt_succ_self _)
      · have r222732 : g216108.toInt < 2000 := gj_nleL hc216115 (show Int32.toInt 2000 = 2000 by decide)
        have bg216108' : gB g216108 0 1999 := ⟨by omega, by omega⟩
        refine G_aload_n 1 dr_cX17_weigh_14 rfl ?_
        have hm222733 : q158837 ∈ P158835 := RS_m hT216110 htq158837 (by decide)
        obtain ⟨q222735, q222736, p222737, p222738, p222739, p222740, p222741, p222742, p222743, p222744, p222745, p222746, p222747, p222748, p222749, p222750, p222751, he222734, hB222778, ht222752, ht222753, ht222754, ht222755, ht222756, ht222757, ht222758, ht222759, ht222760, ht222761, ht222762, ht222763, ht222764, ht222765, ht222766, ht222767, ht222768, ht222769, ht222770, ht222771, ht222772, ht222773, ht222774, ht222775, hB222779⟩ := show rk_10 γ (F216109 q158837) from RS_o hT216110 htq158837
        refine Gp_get 5 hm222733 he222734 dr_cX17_weigh_15 (gk_X17 D I) (Nat.le_of_ble_eq_true rfl) wr_7_79 rfl ?_
        refine G_iload_n 0 dr_cX17_weigh_18 rfl ?_
        refine G_iconst 0 dr_cX17_weigh_19 (by decide +kernel) ?_
        have hm222780 : (γ 9 5) ∈ P158835 := RS_m hT216110 ht222759 (by decide)
        obtain ⟨f222782, he222781⟩ := show rk_17 I (F216109 (γ 9 5)) from RS_o hT216110 ht222759
        refine Gp_iast 0 hm222780 he222781 dr_cX17_weigh_20 rfl (gB_in bg216108' (by decide) (by decide)) (fun F222783 e222784 n222785 => ?_)
        obtain ⟨f222786, hf222786⟩ : ∃ z, z = upd f222782 g216108.toNatClampNeg 0 := ⟨_, rfl⟩
        rw [← hf222786] at e222784
        have he222787 : F222783 q158837 = .inr (22, [.ref (γ 9 0), .ref (γ 9 1), .ref (γ 9 2), .ref (γ 9 3), .ref (γ 9 4), .ref (γ 9 5), .ref (γ 9 6), .ref (γ 9 7), .ref (γ 9 8), .int p222737, .int p222738, .int p222739, .int p222740, .int p222741, .int p222742, .ref (γ 9 15), .ref (γ 9 16), .ref (γ 9 17), .ref (γ 9 18), .ref (γ 9 19), .ref (γ 9 20), .ref (γ 9 21), .ref (γ 9 22), .int p222743, .int p222744, .int p222745, .int p222746, .int p222747, .ref q222735, .ref (γ 9 29), .int p222748, .ref (γ 9 31), .int p222749, .int p222750, .int p222751, .ref q222736]) := (n222785 q158837 (rn_oa he222734 he222781)).trans he222734
        have he222788 : F222783 (γ 9 5) = .inl (I .int, 2000, .inl f222786) := e222784
        have hs222789 : rStr γ F158836 F222783 := rStr_put hs216111 n222785 ht222759 (by decide)
        obtain ⟨z222790, hz222790⟩ : ∃ z : Int32, z = g216108 + Int32.ofInt 1 := ⟨_, rfl⟩
        have ez222790 : z222790.toInt = g216108.toInt + 1 := gI_inc hz222790 (by decide) bg216108' (by decide) (by decide)
        have bz222790 : gB z222790 1 2000 := ⟨by omega, by omega⟩
        refine G_iinc (L' := [(2, .int z222790), (0, .ref q158837), (1, .ref q158838)]) z222790 0 dr_cX17_weigh_21 rfl hz222790.symm (Nat.le_of_ble_eq_true rfl) rfl ?_
        refine G_goto 7 dr_cX17_weigh_24 (by decide +kernel) ?_
        have hT222791 : RS D I P158835 F222783 γ el := RS_set hT216110 n222785 ht222759 (by decide) ⟨f222786, he222788⟩
        exact ih7_216111 F222783 z222790 (gB_w bz222790 (by decide) (by decide)) hT222791 hs222789 (by omega)
  exact hlp7_216111 (((2001 : Int) - 0).toNat + 1) F158893 0 (gB_w (gBl (show Int32.toInt 0 = 0 by decide)) (by decide) (by decide)) hT158894 hs158896 (Nat.lt_succ_self _)
