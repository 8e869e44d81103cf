theorem dr_cX17_run_0 : decode cX17_run 0 = .ok (.iconst 0, 1) := by decide +kernel
theorem dr_cX17_run_1 : decode cX17_run 1 = .ok (.istore_n 3, 1) := by decide +kernel
theorem dr_cX17_run_2 : decode cX17_run 2 = .ok (.iload_n 3, 1) := by decide +kernel
theorem dr_cX17_run_3 : decode cX17_run 3 = .ok (.sipush 2000, 3) := by decide +kernel
theorem dr_cX17_run_6 : decode cX17_run 6 = .ok (.if_icmp .ge 23, 3) := by decide +kernel
theorem dr_cX17_run_29 : decode cX17_run 29 = .ok (.aload_n 0, 1) := by decide +kernel
theorem dr_cX17_run_30 : decode cX17_run 30 = .ok (.iconst 0, 1) := by decide +kernel
theorem dr_cX17_run_31 : decode cX17_run 31 = .ok (.putfield 277, 3) := by decide +kernel
theorem dr_cX17_run_34 : decode cX17_run 34 = .ok (.aload_n 0, 1) := by decide +kernel
theorem dr_cX17_run_35 : decode cX17_run 35 = .ok (.iconst 0, 1) := by decide +kernel
theorem dr_cX17_run_36 : decode cX17_run 36 = .ok (.putfield 280, 3) := by decide +kernel
theorem dr_cX17_run_39 : decode cX17_run 39 = .ok (.aload_n 0, 1) := by decide +kernel
theorem dr_cX17_run_40 : decode cX17_run 40 = .ok (.iconst 0, 1) := by decide +kernel
theorem dr_cX17_run_41 : decode cX17_run 41 = .ok (.putfield 283, 3) := by decide +kernel
theorem dr_cX17_run_44 : decode cX17_run 44 = .ok (.aload_n 0, 1) := by decide +kernel
theorem dr_cX17_run_45 : decode cX17_run 45 = .ok (.iconst 0, 1) := by decide +kernel
theorem dr_cX17_run_46 : decode cX17_run 46 = .ok (.putfield 286, 3) := by decide +kernel
theorem dr_cX17_run_49 : decode cX17_run 49 = .ok (.iconst 0, 1) := by decide +kernel
theorem dr_cX17_run_50 : decode cX17_run 50 = .ok (.istore_n 3, 1) := by decide +kernel
theorem dr_cX17_run_51 : decode cX17_run 51 = .ok (.iconst 0, 1) := by decide +kernel
theorem dr_cX17_run_52 : decode cX17_run 52 = .ok (.istore 4, 2) := by decide +kernel
theorem dr_cX17_run_54 : decode cX17_run 54 = .ok (.aload_n 1, 1) := by decide +kernel
theorem dr_cX17_run_55 : decode cX17_run 55 = .ok (.iload_n 3, 1) := by decide +kernel
theorem dr_cX17_run_56 : decode cX17_run 56 = .ok (.invokevirtual 101, 3) := by decide +kernel
theorem dr_cX17_run_59 : decode cX17_run 59 = .ok (.astore 5, 2) := by decide +kernel
theorem dr_cX17_run_61 : decode cX17_run 61 = .ok (.aload_n 0, 1) := by decide +kernel
theorem dr_cX17_run_62 : decode cX17_run 62 = .ok (.getfield 283, 3) := by decide +kernel
theorem dr_cX17_run_65 : decode cX17_run 65 = .ok (.iload_n 2, 1) := by decide +kernel
theorem dr_cX17_run_66 : decode cX17_run 66 = .ok (.if_icmp .ne 5, 3) := by decide +kernel
theorem dr_cX17_run_71 : decode cX17_run 71 = .ok (.aload_n 0, 1) := by decide +kernel
theorem dr_cX17_run_72 : decode cX17_run 72 = .ok (.dup, 1) := by decide +kernel
theorem dr_cX17_run_73 : decode cX17_run 73 = .ok (.getfield 283, 3) := by decide +kernel
theorem dr_cX17_run_76 : decode cX17_run 76 = .ok (.iconst 1, 1) := by decide +kernel
theorem dr_cX17_run_77 : decode cX17_run 77 = .ok (.iadd, 1) := by decide +kernel
theorem dr_cX17_run_78 : decode cX17_run 78 = .ok (.putfield 283, 3) := by decide +kernel
theorem dr_cX17_run_81 : decode cX17_run 81 = .ok (.iload 4, 2) := by decide +kernel
theorem dr_cX17_run_83 : decode cX17_run 83 = .ok (.aload 5, 2) := by decide +kernel
theorem dr_cX17_run_85 : decode cX17_run 85 = .ok (.getfield 117, 3) := by decide +kernel
theorem wr_9_220 : (Jvm.Cond.fieldLink "SpillForgeModel" (117 : Nat) "SpillForgeModel$Block" "rows" "Ljava/util/ArrayList;") ∈ gw := gw_9 220 rfl rfl
theorem dr_cX17_run_88 : decode cX17_run 88 = .ok (.invokevirtual 121, 3) := by decide +kernel
theorem wr_10_200 : (Jvm.Cond.methodLink "SpillForgeModel" (121 : Nat) ({ cls := "java/util/ArrayList", name := "size", desc := "()I" } : Jvm.MethodName)) ∈ gw := gw_10 200 rfl rfl
theorem dr_cX17_run_91 : decode cX17_run 91 = .ok (.if_icmp .ge 36, 3) := by decide +kernel
theorem dr_cX17_run_127 : decode cX17_run 127 = .ok (.aload 5, 2) := by decide +kernel
theorem dr_cX17_run_129 : decode cX17_run 129 = .ok (.getfield 109, 3) := by decide +kernel
theorem wr_9_223 : (Jvm.Cond.fieldLink "SpillForgeModel" (109 : Nat) "SpillForgeModel$Block" "end" "LSpillForgeModel$Row;") ∈ gw := gw_9 223 rfl rfl
theorem dr_cX17_run_132 : decode cX17_run 132 = .ok (.astore 6, 2) := by decide +kernel
theorem dr_cX17_run_134 : decode cX17_run 134 = .ok (.aload 6, 2) := by decide +kernel
theorem dr_cX17_run_136 : decode cX17_run 136 = .ok (.getfield 39, 3) := by decide +kernel
theorem dr_cX17_run_139 : decode cX17_run 139 = .ok (.bipush 32, 2) := by decide +kernel
theorem dr_cX17_run_141 : decode cX17_run 141 = .ok (.if_icmp .ne 23, 3) := by decide +kernel
theorem dr_cX17_run_164 : decode cX17_run 164 = .ok (.aload 6, 2) := by decide +kernel
theorem dr_cX17_run_166 : decode cX17_run 166 = .ok (.getfield 39, 3) := by decide +kernel
theorem dr_cX17_run_169 : decode cX17_run 169 = .ok (.bipush 30, 2) := by decide +kernel
theorem dr_cX17_run_171 : decode cX17_run 171 = .ok (.if_icmp .eq 20, 3) := by decide +kernel
theorem dr_cX17_run_191 : decode cX17_run 191 = .ok (.aload 5, 2) := by decide +kernel
theorem dr_cX17_run_193 : decode cX17_run 193 = .ok (.getfield 297, 3) := by decide +kernel
theorem wr_9_229 : (Jvm.Cond.fieldLink "SpillForgeModel" (297 : Nat) "SpillForgeModel$Block" "first" "I") ∈ gw := gw_9 229 rfl rfl
theorem dr_cX17_run_196 : decode cX17_run 196 = .ok (.goto 8, 3) := by decide +kernel
theorem dr_cX17_run_204 : decode cX17_run 204 = .ok (.istore_n 3, 1) := by decide +kernel
theorem dr_cX17_run_205 : decode cX17_run 205 = .ok (.iconst 0, 1) := by decide +kernel
theorem dr_cX17_run_206 : decode cX17_run 206 = .ok (.istore 4, 2) := by decide +kernel
theorem dr_cX17_run_208 : decode cX17_run 208 = .ok (.goto (-154), 3) := by decide +kernel
theorem dr_cX17_run_174 : decode cX17_run 174 = .ok (.aload_n 0, 1) := by decide +kernel
theorem dr_cX17_run_175 : decode cX17_run 175 = .ok (.aload 6, 2) := by decide +kernel
theorem dr_cX17_run_177 : decode cX17_run 177 = .ok (.getfield 141, 3) := by decide +kernel
theorem dr_cX17_run_180 : decode cX17_run 180 = .ok (.aload 6, 2) := by decide +kernel
theorem dr_cX17_run_182 : decode cX17_run 182 = .ok (.getfield 73, 3) := by decide +kernel
theorem dr_cX17_run_185 : decode cX17_run 185 = .ok (.invokevirtual 293, 3) := by decide +kernel
theorem dr_cX17_run_188 : decode cX17_run 188 = .ok (.ifCond .eq 11, 3) := by decide +kernel
theorem dr_cX17_run_199 : decode cX17_run 199 = .ok (.aload 5, 2) := by decide +kernel
theorem dr_cX17_run_201 : decode cX17_run 201 = .ok (.getfield 300, 3) := by decide +kernel
theorem wr_9_233 : (Jvm.Cond.fieldLink "SpillForgeModel" (300 : Nat) "SpillForgeModel$Block" "second" "I") ∈ gw := gw_9 233 rfl rfl
theorem dr_cX17_run_144 : decode cX17_run 144 = .ok (.aload_n 0, 1) := by decide +kernel
theorem dr_cX17_run_145 : decode cX17_run 145 = .ok (.aload_n 0, 1) := by decide +kernel
theorem dr_cX17_run_146 : decode cX17_run 146 = .ok (.aload 6, 2) := by decide +kernel
theorem dr_cX17_run_148 : decode cX17_run 148 = .ok (.getfield 141, 3) := by decide +kernel
theorem dr_cX17_run_151 : decode cX17_run 151 = .ok (.aload 6, 2) := by decide +kernel
theorem dr_cX17_run_153 : decode cX17_run 153 = .ok (.getfield 73, 3) := by decide +kernel
theorem dr_cX17_run_156 : decode cX17_run 156 = .ok (.invokevirtual 293, 3) := by decide +kernel
theorem dr_cX17_run_159 : decode cX17_run 159 = .ok (.putfield 277, 3) := by decide +kernel
theorem dr_cX17_run_162 : decode cX17_run 162 = .ok (.iconst 0, 1) := by decide +kernel
theorem dr_cX17_run_163 : decode cX17_run 163 = .ok (.ireturn, 1) := by decide +kernel
theorem dr_cX17_run_94 : decode cX17_run 94 = .ok (.aload_n 0, 1) := by decide +kernel
theorem dr_cX17_run_95 : decode cX17_run 95 = .ok (.aload 5, 2) := by decide +kernel
theorem dr_cX17_run_97 : decode cX17_run 97 = .ok (.getfield 117, 3) := by decide +kernel
theorem dr_cX17_run_100 : decode cX17_run 100 = .ok (.iload 4, 2) := by decide +kernel
theorem dr_cX17_run_102 : decode cX17_run 102 = .ok (.invokevirtual 124, 3) := by decide +kernel
theorem wr_10_201 : (Jvm.Cond.methodLink "SpillForgeModel" (124 : Nat) ({ cls := "java/util/ArrayList", name := "get", desc := "(I)Ljava/lang/Object;" } : Jvm.MethodName)) ∈ gw := gw_10 201 rfl rfl
theorem dr_cX17_run_105 : decode cX17_run 105 = .ok (.checkcast 40, 3) := by decide +kernel
theorem wr_10_202 : (Jvm.Cond.classLink "SpillForgeModel" (40 : Nat) "SpillForgeModel$Row") ∈ gw := gw_10 202 rfl rfl
theorem dr_cX17_run_108 : decode cX17_run 108 = .ok (.invokevirtual 289, 3) := by decide +kernel
theorem wr_11_96 : (Jvm.Cond.methodLink "SpillForgeModel" (289 : Nat) ({ cls := "SpillForgeModel", name := "step", desc := "(LSpillForgeModel$Row;)I" } : Jvm.MethodName)) ∈ gw := gw_11 96 rfl rfl
theorem wr_11_99 : (Jvm.Cond.code ({ cls := "SpillForgeModel", name := "step", desc := "(LSpillForgeModel$Row;)I" } : Jvm.MethodName) prog_14_method_30_code (4 : Nat) (Option.some Jvm.ClassFile.FieldType.int)) ∈ gw := gw_11 99 rfl rfl
theorem wr_11_98 : (Jvm.Cond.instanceMethod ({ cls := "SpillForgeModel", name := "step", desc := "(LSpillForgeModel$Row;)I" } : Jvm.MethodName)) ∈ gw := gw_11 98 rfl rfl
theorem wr_p_114 : Cond.selects "SpillForgeModel" ⟨"SpillForgeModel", "step", "(LSpillForgeModel$Row;)I"⟩ ⟨"SpillForgeModel", "step", "(LSpillForgeModel$Row;)I"⟩ ∈ gw := gw_p _ 114 rfl rfl rfl
theorem dr_cX17_run_111 : decode cX17_run 111 = .ok (.istore 6, 2) := by decide +kernel
theorem dr_cX17_run_113 : decode cX17_run 113 = .ok (.iload 6, 2) := by decide +kernel
theorem dr_cX17_run_115 : decode cX17_run 115 = .ok (.ifCond .lt 6, 3) := by decide +kernel
theorem dr_cX17_run_121 : decode cX17_run 121 = .ok (.iinc 4 1, 3) := by decide +kernel
theorem dr_cX17_run_124 : decode cX17_run 124 = .ok (.goto (-70), 3) := by decide +kernel
theorem dr_cX17_run_118 : decode cX17_run 118 = .ok (.iload 6, 2) := by decide +kernel
theorem dr_cX17_run_120 : decode cX17_run 120 = .ok (.ireturn, 1) := by decide +kernel
theorem dr_cX17_run_69 : decode cX17_run 69 = .ok (.iconst 4, 1) := by decide +kernel
theorem dr_cX17_run_70 : decode cX17_run 70 = .ok (.ireturn, 1) := by decide +kernel
theorem dr_cX17_run_9 : decode cX17_run 9 = .ok (.aload_n 0, 1) := by decide +kernel
theorem dr_cX17_run_10 : decode cX17_run 10 = .ok (.getfield 271, 3) := by decide +kernel
theorem dr_cX17_run_13 : decode cX17_run 13 = .ok (.iload_n 3, 1) := by decide +kernel
theorem dr_cX17_run_14 : decode cX17_run 14 = .ok (.iconst 0, 1) := by decide +kernel
theorem dr_cX17_run_15 : decode cX17_run 15 = .ok (.iastore, 1) := by decide +kernel
theorem dr_cX17_run_16 : decode cX17_run 16 = .ok (.aload_n 0, 1) := by decide +kernel
theorem dr_cX17_run_17 : decode cX17_run 17 = .ok (.getfield 274, 3) := by decide +kernel
theorem dr_cX17_run_20 : decode cX17_run 20 = .ok (.iload_n 3, 1) := by decide +kernel
theorem dr_cX17_run_21 : decode cX17_run 21 = .ok (.iconst 0, 1) := by decide +kernel
theorem dr_cX17_run_22 : decode cX17_run 22 = .ok (.iastore, 1) := by decide +kernel
theorem dr_cX17_run_23 : decode cX17_run 23 = .ok (.iinc 3 1, 3) := by decide +kernel
theorem dr_cX17_run_26 : decode cX17_run 26 = .ok (.goto (-24), 3) := by decide +kernel
theorem dr_cX17_rename_0 : decode cX17_rename 0 = .ok (.iconst 0, 1) := by decide +kernel
theorem dr_cX17_rename_1 : decode cX17_rename 1 = .ok (.istore_n 3, 1) := by decide +kernel
theorem dr_cX17_rename_2 : decode cX17_rename 2 = .ok (.iload_n 3, 1) := by decide +kernel
theorem dr_cX17_rename_3 : decode cX17_rename 3 = .ok (.aload_n 0, 1) := by decide +kernel
theorem dr_cX17_rename_4 : decode cX17_rename 4 = .ok (.invokevirtual 96, 3) := by decide +kernel
theorem dr_cX17_rename_7 : decode cX17_rename 7 = .ok (.if_icmp .ge 143, 3) := by decide +kernel
theorem dr_cX17_rename_150 : decode cX17_rename 150 = .ok (.return_, 1) := by decide +kernel
theorem dr_cX17_rename_10 : decode cX17_rename 10 = .ok (.aload_n 0, 1) := by decide +kernel
theorem dr_cX17_rename_11 : decode cX17_rename 11 = .ok (.iload_n 3, 1) := by decide +kernel
theorem dr_cX17_rename_12 : decode cX17_rename 12 = .ok (.invokevirtual 101, 3) := by decide +kernel
theorem dr_cX17_rename_15 : decode cX17_rename 15 = .ok (.astore 4, 2) := by decide +kernel
theorem dr_cX17_rename_17 : decode cX17_rename 17 = .ok (.iconst 0, 1) := by decide +kernel
theorem dr_cX17_rename_18 : decode cX17_rename 18 = .ok (.istore 5, 2) := by decide +kernel
theorem dr_cX17_rename_20 : decode cX17_rename 20 = .ok (.iload 5, 2) := by decide +kernel
theorem dr_cX17_rename_22 : decode cX17_rename 22 = .ok (.aload 4, 2) := by decide +kernel
theorem dr_cX17_rename_24 : decode cX17_rename 24 = .ok (.getfield 117, 3) := by decide +kernel
theorem dr_cX17_rename_27 : decode cX17_rename 27 = .ok (.invokevirtual 121, 3) := by decide +kernel
theorem dr_cX17_rename_30 : decode cX17_rename 30 = .ok (.if_icmp .gt 114, 3) := by decide +kernel
theorem dr_cX17_rename_144 : decode cX17_rename 144 = .ok (.iinc 3 1, 3) := by decide +kernel
theorem dr_cX17_rename_147 : decode cX17_rename 147 = .ok (.goto (-145), 3) := by decide +kernel
theorem dr_cX17_rename_33 : decode cX17_rename 33 = .ok (.iload 5, 2) := by decide +kernel
theorem dr_cX17_rename_35 : decode cX17_rename 35 = .ok (.aload 4, 2) := by decide +kernel
theorem dr_cX17_rename_37 : decode cX17_rename 37 = .ok (.getfield 117, 3) := by decide +kernel
theorem dr_cX17_rename_40 : decode cX17_rename 40 = .ok (.invokevirtual 121, 3) := by decide +kernel
theorem dr_cX17_rename_43 : decode cX17_rename 43 = .ok (.if_icmp .ge 19, 3) := by decide +kernel
theorem dr_cX17_rename_62 : decode cX17_rename 62 = .ok (.aload 4, 2) := by decide +kernel
theorem dr_cX17_rename_64 : decode cX17_rename 64 = .ok (.getfield 109, 3) := by decide +kernel
theorem dr_cX17_rename_67 : decode cX17_rename 67 = .ok (.astore 6, 2) := by decide +kernel
theorem dr_cX17_rename_69 : decode cX17_rename 69 = .ok (.aload 6, 2) := by decide +kernel
theorem dr_cX17_rename_71 : decode cX17_rename 71 = .ok (.invokevirtual 70, 3) := by decide +kernel
theorem dr_cX17_rename_74 : decode cX17_rename 74 = .ok (.ifCond .eq 18, 3) := by decide +kernel
theorem dr_cX17_rename_92 : decode cX17_rename 92 = .ok (.aload 6, 2) := by decide +kernel
theorem dr_cX17_rename_94 : decode cX17_rename 94 = .ok (.invokevirtual 76, 3) := by decide +kernel
theorem dr_cX17_rename_97 : decode cX17_rename 97 = .ok (.ifCond .eq 18, 3) := by decide +kernel
theorem dr_cX17_rename_115 : decode cX17_rename 115 = .ok (.aload 6, 2) := by decide +kernel
theorem dr_cX17_rename_117 : decode cX17_rename 117 = .ok (.invokevirtual 48, 3) := by decide +kernel
theorem dr_cX17_rename_120 : decode cX17_rename 120 = .ok (.ifCond .eq 18, 3) := by decide +kernel
theorem dr_cX17_rename_138 : decode cX17_rename 138 = .ok (.iinc 5 1, 3) := by decide +kernel
theorem dr_cX17_rename_141 : decode cX17_rename 141 = .ok (.goto (-121), 3) := by decide +kernel
theorem dr_cX17_rename_123 : decode cX17_rename 123 = .ok (.aload 6, 2) := by decide +kernel
theorem dr_cX17_rename_125 : decode cX17_rename 125 = .ok (.getfield 52, 3) := by decide +kernel
theorem dr_cX17_rename_128 : decode cX17_rename 128 = .ok (.iload_n 1, 1) := by decide +kernel
theorem dr_cX17_rename_129 : decode cX17_rename 129 = .ok (.if_icmp .ne 9, 3) := by decide +kernel
theorem dr_cX17_rename_132 : decode cX17_rename 132 = .ok (.aload 6, 2) := by decide +kernel
theorem dr_cX17_rename_134 : decode cX17_rename 134 = .ok (.iload_n 2, 1) := by decide +kernel
theorem dr_cX17_rename_135 : decode cX17_rename 135 = .ok (.putfield 52, 3) := by decide +kernel
theorem dr_cX17_rename_100 : decode cX17_rename 100 = .ok (.aload 6, 2) := by decide +kernel
theorem dr_cX17_rename_102 : decode cX17_rename 102 = .ok (.getfield 79, 3) := by decide +kernel
theorem dr_cX17_rename_105 : decode cX17_rename 105 = .ok (.iload_n 1, 1) := by decide +kernel
theorem dr_cX17_rename_106 : decode cX17_rename 106 = .ok (.if_icmp .ne 9, 3) := by decide +kernel
theorem dr_cX17_rename_109 : decode cX17_rename 109 = .ok (.aload 6, 2) := by decide +kernel
theorem dr_cX17_rename_111 : decode cX17_rename 111 = .ok (.iload_n 2, 1) := by decide +kernel
theorem dr_cX17_rename_112 : decode cX17_rename 112 = .ok (.putfield 79, 3) := by decide +kernel
theorem dr_cX17_rename_77 : decode cX17_rename 77 = .ok (.aload 6, 2) := by decide +kernel
theorem dr_cX17_rename_79 : decode cX17_rename 79 = .ok (.getfield 73, 3) := by decide +kernel
theorem dr_cX17_rename_82 : decode cX17_rename 82 = .ok (.iload_n 1, 1) := by decide +kernel
theorem dr_cX17_rename_83 : decode cX17_rename 83 = .ok (.if_icmp .ne 9, 3) := by decide +kernel
theorem dr_cX17_rename_86 : decode cX17_rename 86 = .ok (.aload 6, 2) := by decide +kernel
theorem dr_cX17_rename_88 : decode cX17_rename 88 = .ok (.iload_n 2, 1) := by decide +kernel
theorem dr_cX17_rename_89 : decode cX17_rename 89 = .ok (.putfield 73, 3) := by decide +kernel
theorem dr_cX17_rename_46 : decode cX17_rename 46 = .ok (.aload 4, 2) := by decide +kernel
theorem dr_cX17_rename_48 : decode cX17_rename 48 = .ok (.getfield 117, 3) := by decide +kernel
theorem dr_cX17_rename_51 : decode cX17_rename 51 = .ok (.iload 5, 2) := by decide +kernel
theorem dr_cX17_rename_53 : decode cX17_rename 53 = .ok (.invokevirtual 124, 3) := by decide +kernel
theorem dr_cX17_rename_56 : decode cX17_rename 56 = .ok (.checkcast 40, 3) := by decide +kernel
theorem dr_cX17_rename_59 : decode cX17_rename 59 = .ok (.goto 8, 3) := by decide +kernel