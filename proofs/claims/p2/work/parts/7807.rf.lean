theorem dr_cX17_run_0 : decode cX17_run 0 = .ok (.iconst 0, 1) := by decide +kernel
theorem dr_cX17_run_1 : decode cX17_run 1 = .ok (.istore_n 3, 1) := by decide +kernel
theorem dr_cX17_run_2 : decode cX17_run 2 = .ok (.iload_n 3, 1) := by decide +kernel
theorem dr_cX17_run_3 : decode cX17_run 3 = .ok (.sipush 2000, 3) := by decide +kernel
theorem dr_cX17_run_6 : decode cX17_run 6 = .ok (.if_icmp .ge 23, 3) := by decide +kernel
theorem dr_cX17_run_29 : decode cX17_run 29 = .ok (.aload_n 0, 1) := by decide +kernel
theorem dr_cX17_run_30 : decode cX17_run 30 = .ok (.iconst 0, 1) := by decide +kernel
theorem dr_cX17_run_31 : decode cX17_run 31 = .ok (.putfield 277, 3) := by decide +kernel
theorem dr_cX17_run_34 : decode cX17_run 34 = .ok (.aload_n 0, 1) := by decide +kernel
theorem dr_cX17_run_35 : decode cX17_run 35 = .ok (.iconst 0, 1) := by decide +kernel
theorem dr_cX17_run_36 : decode cX17_run 36 = .ok (.putfield 280, 3) := by decide +kernel
theorem dr_cX17_run_39 : decode cX17_run 39 = .ok (.aload_n 0, 1) := by decide +kernel
theorem dr_cX17_run_40 : decode cX17_run 40 = .ok (.iconst 0, 1) := by decide +kernel
theorem dr_cX17_run_41 : decode cX17_run 41 = .ok (.putfield 283, 3) := by decide +kernel
theorem dr_cX17_run_44 : decode cX17_run 44 = .ok (.aload_n 0, 1) := by decide +kernel
theorem dr_cX17_run_45 : decode cX17_run 45 = .ok (.iconst 0, 1) := by decide +kernel
theorem dr_cX17_run_46 : decode cX17_run 46 = .ok (.putfield 286, 3) := by decide +kernel
theorem dr_cX17_run_49 : decode cX17_run 49 = .ok (.iconst 0, 1) := by decide +kernel
theorem dr_cX17_run_50 : decode cX17_run 50 = .ok (.istore_n 3, 1) := by decide +kernel
theorem dr_cX17_run_51 : decode cX17_run 51 = .ok (.iconst 0, 1) := by decide +kernel
theorem dr_cX17_run_52 : decode cX17_run 52 = .ok (.istore 4, 2) := by decide +kernel
theorem dr_cX17_run_54 : decode cX17_run 54 = .ok (.aload_n 1, 1) := by decide +kernel
theorem dr_cX17_run_55 : decode cX17_run 55 = .ok (.iload_n 3, 1) := by decide +kernel
theorem dr_cX17_run_56 : decode cX17_run 56 = .ok (.invokevirtual 101, 3) := by decide +kernel
theorem dr_cX17_run_59 : decode cX17_run 59 = .ok (.astore 5, 2) := by decide +kernel
theorem dr_cX17_run_61 : decode cX17_run 61 = .ok (.aload_n 0, 1) := by decide +kernel
theorem dr_cX17_run_62 : decode cX17_run 62 = .ok (.getfield 283, 3) := by decide +kernel
theorem dr_cX17_run_65 : decode cX17_run 65 = .ok (.iload_n 2, 1) := by decide +kernel
theorem dr_cX17_run_66 : decode cX17_run 66 = .ok (.if_icmp .ne 5, 3) := by decide +kernel
theorem dr_cX17_run_71 : decode cX17_run 71 = .ok (.aload_n 0, 1) := by decide +kernel
theorem dr_cX17_run_72 : decode cX17_run 72 = .ok (.dup, 1) := by decide +kernel
theorem dr_cX17_run_73 : decode cX17_run 73 = .ok (.getfield 283, 3) := by decide +kernel
theorem dr_cX17_run_76 : decode cX17_run 76 = .ok (.iconst 1, 1) := by decide +kernel
theorem dr_cX17_run_77 : decode cX17_run 77 = .ok (.iadd, 1) := by decide +kernel
theorem dr_cX17_run_78 : decode cX17_run 78 = .ok (.putfield 283, 3) := by decide +kernel
theorem dr_cX17_run_81 : decode cX17_run 81 = .ok (.iload 4, 2) := by decide +kernel
theorem dr_cX17_run_83 : decode cX17_run 83 = .ok (.aload 5, 2) := by decide +kernel
theorem dr_cX17_run_85 : decode cX17_run 85 = .ok (.getfield 117, 3) := by decide +kernel
theorem wr_9_220 : (Jvm.Cond.fieldLink "SpillForgeModel" (117 : Nat) "SpillForgeModel$Block" "rows" "Ljava/util/ArrayList;") ∈ gw := gw_9 220 rfl rfl
theorem dr_cX17_run_88 : decode cX17_run 88 = .ok (.invokevirtual 121, 3) := by decide +kernel
theorem wr_10_200 : (Jvm.Cond.methodLink "SpillForgeModel" (121 : Nat) ({ cls := "java/util/ArrayList", name := "size", desc := "()I" } : Jvm.MethodName)) ∈ gw := gw_10 200 rfl rfl
theorem dr_cX17_run_91 : decode cX17_run 91 = .ok (.if_icmp .ge 36, 3) := by decide +kernel
theorem dr_cX17_run_127 : decode cX17_run 127 = .ok (.aload 5, 2) := by decide +kernel
theorem dr_cX17_run_129 : decode cX17_run 129 = .ok (.getfield 109, 3) := by decide +kernel
theorem wr_9_223 : (Jvm.Cond.fieldLink "SpillForgeModel" (109 : Nat) "SpillForgeModel$Block" "end" "LSpillForgeModel$Row;") ∈ gw := gw_9 223 rfl rfl
theorem dr_cX17_run_132 : decode cX17_run 132 = .ok (.astore 6, 2) := by decide +kernel
theorem dr_cX17_run_134 : decode cX17_run 134 = .ok (.aload 6, 2) := by decide +kernel
theorem dr_cX17_run_136 : decode cX17_run 136 = .ok (.getfield 39, 3) := by decide +kernel
theorem dr_cX17_run_139 : decode cX17_run 139 = .ok (.bipush 32, 2) := by decide +kernel
theorem dr_cX17_run_141 : decode cX17_run 141 = .ok (.if_icmp .ne 23, 3) := by decide +kernel
theorem dr_cX17_run_164 : decode cX17_run 164 = .ok (.aload 6, 2) := by decide +kernel
theorem dr_cX17_run_166 : decode cX17_run 166 = .ok (.getfield 39, 3) := by decide +kernel
theorem dr_cX17_run_169 : decode cX17_run 169 = .ok (.bipush 30, 2) := by decide +kernel
theorem dr_cX17_run_171 : decode cX17_run 171 = .ok (.if_icmp .eq 20, 3) := by decide +kernel
theorem dr_cX17_run_191 : decode cX17_run 191 = .ok (.aload 5, 2) := by decide +kernel
theorem dr_cX17_run_193 : decode cX17_run 193 = .ok (.getfield 297, 3) := by decide +kernel
theorem wr_9_229 : (Jvm.Cond.fieldLink "SpillForgeModel" (297 : Nat) "SpillForgeModel$Block" "first" "I") ∈ gw := gw_9 229 rfl rfl
theorem dr_cX17_run_196 : decode cX17_run 196 = .ok (.goto 8, 3) := by decide +kernel
theorem dr_cX17_run_204 : decode cX17_run 204 = .ok (.istore_n 3, 1) := by decide +kernel
theorem dr_cX17_run_205 : decode cX17_run 205 = .ok (.iconst 0, 1) := by decide +kernel
theorem dr_cX17_run_206 : decode cX17_run 206 = .ok (.istore 4, 2) := by decide +kernel
theorem dr_cX17_run_208 : decode cX17_run 208 = .ok (.goto (-154), 3) := by decide +kernel
theorem dr_cX17_run_174 : decode cX17_run 174 = .ok (.aload_n 0, 1) := by decide +kernel
theorem dr_cX17_run_175 : decode cX17_run 175 = .ok (.aload 6, 2) := by decide +kernel
theorem dr_cX17_run_177 : decode cX17_run 177 = .ok (.getfield 141, 3) := by decide +kernel
theorem dr_cX17_run_180 : decode cX17_run 180 = .ok (.aload 6, 2) := by decide +kernel
theorem dr_cX17_run_182 : decode cX17_run 182 = .ok (.getfield 73, 3) := by decide +kernel
theorem dr_cX17_run_185 : decode cX17_run 185 = .ok (.invokevirtual 293, 3) := by decide +kernel
theorem dr_cX17_run_188 : decode cX17_run 188 = .ok (.ifCond .eq 11, 3) := by decide +kernel
theorem dr_cX17_run_199 : decode cX17_run 199 = .ok (.aload 5, 2) := by decide +kernel
theorem dr_cX17_run_201 : decode cX17_run 201 = .ok (.getfield 300, 3) := by decide +kernel
theorem wr_9_233 : (Jvm.Cond.fieldLink "SpillForgeModel" (300 : Nat) "SpillForgeModel$Block" "second" "I") ∈ gw := gw_9 233 rfl rfl
theorem dr_cX17_run_144 : decode cX17_run 144 = .ok (.aload_n 0, 1) := by decide +kernel
theorem dr_cX17_run_145 : decode cX17_run 145 = .ok (.aload_n 0, 1) := by decide +kernel
theorem dr_cX17_run_146 : decode cX17_run 146 = .ok (.aload 6, 2) := by decide +kernel
theorem dr_cX17_run_148 : decode cX17_run 148 = .ok (.getfield 141, 3) := by decide +kernel
theorem dr_cX17_run_151 : decode cX17_run 151 = .ok (.aload 6, 2) := by decide +kernel
theorem dr_cX17_run_153 : decode cX17_run 153 = .ok (.getfield 73, 3) := by decide +kernel
theorem dr_cX17_run_156 : decode cX17_run 156 = .ok (.invokevirtual 293, 3) := by decide +kernel
theorem dr_cX17_run_159 : decode cX17_run 159 = .ok (.putfield 277, 3) := by decide +kernel
theorem dr_cX17_run_162 : decode cX17_run 162 = .ok (.iconst 0, 1) := by decide +kernel
theorem dr_cX17_run_163 : decode cX17_run 163 = .ok (.ireturn, 1) := by decide +kernel
theorem dr_cX17_run_94 : decode cX17_run 94 = .ok (.aload_n 0, 1) := by decide +kernel
theorem dr_cX17_run_95 : decode cX17_run 95 = .ok (.aload 5, 2) := by decide +kernel
theorem dr_cX17_run_97 : decode cX17_run 97 = .ok (.getfield 117, 3) := by decide +kernel
theorem dr_cX17_run_100 : decode cX17_run 100 = .ok (.iload 4, 2) := by decide +kernel
theorem dr_cX17_run_102 : decode cX17_run 102 = .ok (.invokevirtual 124, 3) := by decide +kernel
theorem wr_10_201 : (Jvm.Cond.methodLink "SpillForgeModel" (124 : Nat) ({ cls := "java/util/ArrayList", name := "get", desc := "(I)Ljava/lang/Object;" } : Jvm.MethodName)) ∈ gw := gw_10 201 rfl rfl
theorem dr_cX17_run_105 : decode cX17_run 105 = .ok (.checkcast 40, 3) := by decide +kernel
theorem wr_10_202 : (Jvm.Cond.classLink "SpillForgeModel" (40 : Nat) "SpillForgeModel$Row") ∈ gw := gw_10 202 rfl rfl
theorem dr_cX17_run_108 : decode cX17_run 108 = .ok (.invokevirtual 289, 3) := by decide +kernel
theorem wr_11_96 : (Jvm.Cond.methodLink "SpillForgeModel" (289 : Nat) ({ cls := "SpillForgeModel", name := "step", desc := "(LSpillForgeModel$Row;)I" } : Jvm.MethodName)) ∈ gw := gw_11 96 rfl rfl
theorem wr_11_99 : (Jvm.Cond.code ({ cls := "SpillForgeModel", name := "step", desc := "(LSpillForgeModel$Row;)I" } : Jvm.MethodName) prog_14_method_30_code (4 : Nat) (Option.some Jvm.ClassFile.FieldType.int)) ∈ gw := gw_11 99 rfl rfl
theorem wr_11_98 : (Jvm.Cond.instanceMethod ({ cls := "SpillForgeModel", name := "step", desc := "(LSpillForgeModel$Row;)I" } : Jvm.MethodName)) ∈ gw := gw_11 98 rfl rfl
theorem wr_p_114 : Cond.selects "SpillForgeModel" ⟨"SpillForgeModel", "step", "(LSpillForgeModel$Row;)I"⟩ ⟨"SpillForgeModel", "step", "(LSpillForgeModel$Row;)I"⟩ ∈ gw := gw_p _ 114 rfl rfl rfl
theorem dr_cX17_run_111 : decode cX17_run 111 = .ok (.istore 6, 2) := by decide +kernel
theorem dr_cX17_run_113 : decode cX17_run 113 = .ok (.iload 6, 2) := by decide +kernel
theorem dr_cX17_run_115 : decode cX17_run 115 = .ok (.ifCond .lt 6, 3) := by decide +kernel
theorem dr_cX17_run_121 : decode cX17_run 121 = .ok (.iinc 4 1, 3) := by decide +kernel
theorem dr_cX17_run_124 : decode cX17_run 124 = .ok (.goto (-70), 3) := by decide +kernel
theorem dr_cX17_run_118 : decode cX17_run 118 = .ok (.iload 6, 2) := by decide +kernel
theorem dr_cX17_run_120 : decode cX17_run 120 = .ok (.ireturn, 1) := by decide +kernel
theorem dr_cX17_run_69 : decode cX17_run 69 = .ok (.iconst 4, 1) := by decide +kernel
theorem dr_cX17_run_70 : decode cX17_run 70 = .ok (.ireturn, 1) := by decide +kernel
theorem dr_cX17_run_9 : decode cX17_run 9 = .ok (.aload_n 0, 1) := by decide +kernel
theorem dr_cX17_run_10 : decode cX17_run 10 = .ok (.getfield 271, 3) := by decide +kernel
theorem dr_cX17_run_13 : decode cX17_run 13 = .ok (.iload_n 3, 1) := by decide +kernel
theorem dr_cX17_run_14 : decode cX17_run 14 = .ok (.iconst 0, 1) := by decide +kernel
theorem dr_cX17_run_15 : decode cX17_run 15 = .ok (.iastore, 1) := by decide +kernel
theorem dr_cX17_run_16 : decode cX17_run 16 = .ok (.aload_n 0, 1) := by decide +kernel
theorem dr_cX17_run_17 : decode cX17_run 17 = .ok (.getfield 274, 3) := by decide +kernel
theorem dr_cX17_run_20 : decode cX17_run 20 = .ok (.iload_n 3, 1) := by decide +kernel
theorem dr_cX17_run_21 : decode cX17_run 21 = .ok (.iconst 0, 1) := by decide +kernel
theorem dr_cX17_run_22 : decode cX17_run 22 = .ok (.iastore, 1) := by decide +kernel
theorem dr_cX17_run_23 : decode cX17_run 23 = .ok (.iinc 3 1, 3) := by decide +kernel
theorem dr_cX17_run_26 : decode cX17_run 26 = .ok (.goto (-24), 3) := by decide +kernel
theorem dr_cX17_rename_0 : decode cX17_rename 0 = .ok (.iconst 0, 1) := by decide +kernel
theorem dr_cX17_rename_1 : decode cX17_rename 1 = .ok (.istore_n 3, 1) := by decide +kernel
theorem dr_cX17_rename_2 : decode cX17_rename 2 = .ok (.iload_n 3, 1) := by decide +kernel
theorem dr_cX17_rename_3 : decode cX17_rename 3 = .ok (.aload_n 0, 1) := by decide +kernel
theorem dr_cX17_rename_4 : decode cX17_rename 4 = .ok (.invokevirtual 96, 3) := by decide +kernel
theorem dr_cX17_rename_7 : decode cX17_rename 7 = .ok (.if_icmp .ge 143, 3) := by decide +kernel
theorem dr_cX17_rename_150 : decode cX17_rename 150 = .ok (.return_, 1) := by decide +kernel
theorem dr_cX17_rename_10 : decode cX17_rename 10 = .ok (.aload_n 0, 1) := by decide +kernel
theorem dr_cX17_rename_11 : decode cX17_rename 11 = .ok (.iload_n 3, 1) := by decide +kernel
theorem dr_cX17_rename_12 : decode cX17_rename 12 = .ok (.invokevirtual 101, 3) := by decide +kernel
theorem dr_cX17_rename_15 : decode cX17_rename 15 = .ok (.astore 4, 2) := by decide +kernel
theorem dr_cX17_rename_17 : decode cX17_rename 17 = .ok (.iconst 0, 1) := by decide +kernel
theorem dr_cX17_rename_18 : decode cX17_rename 18 = .ok (.istore 5, 2) := by decide +kernel
theorem dr_cX17_rename_20 : decode cX17_rename 20 = .ok (.iload 5, 2) := by decide +kernel
theorem dr_cX17_rename_22 : decode cX17_rename 22 = .ok (.aload 4, 2) := by decide +kernel
theorem dr_cX17_rename_24 : decode cX17_rename 24 = .ok (.getfield 117, 3) := by decide +kernel
theorem dr_cX17_rename_27 : decode cX17_rename 27 = .ok (.invokevirtual 121, 3) := by decide +kernel
theorem dr_cX17_rename_30 : decode cX17_rename 30 = .ok (.if_icmp .gt 114, 3) := by decide +kernel
theorem dr_cX17_rename_144 : decode cX17_rename 144 = .ok (.iinc 3 1, 3) := by decide +kernel
theorem dr_cX17_rename_147 : decode cX17_rename 147 = .ok (.goto (-145), 3) := by decide +kernel
theorem dr_cX17_rename_33 : decode cX17_rename 33 = .ok (.iload 5, 2) := by decide +kernel
theorem dr_cX17_rename_35 : decode cX17_rename 35 = .ok (.aload 4, 2) := by decide +kernel
theorem dr_cX17_rename_37 : decode cX17_rename 37 = .ok (.getfield 117, 3) := by decide +kernel
theorem dr_cX17_rename_40 : decode cX17_rename 40 = .ok (.invokevirtual 121, 3) := by decide +kernel
theorem dr_cX17_rename_43 : decode cX17_rename 43 = .ok (.if_icmp .ge 19, 3) := by decide +kernel
theorem dr_cX17_rename_62 : decode cX17_rename 62 = .ok (.aload 4, 2) := by decide +kernel
theorem dr_cX17_rename_64 : decode cX17_rename 64 = .ok (.getfield 109, 3) := by decide +kernel
theorem dr_cX17_rename_67 : decode cX17_rename 67 = .ok (.astore 6, 2) := by decide +kernel
theorem dr_cX17_rename_69 : decode cX17_rename 69 = .ok (.aload 6, 2) := by decide +kernel
theorem dr_cX17_rename_71 : decode cX17_rename 71 = .ok (.invokevirtual 70, 3) := by decide +kernel
theorem dr_cX17_rename_74 : decode cX17_rename 74 = .ok (.ifCond .eq 18, 3) := by decide +kernel
theorem dr_cX17_rename_92 : decode cX17_rename 92 = .ok (.aload 6, 2) := by decide +kernel
theorem dr_cX17_rename_94 : decode cX17_rename 94 = .ok (.invokevirtual 76, 3) := by decide +kernel
theorem dr_cX17_rename_97 : decode cX17_rename 97 = .ok (.ifCond .eq 18, 3) := by decide +kernel
theorem dr_cX17_rename_115 : decode cX17_rename 115 = .ok (.aload 6, 2) := by decide +kernel
theorem dr_cX17_rename_117 : decode cX17_rename 117 = .ok (.invokevirtual 48, 3) := by decide +kernel
theorem dr_cX17_rename_120 : decode cX17_rename 120 = .ok (.ifCond .eq 18, 3) := by decide +kernel
theorem dr_cX17_rename_138 : decode cX17_rename 138 = .ok (.iinc 5 1, 3) := by decide +kernel
theorem dr_cX17_rename_141 : decode cX17_rename 141 = .ok (.goto (-121), 3) := by decide +kernel
theorem dr_cX17_rename_123 : decode cX17_rename 123 = .ok (.aload 6, 2) := by decide +kernel
theorem dr_cX17_rename_125 : decode cX17_rename 125 = .ok (.getfield 52, 3) := by decide +kernel
theorem dr_cX17_rename_128 : decode cX17_rename 128 = .ok (.iload_n 1, 1) := by decide +kernel
theorem dr_cX17_rename_129 : decode cX17_rename 129 = .ok (.if_icmp .ne 9, 3) := by decide +kernel
theorem dr_cX17_rename_132 : decode cX17_rename 132 = .ok (.aload 6, 2) := by decide +kernel
theorem dr_cX17_rename_134 : decode cX17_rename 134 = .ok (.iload_n 2, 1) := by decide +kernel
theorem dr_cX17_rename_135 : decode cX17_rename 135 = .ok (.putfield 52, 3) := by decide +kernel
theorem dr_cX17_rename_100 : decode cX17_rename 100 = .ok (.aload 6, 2) := by decide +kernel
theorem dr_cX17_rename_102 : decode cX17_rename 102 = .ok (.getfield 79, 3) := by decide +kernel
theorem dr_cX17_rename_105 : decode cX17_rename 105 = .ok (.iload_n 1, 1) := by decide +kernel
theorem dr_cX17_rename_106 : decode cX17_rename 106 = .ok (.if_icmp .ne 9, 3) := by decide +kernel
theorem dr_cX17_rename_109 : decode cX17_rename 109 = .ok (.aload 6, 2) := by decide +kernel
theorem dr_cX17_rename_111 : decode cX17_rename 111 = .ok (.iload_n 2, 1) := by decide +kernel
theorem dr_cX17_rename_112 : decode cX17_rename 112 = .ok (.putfield 79, 3) := by decide +kernel
theorem dr_cX17_rename_77 : decode cX17_rename 77 = .ok (.aload 6, 2) := by decide +kernel
theorem dr_cX17_rename_79 : decode cX17_rename 79 = .ok (.getfield 73, 3) := by decide +kernel
theorem dr_cX17_rename_82 : decode cX17_rename 82 = .ok (.iload_n 1, 1) := by decide +kernel
theorem dr_cX17_rename_83 : decode cX17_rename 83 = .ok (.if_icmp .ne 9, 3) := by decide +kernel
theorem dr_cX17_rename_86 : decode cX17_rename 86 = .ok (.aload 6, 2) := by decide +kernel
theorem dr_cX17_rename_88 : decode cX17_rename 88 = .ok (.iload_n 2, 1) := by decide +kernel
theorem dr_cX17_rename_89 : decode cX17_rename 89 = .ok (.putfield 73, 3) := by decide +kernel
theorem dr_cX17_rename_46 : decode cX17_rename 46 = .ok (.aload 4, 2) := by decide +kernel
theorem dr_cX17_rename_48 : decode cX17_rename 48 = .ok (.getfield 117, 3) := by decide +kernel
theorem dr_cX17_rename_51 : decode cX17_rename 51 = .ok (.iload 5, 2) := by decide +kernel
theorem dr_cX17_rename_53 : decode cX17_rename 53 = .ok (.invokevirtual 124, 3) := by decide +kernel
theorem dr_cX17_rename_56 : decode cX17_rename 56 = .ok (.checkcast 40, 3) := by decide +kernel
theorem dr_cX17_rename_59 : decode cX17_rename 59 = .ok (.goto 8, 3) := by decide +kernel
abbrev ky_161235_SpillForgeModel_run : gKey := (cX17_run, 7, "SpillForgeModel", (some FieldType.int), [], "run", fun _ _ => True)
def pt_161235_SpillForgeModel_run (D : va_G) (I : FieldType → ClassId) (γ el : Nat → Nat → Nat) (P161229 : List Nat) (F161230 : Nat → va_E) (q161231 : Nat) (q161232 : Nat) (p161233 : Int32) : Option Value → va_W → Nat → Nat → Prop := fun r w dc ds => ∃ (F165173 : Nat → va_E) (o165172 : Int32), r = some (.int o165172) ∧ w = va_pl P161229 F165173 ∧ RS D I P161229 F165173 γ el ∧ rStr γ [] F161230 F165173 ∧ dc ≤ 0 ∧ ds ≤ 0 ∧ gB o165172 0 5
set_option maxRecDepth 100000 in
set_option maxHeartbeats 4000000 in
theorem ct_161235_SpillForgeModel_run (l : Launch) (hl0 : l.stackTraces = false) (D : va_G) (I : FieldType → ClassId) (γ el : Nat → Nat → Nat) (P161229 : List Nat) (F161230 : Nat → va_E) (q161231 : Nat) (q161232 : Nat) (p161233 : Int32) (hT : RS D I P161229 F161230 γ el) (htq161231 : rKd γ q161231 10) (htq161232 : rKd γ q161232 9) (bp161233 : gB p161233 1 100000) (x161234 : 0 < γ 6 (γ 1 q161232)) : CtA (gV D I) l yX17_run cX17_run 7 (some FieldType.int) 4 85 0 0 [.ref q161231, .ref q161232, .int p161233] (va_pl P161229 F161230) (pt_161235_SpillForgeModel_run D I γ el P161229 F161230 q161231 q161232 p161233) gNA := by
  refine CtA_of hl0 (by decide) (Nat.le_of_ble_eq_true rfl) ?_
  refine G_iconst 0 dr_cX17_run_0 (by decide +kernel) ?_
  refine G_istore_n (L' := [(3, .int 0), (0, .ref q161231), (1, .ref q161232), (2, .int p161233)]) dr_cX17_run_1 (Nat.le_of_ble_eq_true rfl) rfl ?_
  have hlp2_164436 : ∀ (n2_164436 : Nat) (F164434 : Nat → va_E) (g164433 : Int32), gB g164433 0 2000 → RS D I P161229 F164434 γ el → rStr γ [] F161230 F164434 → ((2001 : Int) - g164433.toInt).toNat < n2_164436 → G (gV D I) l (gRm 4 85 0 0) (gMA (gV D I) (pt_161235_SpillForgeModel_run D I γ el P161229 F161230 q161231 q161232 p161233) gNA 0 0) ky_161235_SpillForgeModel_run 2 [(3, .int g164433), (0, .ref q161231), (1, .ref q161232), (2, .int p161233)] [] (va_pl P161229 F164434) 0 0 := by
    intro n2_164436
    induction n2_164436 with
    | zero => intro F164434 g164433 bg164433 hT164435 hs164436 hm2_164436; exact absurd hm2_164436 (Nat.not_lt_zero _)
    | succ n2_164436 ih2_164436 =>
      intro F164434 g164433 bg164433 hT164435 hs164436 hm2_164436
      have hs164438 : rStr γ [] F161230 F164434 := fun b h0 hb hw => (hs164436 b h0 hb hw).trans ((rStr_rf (γ := γ) (W := []) (F := F161230)) b h0 hb hw).symm
      have hs164439 : rStr γ [] F161230 F164434 := rStr_tr (rStr_rf (γ := γ) (W := []) (F := F161230)) hs164438
      have hm164440 : q161231 ∈ P161229 := RS_m hT164435 htq161231 (by decide)
      obtain ⟨q164442, q164443, p164444, p164445, p164446, p164447, p164448, p164449, p164450, p164451, p164452, p164453, p164454, p164455, p164456, p164457, p164458, he164441, hB164485, ht164459, ht164460, ht164461, ht164462, ht164463, ht164464, ht164465, ht164466, ht164467, ht164468, ht164469, ht164470, ht164471, ht164472, ht164473, ht164474, ht164475, ht164476, ht164477, ht164478, ht164479, ht164480, ht164481, ht164482, hB164486⟩ := show rk_10 γ (F164434 q161231) from RS_o hT164435 htq161231
      have ac164487 : (fI (F164434 q161231) 26).toInt = p164453.toInt := by rw [he164441]; rfl
      have bp164453 : gB p164453 0 100000 := (hB164485.2.2.2.2.2.1)
      have ac164488 : (fI (F164434 q161231) 26).toInt = p164453.toInt := by rw [he164441]; rfl
      refine G_iload_n 0 dr_cX17_run_2 rfl ?_
      refine G_sipush 2000 dr_cX17_run_3 (by decide +kernel) ?_
      refine G_icmp_ge 29 dr_cX17_run_6 (by decide +kernel) (fun hc164489 => ?_) (fun hc164489 => ?_)
      · have r164490 : 2000 ≤ g164433.toInt := gj_leL hc164489 (show Int32.toInt 2000 = 2000 by decide)
        have bg164433' : gB g164433 2000 2000 := ⟨by omega, by omega⟩
        refine G_aload_n 1 dr_cX17_run_29 rfl ?_
        refine G_iconst 0 dr_cX17_run_30 (by decide +kernel) ?_
        refine Gp_put 24 hm164440 he164441 dr_cX17_run_31 (gk_X17 D I) (Nat.le_of_ble_eq_true rfl) wr_7_98 rfl rfl rfl (Nat.le_of_ble_eq_true rfl) (fun F164491 e164492 n164493 => ?_)
        have he164494 : F164491 q161231 = .inr (22, [.ref (γ 9 0), .ref (γ 9 1), .ref (γ 9 2), .ref (γ 9 3), .ref (γ 9 4), .ref (γ 9 5), .ref (γ 9 6), .ref (γ 9 7), .ref (γ 9 8), .int p164444, .int p164445, .int p164446, .int p164447, .int p164448, .int p164449, .ref (γ 9 15), .ref (γ 9 16), .ref (γ 9 17), .ref (γ 9 18), .ref (γ 9 19), .ref (γ 9 20), .ref (γ 9 21), .ref (γ 9 22), .int p164450, .int 0, .int p164452, .int p164453, .int p164454, .ref q164442, .ref (γ 9 29), .int p164455, .ref (γ 9 31), .int p164456, .int p164457, .int p164458, .ref q164443]) := e164492
        have hs164495 : rStr γ [] F161230 F164491 := rStr_put hs164436 n164493 htq161231 (by decide)
        refine G_aload_n 1 dr_cX17_run_34 rfl ?_
        refine G_iconst 0 dr_cX17_run_35 (by decide +kernel) ?_
        refine Gp_put 25 hm164440 he164494 dr_cX17_run_36 (gk_X17 D I) (Nat.le_of_ble_eq_true rfl) wr_7_99 rfl rfl rfl (Nat.le_of_ble_eq_true rfl) (fun F164496 e164497 n164498 => ?_)
        have he164499 : F164496 q161231 = .inr (22, [.ref (γ 9 0), .ref (γ 9 1), .ref (γ 9 2), .ref (γ 9 3), .ref (γ 9 4), .ref (γ 9 5), .ref (γ 9 6), .ref (γ 9 7), .ref (γ 9 8), .int p164444, .int p164445, .int p164446, .int p164447, .int p164448, .int p164449, .ref (γ 9 15), .ref (γ 9 16), .ref (γ 9 17), .ref (γ 9 18), .ref (γ 9 19), .ref (γ 9 20), .ref (γ 9 21), .ref (γ 9 22), .int p164450, .int 0, .int 0, .int p164453, .int p164454, .ref q164442, .ref (γ 9 29), .int p164455, .ref (γ 9 31), .int p164456, .int p164457, .int p164458, .ref q164443]) := e164497
        have hs164500 : rStr γ [] F161230 F164496 := rStr_put hs164495 n164498 htq161231 (by decide)
        have n164501 : ∀ b, b ≠ q161231 → F164496 b = F164434 b := fun b hb => (n164498 b hb).trans (n164493 b hb)
        refine G_aload_n 1 dr_cX17_run_39 rfl ?_
        refine G_iconst 0 dr_cX17_run_40 (by decide +kernel) ?_
        refine Gp_put 26 hm164440 he164499 dr_cX17_run_41 (gk_X17 D I) (Nat.le_of_ble_eq_true rfl) wr_7_100 rfl rfl rfl (Nat.le_of_ble_eq_true rfl) (fun F164502 e164503 n164504 => ?_)
        have he164505 : F164502 q161231 = .inr (22, [.ref (γ 9 0), .ref (γ 9 1), .ref (γ 9 2), .ref (γ 9 3), .ref (γ 9 4), .ref (γ 9 5), .ref (γ 9 6), .ref (γ 9 7), .ref (γ 9 8), .int p164444, .int p164445, .int p164446, .int p164447, .int p164448, .int p164449, .ref (γ 9 15), .ref (γ 9 16), .ref (γ 9 17), .ref (γ 9 18), .ref (γ 9 19), .ref (γ 9 20), .ref (γ 9 21), .ref (γ 9 22), .int p164450, .int 0, .int 0, .int 0, .int p164454, .ref q164442, .ref (γ 9 29), .int p164455, .ref (γ 9 31), .int p164456, .int p164457, .int p164458, .ref q164443]) := e164503
        have hs164506 : rStr γ [] F161230 F164502 := rStr_put hs164500 n164504 htq161231 (by decide)
        have n164507 : ∀ b, b ≠ q161231 → F164502 b = F164434 b := fun b hb => (n164504 b hb).trans (n164501 b hb)
        refine G_aload_n 1 dr_cX17_run_44 rfl ?_
        refine G_iconst 0 dr_cX17_run_45 (by decide +kernel) ?_
        refine Gp_put 27 hm164440 he164505 dr_cX17_run_46 (gk_X17 D I) (Nat.le_of_ble_eq_true rfl) wr_7_101 rfl rfl rfl (Nat.le_of_ble_eq_true rfl) (fun F164508 e164509 n164510 => ?_)
        have he164511 : F164508 q161231 = .inr (22, [.ref (γ 9 0), .ref (γ 9 1), .ref (γ 9 2), .ref (γ 9 3), .ref (γ 9 4), .ref (γ 9 5), .ref (γ 9 6), .ref (γ 9 7), .ref (γ 9 8), .int p164444, .int p164445, .int p164446, .int p164447, .int p164448, .int p164449, .ref (γ 9 15), .ref (γ 9 16), .ref (γ 9 17), .ref (γ 9 18), .ref (γ 9 19), .ref (γ 9 20), .ref (γ 9 21), .ref (γ 9 22), .int p164450, .int 0, .int 0, .int 0, .int 0, .ref q164442, .ref (γ 9 29), .int p164455, .ref (γ 9 31), .int p164456, .int p164457, .int p164458, .ref q164443]) := e164509
        have hs164512 : rStr γ [] F161230 F164508 := rStr_put hs164506 n164510 htq161231 (by decide)
        have n164513 : ∀ b, b ≠ q161231 → F164508 b = F164434 b := fun b hb => (n164510 b hb).trans (n164507 b hb)
        refine G_iconst 0 dr_cX17_run_49 (by decide +kernel) ?_
        refine G_istore_n (L' := [(3, .int 0), (0, .ref q161231), (1, .ref q161232), (2, .int p161233)]) dr_cX17_run_50 (Nat.le_of_ble_eq_true rfl) rfl ?_
        refine G_iconst 0 dr_cX17_run_51 (by decide +kernel) ?_
        refine G_istore (L' := [(4, .int 0), (3, .int 0), (0, .ref q161231), (1, .ref q161232), (2, .int p161233)]) dr_cX17_run_52 (Nat.le_of_ble_eq_true rfl) rfl ?_
        have hT164514 : RS D I P161229 F164508 γ el := RS_set hT164435 n164513 htq161231 (by decide) ⟨q164442, q164443, p164444, p164445, p164446, p164447, p164448, p164449, p164450, 0, 0, 0, 0, p164455, p164456, p164457, p164458, he164511, ⟨(hB164485.1), (hB164485.2.1), (hB164485.2.2.1), (hB164485.2.2.2.1), (gB_w (gBl (show Int32.toInt 0 = 0 by decide)) (by decide) (by decide)), (gB_w (gBl (show Int32.toInt 0 = 0 by decide)) (by decide) (by decide)), (gB_w (gBl (show Int32.toInt 0 = 0 by decide)) (by decide) (by decide)), (hB164485.2.2.2.2.2.2.2.1), (hB164485.2.2.2.2.2.2.2.2)⟩, ht164459, ht164460, ht164461, ht164462, ht164463, ht164464, ht164465, ht164466, ht164467, ht164468, ht164469, ht164470, ht164471, ht164472, ht164473, ht164474, ht164475, ht164476, ht164477, ht164478, ht164479, ht164480, ht164481, ht164482, hB164486⟩
        have hlp54_164784 : ∀ (n54_164784 : Nat) (F164780 : Nat → va_E) (g164778 : Int32) (g164779 : Int32), gB g164778 0 39 → gB g164779 0 1000000 → RS D I P161229 F164780 γ el → rStr γ [] F161230 F164780 → g164778.toInt < γ 6 (γ 1 q161232) → (fI (F164780 q161231) 26).toInt ≤ p161233.toInt → (p161233.toInt - (fI (F164780 q161231) 26).toInt).toNat < n54_164784 → G (gV D I) l (gRm 4 85 0 0) (gMA (gV D I) (pt_161235_SpillForgeModel_run D I γ el P161229 F161230 q161231 q161232 p161233) gNA 0 0) ky_161235_SpillForgeModel_run 54 [(4, .int g164779), (3, .int g164778), (0, .ref q161231), (1, .ref q161232), (2, .int p161233)] [] (va_pl P161229 F164780) 0 0 := by
          intro n54_164784
          induction n54_164784 with
          | zero => intro F164780 g164778 g164779 bg164778 bg164779 hT164781 hs164782 x164783 x164784 hm54_164784; exact absurd hm54_164784 (Nat.not_lt_zero _)
          | succ n54_164784 ih54_164784 =>
            intro F164780 g164778 g164779 bg164778 bg164779 hT164781 hs164782 x164783 x164784 hm54_164784
            have hs164786 : rStr γ [] F164508 F164780 := fun b h0 hb hw => (hs164782 b h0 hb hw).trans (hs164512 b h0 hb hw).symm
            have hs164787 : rStr γ [] F161230 F164780 := rStr_tr hs164512 hs164786
            have hm164788 : q161231 ∈ P161229 := RS_m hT164781 htq161231 (by decide)
            obtain ⟨q164790, q164791, p164792, p164793, p164794, p164795, p164796, p164797, p164798, p164799, p164800, p164801, p164802, p164803, p164804, p164805, p164806, he164789, hB164833, ht164807, ht164808, ht164809, ht164810, ht164811, ht164812, ht164813, ht164814, ht164815, ht164816, ht164817, ht164818, ht164819, ht164820, ht164821, ht164822, ht164823, ht164824, ht164825, ht164826, ht164827, ht164828, ht164829, ht164830, hB164834⟩ := show rk_10 γ (F164780 q161231) from RS_o hT164781 htq161231
            have ac164835 : (fI (F164780 q161231) 26).toInt = p164801.toInt := by rw [he164789]; rfl
            have bp164801 : gB p164801 0 100000 := (hB164833.2.2.2.2.2.1)
            have ac164836 : (fI (F164780 q161231) 26).toInt = p164801.toInt := by rw [he164789]; rfl
            refine G_aload_n 3 dr_cX17_run_54 rfl ?_
            refine G_iload_n 1 dr_cX17_run_55 rfl ?_
            have hm164837 : q161232 ∈ P161229 := RS_m hT164781 htq161232 (by decide)
            obtain ⟨q164839, q164840, p164841, p164842, he164838, ht164858, ht164843, ht164844, ht164845, ht164846, r164847, r164848, r164849, r164850, r164851, r164852, r164853, r164854, r164855, r164856, r164857⟩ := show rk_9 γ el q161232 (F164780 q161232) from RS_o hT164781 htq161232
            have bp164841 : gB p164841 0 1000000 := ⟨by omega, by omega⟩
            have bp164842 : gB p164842 0 1000000 := ⟨by omega, by omega⟩
            have hm164859 : q164839 ∈ P161229 := RS_m hT164781 ht164843 (by decide)
            obtain ⟨⟨p164861, p164862, q164863, he164860, r164864, r164865, r164866, r164868⟩, r164867⟩ := show rk_4 D I γ el F164780 q164839 from RS_o hT164781 ht164843
            have bp164861 := gB_any p164861
            have bp164862 : gB p164862 0 1000000 := ⟨by omega, by omega⟩
            obtain ⟨r164869, r164870, n164877, f164878, r164871, r164872, r164873, r164874, r164875, r164876⟩ := rLC_n r164866 (by omega)
            have hm164879 : q164863 ∈ P161229 := RS_m hT164781 r164869 (by decide)
            obtain ⟨q164880, hx164881⟩ : ∃ x, x = el q164839 g164778.toInt.toNat := ⟨_, rfl⟩
            have hx164882 : f164878 g164778.toNatClampNeg = some q164880 := (r164875 _ (show g164778.toInt.toNat < γ 2 q164839 by omega)).trans (by rw [hx164881])
            have ht164885 : rKd γ q164880 2 := by rw [hx164881]; exact (r164854 _ (by omega)).resolve_right (fun z => absurd z.1 (by omega))
            have ht164886 : rFm γ q164880 q164839 := by rw [hx164881]; exact (r164867 _ (show g164778.toInt.toNat < γ 2 q164839 by omega)).2.1
            have hm164887 : q164880 ∈ P161229 := RS_m hT164781 ht164885 (by decide)
            obtain ⟨q164889, q164890, p164891, p164892, he164888, ht164899, ht164893, ht164894, ht164895, ht164896, ht164897, bp164891, bp164892, r164898, r164900, r164901⟩ := show rk_2 γ q164880 (F164780 q164880) from RS_o hT164781 ht164885
            have fm164902 : γ 6 (γ 1 q164880) = γ 6 (γ 1 q161232) := by rw [show γ 1 q164880 = γ 1 q164839 from ht164886, show γ 1 q164839 = γ 1 q161232 from ht164844]
            refine Gw_callV (As := [.int g164778]) (gV_ok D I) (cp_7723_Code_get l hl0 D I P161229 F164780 q161232 q164839 q164863 g164778 q164840 p164841 p164842 p164861 p164862 f164878 n164877 q164880 q164889 q164890 p164891 p164892 hm164837 hm164859 hm164879 hm164887 he164838 he164860 r164871 he164888 (gB_w bg164778 (by decide) (by decide)) (gB_w bp164862 (by decide) (by decide)) (by omega) (by omega) (by assumption) (by omega)) dr_cX17_run_56 ⟨wr_10_161, wr_1_15, wr_10_141, by decide, rfl, (Nat.le_of_ble_eq_true rfl), (Nat.le_of_ble_eq_true rfl)⟩ wr_10_139 wr_10_140 hm164837 he164838 rfl (show 0 + 0 ≤ 0 by first | omega | decide) (show 0 + 0 ≤ 0 by first | omega | decide) (Nat.le_of_ble_eq_true rfl) (fun r164906 w164907 dc164903 ds164904 hp164905 => ?_) (fun _ _ _ _ _ z => z.elim)
            obtain ⟨rfl, rfl, hdc, hds⟩ := hp164905
            change G _ _ _ _ _ _ _ (.ref q164880 :: _) _ _ _
            refine G_widen (cs' := 0) (sl' := 0) (by omega) (by omega) ?_
            refine G_astore (L' := [(5, .ref q164880), (4, .int g164779), (3, .int g164778), (0, .ref q161231), (1, .ref q161232), (2, .int p161233)]) dr_cX17_run_59 (Nat.le_of_ble_eq_true rfl) rfl ?_
            refine G_aload_n 3 dr_cX17_run_61 rfl ?_
            refine Gp_get 26 hm164788 he164789 dr_cX17_run_62 (gk_X17 D I) (Nat.le_of_ble_eq_true rfl) wr_7_100 rfl ?_
            refine G_iload_n 5 dr_cX17_run_65 rfl ?_
            refine G_icmp_ne 71 dr_cX17_run_66 (by decide +kernel) (fun hc164908 => ?_) (fun hc164908 => ?_)
            · have r164909 : p164801.toInt ≠ p161233.toInt := gC_ne hc164908
              refine G_aload_n 3 dr_cX17_run_71 rfl ?_
              refine G_dup dr_cX17_run_72 rfl ?_
              refine Gp_get 26 hm164788 he164789 dr_cX17_run_73 (gk_X17 D I) (Nat.le_of_ble_eq_true rfl) wr_7_100 rfl ?_
              refine G_iconst 1 dr_cX17_run_76 (by decide +kernel) ?_
              refine G_iadd dr_cX17_run_77 (G_nam fun z164910 hz164910 => ?_)
              have ez164910 : z164910.toInt = p164801.toInt + 1 := by rw [gI_add hz164910 bp164801 (gBl (show Int32.toInt 1 = 1 by decide)) (by decide) (by decide), show Int32.toInt 1 = 1 from by decide]
              have bz164910 : gB z164910 1 100001 := gB_add (gI_add hz164910 bp164801 (gBl (show Int32.toInt 1 = 1 by decide)) (by decide) (by decide)) bp164801 (gBl (show Int32.toInt 1 = 1 by decide)) (by decide) (by decide)
              refine Gp_put 26 hm164788 he164789 dr_cX17_run_78 (gk_X17 D I) (Nat.le_of_ble_eq_true rfl) wr_7_100 rfl rfl rfl (Nat.le_of_ble_eq_true rfl) (fun F164911 e164912 n164913 => ?_)
              have he164914 : F164911 q161232 = .inr (18, [.ref q164839, .ref q164840, .int p164841, .int p164842]) := (n164913 q161232 (rn_oo he164838 he164789 (by decide))).trans he164838
              have he164915 : F164911 q164839 = .inr (4, [.int p164861, .ref q164863, .int p164862]) := (n164913 q164839 (rn_oo he164860 he164789 (by decide))).trans he164860
              have he164916 : F164911 q164863 = .inl (I (.object "java/lang/Object"), n164877, .inr (.inr (.inr (.inr f164878)))) := (n164913 q164863 (rn_ao r164871 he164789)).trans r164871
              have he164917 : F164911 q164880 = .inr (17, [.ref q164889, .ref q164890, .int p164891, .int p164892]) := (n164913 q164880 (rn_oo he164888 he164789 (by decide))).trans he164888
              have he164918 : F164911 q161231 = .inr (22, [.ref (γ 9 0), .ref (γ 9 1), .ref (γ 9 2), .ref (γ 9 3), .ref (γ 9 4), .ref (γ 9 5), .ref (γ 9 6), .ref (γ 9 7), .ref (γ 9 8), .int p164792, .int p164793, .int p164794, .int p164795, .int p164796, .int p164797, .ref (γ 9 15), .ref (γ 9 16), .ref (γ 9 17), .ref (γ 9 18), .ref (γ 9 19), .ref (γ 9 20), .ref (γ 9 21), .ref (γ 9 22), .int p164798, .int p164799, .int p164800, .int z164910, .int p164802, .ref q164790, .ref (γ 9 29), .int p164803, .ref (γ 9 31), .int p164804, .int p164805, .int p164806, .ref q164791]) := e164912
              have hs164919 : rStr γ [] F161230 F164911 := rStr_put hs164782 n164913 htq161231 (by decide)
              refine G_iload 1 dr_cX17_run_81 rfl ?_
              refine G_aload 0 dr_cX17_run_83 rfl ?_
              refine Gp_get 0 hm164887 he164917 dr_cX17_run_85 (gk_X12 D I) (Nat.le_of_ble_eq_true rfl) wr_9_220 rfl ?_
              have hT164920 : RS D I P161229 F164911 γ el := RS_set hT164781 n164913 htq161231 (by decide) ⟨q164790, q164791, p164792, p164793, p164794, p164795, p164796, p164797, p164798, p164799, p164800, z164910, p164802, p164803, p164804, p164805, p164806, he164918, ⟨(hB164833.1), (hB164833.2.1), (hB164833.2.2.1), (hB164833.2.2.2.1), (hB164833.2.2.2.2.1), ⟨by omega, by omega⟩, (hB164833.2.2.2.2.2.2.1), (hB164833.2.2.2.2.2.2.2.1), (hB164833.2.2.2.2.2.2.2.2)⟩, ht164807, ht164808, ht164809, ht164810, ht164811, ht164812, ht164813, ht164814, ht164815, ht164816, ht164817, ht164818, ht164819, ht164820, ht164821, ht164822, ht164823, ht164824, ht164825, ht164826, ht164827, ht164828, ht164829, ht164830, hB164834⟩
              have hm164921 : q164889 ∈ P161229 := RS_m hT164920 ht164893 (by decide)
              obtain ⟨⟨p164923, p164924, q164925, he164922, r164926, r164927, r164928, r164930⟩, r164929⟩ := show rk_3 D I γ el F164911 q164889 from RS_o hT164920 ht164893
              have bp164923 := gB_any p164923
              have bp164924 : gB p164924 0 1000000 := ⟨by omega, by omega⟩
              refine Gw_callV (As := []) (gV_ok D I) (cp_7_ArrayList_size l hl0 D I P161229 F164911 q164889 p164923 q164925 p164924 hm164921 he164922 (gB_w bp164924 (by decide) (by decide))) dr_cX17_run_88 ⟨wr_10_200, wr_1_18, wr_9_160, by decide, rfl, (Nat.le_of_ble_eq_true rfl), (Nat.le_of_ble_eq_true rfl)⟩ wr_9_158 wr_9_159 hm164921 he164922 rfl (show 0 + 0 ≤ 0 by first | omega | decide) (show 0 + 0 ≤ 0 by first | omega | decide) (Nat.le_of_ble_eq_true rfl) (fun r164934 w164935 dc164931 ds164932 hp164933 => ?_) (fun _ _ _ _ _ z => z.elim)
              obtain ⟨rfl, rfl, hdc, hds⟩ := hp164933
              change G _ _ _ _ _ _ _ (.int p164924 :: _) _ _ _
              refine G_widen (cs' := 0) (sl' := 0) (by omega) (by omega) ?_
              refine G_icmp_ge 127 dr_cX17_run_91 (by decide +kernel) (fun hc164936 => ?_) (fun hc164936 => ?_)
              · have r164937 : p164924.toInt ≤ g164779.toInt := gC_le hc164936
                refine G_aload 0 dr_cX17_run_127 rfl ?_
                refine Gp_get 1 hm164887 he164917 dr_cX17_run_129 (gk_X12 D I) (Nat.le_of_ble_eq_true rfl) wr_9_223 rfl ?_
                refine G_astore (L' := [(6, .ref q164890), (5, .ref q164880), (4, .int g164779), (3, .int g164778), (0, .ref q161231), (1, .ref q161232), (2, .int p161233)]) dr_cX17_run_132 (Nat.le_of_ble_eq_true rfl) rfl ?_
                refine G_aload 0 dr_cX17_run_134 rfl ?_
                have hm164938 : q164890 ∈ P161229 := RS_m hT164920 ht164895 (by decide)
                obtain ⟨p164940, p164941, p164942, p164943, p164944, p164945, p164946, he164939, bp164940, bp164941, bp164944, bp164945, bp164946, r164947, r164948, r164949, r164950⟩ := show rk_1 γ q164890 (F164911 q164890) from RS_o hT164920 ht164895
                have bp164942 := gB_any p164942
                have bp164943 := gB_any p164943
                refine Gp_get 0 hm164938 he164939 dr_cX17_run_136 (gk_X15 D I) (Nat.le_of_ble_eq_true rfl) wr_9_177 rfl ?_
                refine G_bipush 32 dr_cX17_run_139 (by decide +kernel) ?_
                refine G_icmp_ne 164 dr_cX17_run_141 (by decide +kernel) (fun hc164951 => ?_) (fun hc164951 => ?_)
                · have r164952 : p164940.toInt ≠ 32 := gj_neq hc164951 (show Int32.toInt 32 = 32 by decide)
                  have bp164940' : gB p164940 0 31 := ⟨by omega, by omega⟩
                  refine G_aload 0 dr_cX17_run_164 rfl ?_
                  refine Gp_get 0 hm164938 he164939 dr_cX17_run_166 (gk_X15 D I) (Nat.le_of_ble_eq_true rfl) wr_9_177 rfl ?_
                  refine G_bipush 30 dr_cX17_run_169 (by decide +kernel) ?_
                  refine G_icmp_eq 191 dr_cX17_run_171 (by decide +kernel) (fun hc164953 => ?_) (fun hc164953 => ?_)
                  · have r164954 : p164940.toInt = 30 := gj_eq hc164953 (show Int32.toInt 30 = 30 by decide)
                    have bp164940'' : gB p164940 30 30 := ⟨by omega, by omega⟩
                    refine G_aload 1 dr_cX17_run_191 rfl ?_
                    refine Gp_get 2 hm164887 he164917 dr_cX17_run_193 (gk_X12 D I) (Nat.le_of_ble_eq_true rfl) wr_9_229 rfl ?_
                    refine G_goto 204 dr_cX17_run_196 (by decide +kernel) ?_
                    refine G_istore_n (L' := [(3, .int p164891), (6, .ref q164890), (5, .ref q164880), (4, .int g164779), (0, .ref q161231), (1, .ref q161232), (2, .int p161233)]) dr_cX17_run_204 (Nat.le_of_ble_eq_true rfl) rfl ?_
                    refine G_iconst 0 dr_cX17_run_205 (by decide +kernel) ?_
                    refine G_istore (L' := [(4, .int 0), (3, .int p164891), (6, .ref q164890), (5, .ref q164880), (0, .ref q161231), (1, .ref q161232), (2, .int p161233)]) dr_cX17_run_206 (Nat.le_of_ble_eq_true rfl) rfl ?_
                    refine G_goto 54 dr_cX17_run_208 (by decide +kernel) ?_
                    refine G_lv (L' := [(4, .int 0), (3, .int p164891), (0, .ref q161231), (1, .ref q161232), (2, .int p161233)]) [0, 1, 4, 5, 6] rfl ?_
                    have ac164955 : (fI (F164911 q161231) 26).toInt = z164910.toInt := by rw [he164918]; rfl
                    exact ih54_164784 F164911 p164891 0 bp164891 (gB_w (gBl (show Int32.toInt 0 = 0 by decide)) (by decide) (by decide)) hT164920 hs164919 (by have qa0 : Int32.toInt 0 = 0 := (by decide); omega) (by omega) (by have qa0 : Int32.toInt 0 = 0 := (by decide); omega)
                  · have r164956 : p164940.toInt ≠ 30 := gj_neq hc164953 (show Int32.toInt 30 = 30 by decide)
                    refine G_aload_n 4 dr_cX17_run_174 rfl ?_
                    refine G_aload 0 dr_cX17_run_175 rfl ?_
                    refine Gp_get 5 hm164938 he164939 dr_cX17_run_177 (gk_X15 D I) (Nat.le_of_ble_eq_true rfl) wr_9_197 rfl ?_
                    refine G_aload 0 dr_cX17_run_180 rfl ?_
                    refine Gp_get 2 hm164938 he164939 dr_cX17_run_182 (gk_X15 D I) (Nat.le_of_ble_eq_true rfl) wr_9_186 rfl ?_
                    refine Gw_callV (As := [.int p164945, .int p164942]) (gV_ok D I) (ct_7373_SpillForgeModel_value l hl0 D I γ el P161229 F164911 q161231 p164945 p164942 hT164920 htq161231 bp164945 (by omega)) dr_cX17_run_185 ⟨wr_11_100, wr_1_14, wr_11_103, by decide, rfl, (Nat.le_of_ble_eq_true rfl), (Nat.le_of_ble_eq_true rfl)⟩ wr_11_102 wr_p_115 hm164788 he164918 rfl (show 0 + 0 ≤ 0 by first | omega | decide) (show 0 + 0 ≤ 0 by first | omega | decide) (Nat.le_of_ble_eq_true rfl) (fun r164960 w164961 dc164957 ds164958 hp164959 => ?_) (fun _ _ _ _ _ z => z.elim)
                    obtain ⟨o164962, rfl, rfl, hdc, hds⟩ := hp164959
                    have bo164962 := gB_any o164962
                    change G _ _ _ _ _ _ _ (.int o164962 :: _) _ _ _
                    refine G_widen (cs' := 0) (sl' := 0) (by omega) (by omega) ?_
                    refine G_if_eq 199 dr_cX17_run_188 (by decide +kernel) (fun hc164963 => ?_) (fun hc164963 => ?_)
                    · have r164964 : o164962.toInt = 0 := gj_eq hc164963 (show Int32.toInt 0 = 0 by decide)
                      have bo164962' : gB o164962 0 0 := ⟨by omega, by omega⟩
                      refine G_aload 1 dr_cX17_run_199 rfl ?_
                      refine Gp_get 3 hm164887 he164917 dr_cX17_run_201 (gk_X12 D I) (Nat.le_of_ble_eq_true rfl) wr_9_233 rfl ?_
                      refine G_istore_n (L' := [(3, .int p164892), (6, .ref q164890), (5, .ref q164880), (4, .int g164779), (0, .ref q161231), (1, .ref q161232), (2, .int p161233)]) dr_cX17_run_204 (Nat.le_of_ble_eq_true rfl) rfl ?_
                      refine G_iconst 0 dr_cX17_run_205 (by decide +kernel) ?_
                      refine G_istore (L' := [(4, .int 0), (3, .int p164892), (6, .ref q164890), (5, .ref q164880), (0, .ref q161231), (1, .ref q161232), (2, .int p161233)]) dr_cX17_run_206 (Nat.le_of_ble_eq_true rfl) rfl ?_
                      refine G_goto 54 dr_cX17_run_208 (by decide +kernel) ?_
                      refine G_lv (L' := [(4, .int 0), (3, .int p164892), (0, .ref q161231), (1, .ref q161232), (2, .int p161233)]) [0, 1, 4, 5, 6] rfl ?_
                      have ac164965 : (fI (F164911 q161231) 26).toInt = z164910.toInt := by rw [he164918]; rfl
                      exact ih54_164784 F164911 p164892 0 bp164892 (gB_w (gBl (show Int32.toInt 0 = 0 by decide)) (by decide) (by decide)) hT164920 hs164919 (by have qa0 : Int32.toInt 0 = 0 := (by decide); omega) (by omega) (by have qa0 : Int32.toInt 0 = 0 := (by decide); omega)
                    · have r164966 : o164962.toInt ≠ 0 := gj_neq hc164963 (show Int32.toInt 0 = 0 by decide)
                      refine G_aload 1 dr_cX17_run_191 rfl ?_
                      refine Gp_get 2 hm164887 he164917 dr_cX17_run_193 (gk_X12 D I) (Nat.le_of_ble_eq_true rfl) wr_9_229 rfl ?_
                      refine G_goto 204 dr_cX17_run_196 (by decide +kernel) ?_
                      refine G_istore_n (L' := [(3, .int p164891), (6, .ref q164890), (5, .ref q164880), (4, .int g164779), (0, .ref q161231), (1, .ref q161232), (2, .int p161233)]) dr_cX17_run_204 (Nat.le_of_ble_eq_true rfl) rfl ?_
                      refine G_iconst 0 dr_cX17_run_205 (by decide +kernel) ?_
                      refine G_istore (L' := [(4, .int 0), (3, .int p164891), (6, .ref q164890), (5, .ref q164880), (0, .ref q161231), (1, .ref q161232), (2, .int p161233)]) dr_cX17_run_206 (Nat.le_of_ble_eq_true rfl) rfl ?_
                      refine G_goto 54 dr_cX17_run_208 (by decide +kernel) ?_
                      refine G_lv (L' := [(4, .int 0), (3, .int p164891), (0, .ref q161231), (1, .ref q161232), (2, .int p161233)]) [0, 1, 4, 5, 6] rfl ?_
                      have ac164967 : (fI (F164911 q161231) 26).toInt = z164910.toInt := by rw [he164918]; rfl
                      exact ih54_164784 F164911 p164891 0 bp164891 (gB_w (gBl (show Int32.toInt 0 = 0 by decide)) (by decide) (by decide)) hT164920 hs164919 (by have qa0 : Int32.toInt 0 = 0 := (by decide); omega) (by omega) (by have qa0 : Int32.toInt 0 = 0 := (by decide); omega)
                · have r164968 : p164940.toInt = 32 := gj_eq hc164951 (show Int32.toInt 32 = 32 by decide)
                  have bp164940' : gB p164940 32 32 := ⟨by omega, by omega⟩
                  refine G_aload_n 4 dr_cX17_run_144 rfl ?_
                  refine G_aload_n 4 dr_cX17_run_145 rfl ?_
                  refine G_aload 0 dr_cX17_run_146 rfl ?_
                  refine Gp_get 5 hm164938 he164939 dr_cX17_run_148 (gk_X15 D I) (Nat.le_of_ble_eq_true rfl) wr_9_197 rfl ?_
                  refine G_aload 0 dr_cX17_run_151 rfl ?_
                  refine Gp_get 2 hm164938 he164939 dr_cX17_run_153 (gk_X15 D I) (Nat.le_of_ble_eq_true rfl) wr_9_186 rfl ?_
                  refine Gw_callV (As := [.int p164945, .int p164942]) (gV_ok D I) (ct_7373_SpillForgeModel_value l hl0 D I γ el P161229 F164911 q161231 p164945 p164942 hT164920 htq161231 bp164945 (by omega)) dr_cX17_run_156 ⟨wr_11_100, wr_1_14, wr_11_103, by decide, rfl, (Nat.le_of_ble_eq_true rfl), (Nat.le_of_ble_eq_true rfl)⟩ wr_11_102 wr_p_115 hm164788 he164918 rfl (show 0 + 0 ≤ 0 by first | omega | decide) (show 0 + 0 ≤ 0 by first | omega | decide) (Nat.le_of_ble_eq_true rfl) (fun r164972 w164973 dc164969 ds164970 hp164971 => ?_) (fun _ _ _ _ _ z => z.elim)
                  obtain ⟨o164974, rfl, rfl, hdc, hds⟩ := hp164971
                  have bo164974 := gB_any o164974
                  change G _ _ _ _ _ _ _ (.int o164974 :: _) _ _ _
                  refine G_widen (cs' := 0) (sl' := 0) (by omega) (by omega) ?_
                  refine Gp_put 24 hm164788 he164918 dr_cX17_run_159 (gk_X17 D I) (Nat.le_of_ble_eq_true rfl) wr_7_98 rfl rfl rfl (Nat.le_of_ble_eq_true rfl) (fun F164975 e164976 n164977 => ?_)
                  have he164978 : F164975 q161232 = .inr (18, [.ref q164839, .ref q164840, .int p164841, .int p164842]) := (n164977 q161232 (rn_oo he164914 he164918 (by decide))).trans he164914
                  have he164979 : F164975 q164839 = .inr (4, [.int p164861, .ref q164863, .int p164862]) := (n164977 q164839 (rn_oo he164915 he164918 (by decide))).trans he164915
                  have he164980 : F164975 q164863 = .inl (I (.object "java/lang/Object"), n164877, .inr (.inr (.inr (.inr f164878)))) := (n164977 q164863 (rn_ao he164916 he164918)).trans he164916
                  have he164981 : F164975 q164880 = .inr (17, [.ref q164889, .ref q164890, .int p164891, .int p164892]) := (n164977 q164880 (rn_oo he164917 he164918 (by decide))).trans he164917
                  have he164982 : F164975 q164889 = .inr (4, [.int p164923, .ref q164925, .int p164924]) := (n164977 q164889 (rn_oo he164922 he164918 (by decide))).trans he164922
                  have he164983 : F164975 q164890 = .inr (20, [.int p164940, .int p164941, .int p164942, .int p164943, .int p164944, .int p164945, .int p164946]) := (n164977 q164890 (rn_oo he164939 he164918 (by decide))).trans he164939
                  have he164984 : F164975 q161231 = .inr (22, [.ref (γ 9 0), .ref (γ 9 1), .ref (γ 9 2), .ref (γ 9 3), .ref (γ 9 4), .ref (γ 9 5), .ref (γ 9 6), .ref (γ 9 7), .ref (γ 9 8), .int p164792, .int p164793, .int p164794, .int p164795, .int p164796, .int p164797, .ref (γ 9 15), .ref (γ 9 16), .ref (γ 9 17), .ref (γ 9 18), .ref (γ 9 19), .ref (γ 9 20), .ref (γ 9 21), .ref (γ 9 22), .int p164798, .int o164974, .int p164800, .int z164910, .int p164802, .ref q164790, .ref (γ 9 29), .int p164803, .ref (γ 9 31), .int p164804, .int p164805, .int p164806, .ref q164791]) := e164976
                  have hs164985 : rStr γ [] F161230 F164975 := rStr_put hs164919 n164977 htq161231 (by decide)
                  refine G_iconst 0 dr_cX17_run_162 (by decide +kernel) ?_
                  have hT164986 : RS D I P161229 F164975 γ el := RS_set hT164920 n164977 htq161231 (by decide) ⟨q164790, q164791, p164792, p164793, p164794, p164795, p164796, p164797, p164798, o164974, p164800, z164910, p164802, p164803, p164804, p164805, p164806, he164984, ⟨(hB164833.1), (hB164833.2.1), (hB164833.2.2.1), (hB164833.2.2.2.1), (hB164833.2.2.2.2.1), ⟨by omega, by omega⟩, (hB164833.2.2.2.2.2.2.1), (hB164833.2.2.2.2.2.2.2.1), (hB164833.2.2.2.2.2.2.2.2)⟩, ht164807, ht164808, ht164809, ht164810, ht164811, ht164812, ht164813, ht164814, ht164815, ht164816, ht164817, ht164818, ht164819, ht164820, ht164821, ht164822, ht164823, ht164824, ht164825, ht164826, ht164827, ht164828, ht164829, ht164830, hB164834⟩
                  exact G_iretA dr_cX17_run_163 rfl (Nat.le_of_ble_eq_true rfl) (Nat.le_of_ble_eq_true rfl) ⟨F164975, 0, rfl, rfl, hT164986, hs164985, (Nat.le_of_ble_eq_true rfl), (Nat.le_of_ble_eq_true rfl), (gB_w (gBl (show Int32.toInt 0 = 0 by decide)) (by decide) (by decide))⟩
              · have r164987 : g164779.toInt < p164924.toInt := gC_nle hc164936
                have bg164779' : gB g164779 0 999999 := ⟨by omega, by omega⟩
                have bp164924' : gB p164924 1 1000000 := ⟨by omega, by omega⟩
                refine G_aload_n 3 dr_cX17_run_94 rfl ?_
                refine G_aload 0 dr_cX17_run_95 rfl ?_
                refine Gp_get 0 hm164887 he164917 dr_cX17_run_97 (gk_X12 D I) (Nat.le_of_ble_eq_true rfl) wr_9_220 rfl ?_
                refine G_iload 1 dr_cX17_run_100 rfl ?_
                obtain ⟨r164988, r164989, n164996, f164997, r164990, r164991, r164992, r164993, r164994, r164995⟩ := rLC_n r164928 (by omega)
                have hm164998 : q164925 ∈ P161229 := RS_m hT164920 r164988 (by decide)
                obtain ⟨q164999, hx165000⟩ : ∃ x, x = el q164889 g164779.toInt.toNat := ⟨_, rfl⟩
                have hx165001 : f164997 g164779.toNatClampNeg = some q164999 := (r164994 _ (show g164779.toInt.toNat < γ 2 q164889 by omega)).trans (by rw [hx165000])
                have ht165002 : rKd γ q164999 1 := by rw [hx165000]; exact (r164929 _ (show g164779.toInt.toNat < γ 2 q164889 by omega)).1
                have ht165003 : rFm γ q164999 q164889 := by rw [hx165000]; exact (r164929 _ (show g164779.toInt.toNat < γ 2 q164889 by omega)).2.1
                refine Gw_callV (As := [.int g164779]) (gV_ok D I) (cp_22_ArrayList_get l hl0 D I P161229 F164911 q164889 q164925 g164779 p164923 p164924 f164997 n164996 q164999 hm164921 hm164998 he164922 r164990 (gB_w bg164779' (by decide) (by decide)) (gB_w bp164924' (by decide) (by decide)) (by omega) (by omega) (by assumption) (by omega)) dr_cX17_run_102 ⟨wr_10_201, wr_1_18, wr_10_65, by decide, rfl, (Nat.le_of_ble_eq_true rfl), (Nat.le_of_ble_eq_true rfl)⟩ wr_10_63 wr_10_64 hm164921 he164922 rfl (show 0 + 0 ≤ 0 by first | omega | decide) (show 0 + 0 ≤ 0 by first | omega | decide) (Nat.le_of_ble_eq_true rfl) (fun r165007 w165008 dc165004 ds165005 hp165006 => ?_) (fun _ _ _ _ _ z => z.elim)
                obtain ⟨rfl, rfl, hdc, hds⟩ := hp165006
                change G _ _ _ _ _ _ _ (.ref q164999 :: _) _ _ _
                refine G_widen (cs' := 0) (sl' := 0) (by omega) (by omega) ?_
                have hm165009 : q164999 ∈ P161229 := RS_m hT164920 ht165002 (by decide)
                obtain ⟨p165011, p165012, p165013, p165014, p165015, p165016, p165017, he165010, bp165011, bp165012, bp165015, bp165016, bp165017, r165018, r165019, r165020, r165021⟩ := show rk_1 γ q164999 (F164911 q164999) from RS_o hT164920 ht165002
                have bp165013 := gB_any p165013
                have bp165014 := gB_any p165014
                refine Gp_cast hm165009 he165010 rfl dr_cX17_run_105 wr_10_202 (gr_cast 1 rfl) ?_
                have ac165022 : (fI (F164911 q161231) 26).toInt = z164910.toInt := by rw [he164918]; rfl
                refine Gw_callV (As := [.ref q164999]) (gV_ok D I) (ct_159408_SpillForgeModel_step l hl0 D I γ el P161229 F164911 q161231 q164999 hT164920 htq161231 ht165002) dr_cX17_run_108 ⟨wr_11_96, wr_1_14, wr_11_99, by decide, rfl, (Nat.le_of_ble_eq_true rfl), (Nat.le_of_ble_eq_true rfl)⟩ wr_11_98 wr_p_114 hm164788 he164918 rfl (show 0 + 0 ≤ 0 by first | omega | decide) (show 0 + 0 ≤ 0 by first | omega | decide) (Nat.le_of_ble_eq_true rfl) (fun r165026 w165027 dc165023 ds165024 hp165025 => ?_) (fun _ _ _ _ _ z => z.elim)
                obtain ⟨F165031, o165028, rfl, rfl, hT165032, hs165033, hdc, hds, bo165028, x165029, x165030⟩ := hp165025
                have he165034 : F165031 q161232 = .inr (18, [.ref q164839, .ref q164840, .int p164841, .int p164842]) := (hs165033 q161232 (rT0 htq161232 (by decide)) (rT1 htq161232 (by decide)) (rT2 htq161232 (by decide))).trans he164914
                have he165035 : F165031 q164839 = .inr (4, [.int p164861, .ref q164863, .int p164862]) := (hs165033 q164839 (rT0 ht164843 (by decide)) (rT1 ht164843 (by decide)) (rT2 ht164843 (by decide))).trans he164915
                have he165036 : F165031 q164863 = .inl (I (.object "java/lang/Object"), n164877, .inr (.inr (.inr (.inr f164878)))) := (hs165033 q164863 (rT0 r164869 (by decide)) (rT1 r164869 (by decide)) (rT2 r164869 (by decide))).trans he164916
                have he165037 : F165031 q164880 = .inr (17, [.ref q164889, .ref q164890, .int p164891, .int p164892]) := (hs165033 q164880 (rT0 ht164885 (by decide)) (rT1 ht164885 (by decide)) (rT2 ht164885 (by decide))).trans he164917
                have he165038 : F165031 q164889 = .inr (4, [.int p164923, .ref q164925, .int p164924]) := (hs165033 q164889 (rT0 ht164893 (by decide)) (rT1 ht164893 (by decide)) (rT2 ht164893 (by decide))).trans he164922
                have he165039 : F165031 q164925 = .inl (I (.object "java/lang/Object"), n164996, .inr (.inr (.inr (.inr f164997)))) := (hs165033 q164925 (rT0 r164988 (by decide)) (rT1 r164988 (by decide)) (rT2 r164988 (by decide))).trans r164990
                have he165040 : F165031 q164999 = .inr (20, [.int p165011, .int p165012, .int p165013, .int p165014, .int p165015, .int p165016, .int p165017]) := (hs165033 q164999 (rT0 ht165002 (by decide)) (rT1 ht165002 (by decide)) (rT2 ht165002 (by decide))).trans he165010
                have hs165041 : rStr γ [] F161230 F165031 := rStr_tr hs164919 hs165033
                change G _ _ _ _ _ _ _ (.int o165028 :: _) _ _ _
                refine G_widen (cs' := 0) (sl' := 0) (by omega) (by omega) ?_
                refine G_istore (L' := [(6, .int o165028), (5, .ref q164880), (4, .int g164779), (3, .int g164778), (0, .ref q161231), (1, .ref q161232), (2, .int p161233)]) dr_cX17_run_111 (Nat.le_of_ble_eq_true rfl) rfl ?_
                refine G_iload 0 dr_cX17_run_113 rfl ?_
                refine G_if_lt 121 dr_cX17_run_115 (by decide +kernel) (fun hc165042 => ?_) (fun hc165042 => ?_)
                · have r165043 : o165028.toInt < 0 := gj_lt hc165042 (show Int32.toInt 0 = 0 by decide)
                  have bo165028' : gB o165028 (-1) (-1) := ⟨by omega, by omega⟩
                  obtain ⟨z165044, hz165044⟩ : ∃ z : Int32, z = g164779 + Int32.ofInt 1 := ⟨_, rfl⟩
                  have ez165044 : z165044.toInt = g164779.toInt + 1 := gI_inc hz165044 (by decide) bg164779' (by decide) (by decide)
                  have bz165044 : gB z165044 1 1000000 := ⟨by omega, by omega⟩
                  refine G_iinc (L' := [(4, .int z165044), (6, .int o165028), (5, .ref q164880), (3, .int g164778), (0, .ref q161231), (1, .ref q161232), (2, .int p161233)]) z165044 2 dr_cX17_run_121 rfl hz165044.symm (Nat.le_of_ble_eq_true rfl) rfl ?_
                  refine G_goto 54 dr_cX17_run_124 (by decide +kernel) ?_
                  refine G_lv (L' := [(4, .int z165044), (3, .int g164778), (0, .ref q161231), (1, .ref q161232), (2, .int p161233)]) [0, 3, 4, 5, 6] rfl ?_
                  have hm165045 : q161231 ∈ P161229 := RS_m hT165032 htq161231 (by decide)
                  obtain ⟨q165047, q165048, p165049, p165050, p165051, p165052, p165053, p165054, p165055, p165056, p165057, p165058, p165059, p165060, p165061, p165062, p165063, he165046, hB165090, ht165064, ht165065, ht165066, ht165067, ht165068, ht165069, ht165070, ht165071, ht165072, ht165073, ht165074, ht165075, ht165076, ht165077, ht165078, ht165079, ht165080, ht165081, ht165082, ht165083, ht165084, ht165085, ht165086, ht165087, hB165091⟩ := show rk_10 γ (F165031 q161231) from RS_o hT165032 htq161231
                  have ac165092 : (fI (F165031 q161231) 26).toInt = p165058.toInt := by rw [he165046]; rfl
                  have bp165058 : gB p165058 0 100000 := (hB165090.2.2.2.2.2.1)
                  have ac165093 : (fI (F165031 q161231) 26).toInt = p165058.toInt := by rw [he165046]; rfl
                  exact ih54_164784 F165031 g164778 z165044 bg164778 (gB_w bz165044 (by decide) (by decide)) hT165032 hs165041 (by omega) (by omega) (by omega)
                · have r165094 : 0 ≤ o165028.toInt := gj_nlt hc165042 (show Int32.toInt 0 = 0 by decide)
                  have bo165028' : gB o165028 0 5 := ⟨by omega, by omega⟩
                  refine G_iload 0 dr_cX17_run_118 rfl ?_
                  exact G_iretA dr_cX17_run_120 rfl (Nat.le_of_ble_eq_true rfl) (Nat.le_of_ble_eq_true rfl) ⟨F165031, o165028, rfl, rfl, hT165032, hs165041, (Nat.le_of_ble_eq_true rfl), (Nat.le_of_ble_eq_true rfl), bo165028'⟩
            · have r165095 : p164801.toInt = p161233.toInt := gC_eq hc164908
              have bp164801' : gB p164801 1 100000 := ⟨by omega, by omega⟩
              refine G_iconst 4 dr_cX17_run_69 (by decide +kernel) ?_
              exact G_iretA dr_cX17_run_70 rfl (Nat.le_of_ble_eq_true rfl) (Nat.le_of_ble_eq_true rfl) ⟨F164780, 4, rfl, rfl, hT164781, hs164782, (Nat.le_of_ble_eq_true rfl), (Nat.le_of_ble_eq_true rfl), (gB_w (gBl (show Int32.toInt 4 = 4 by decide)) (by decide) (by decide))⟩
        have ac165096 : (fI (F164508 q161231) 26).toInt = 0 := by rw [he164511]; show Int32.toInt 0 = 0; decide
        exact hlp54_164784 ((p161233.toInt - (fI (F164508 q161231) 26).toInt).toNat + 1) F164508 0 0 (gB_w (gBl (show Int32.toInt 0 = 0 by decide)) (by decide) (by decide)) (gB_w (gBl (show Int32.toInt 0 = 0 by decide)) (by decide) (by decide)) hT164514 hs164512 (by have qa0 : Int32.toInt 0 = 0 := (by decide); omega) (by omega) (Nat.lt_succ_self _)
      · have r165097 : g164433.toInt < 2000 := gj_nleL hc164489 (show Int32.toInt 2000 = 2000 by decide)
        have bg164433' : gB g164433 0 1999 := ⟨by omega, by omega⟩
        refine G_aload_n 1 dr_cX17_run_9 rfl ?_
        refine Gp_get 20 hm164440 he164441 dr_cX17_run_10 (gk_X17 D I) (Nat.le_of_ble_eq_true rfl) wr_7_94 rfl ?_
        refine G_iload_n 0 dr_cX17_run_13 rfl ?_
        refine G_iconst 0 dr_cX17_run_14 (by decide +kernel) ?_
        have hm165098 : (γ 9 20) ∈ P161229 := RS_m hT164435 ht164475 (by decide)
        obtain ⟨f165100, he165099⟩ := show rk_22 I (F164434 (γ 9 20)) from RS_o hT164435 ht164475
        refine Gp_iast 0 hm165098 he165099 dr_cX17_run_15 rfl (gB_in bg164433' (by decide) (by decide)) (fun F165101 e165102 n165103 => ?_)
        obtain ⟨f165104, hf165104⟩ : ∃ z, z = upd f165100 g164433.toNatClampNeg 0 := ⟨_, rfl⟩
        rw [← hf165104] at e165102
        have he165105 : F165101 q161231 = .inr (22, [.ref (γ 9 0), .ref (γ 9 1), .ref (γ 9 2), .ref (γ 9 3), .ref (γ 9 4), .ref (γ 9 5), .ref (γ 9 6), .ref (γ 9 7), .ref (γ 9 8), .int p164444, .int p164445, .int p164446, .int p164447, .int p164448, .int p164449, .ref (γ 9 15), .ref (γ 9 16), .ref (γ 9 17), .ref (γ 9 18), .ref (γ 9 19), .ref (γ 9 20), .ref (γ 9 21), .ref (γ 9 22), .int p164450, .int p164451, .int p164452, .int p164453, .int p164454, .ref q164442, .ref (γ 9 29), .int p164455, .ref (γ 9 31), .int p164456, .int p164457, .int p164458, .ref q164443]) := (n165103 q161231 (rn_oa he164441 he165099)).trans he164441
        have he165106 : F165101 (γ 9 20) = .inl (I .int, 2000, .inl f165104) := e165102
        have hs165107 : rStr γ [] F161230 F165101 := rStr_put hs164436 n165103 ht164475 (by decide)
        refine G_aload_n 1 dr_cX17_run_16 rfl ?_
        refine Gp_get 21 hm164440 he165105 dr_cX17_run_17 (gk_X17 D I) (Nat.le_of_ble_eq_true rfl) wr_7_95 rfl ?_
        refine G_iload_n 0 dr_cX17_run_20 rfl ?_
        refine G_iconst 0 dr_cX17_run_21 (by decide +kernel) ?_
        have hT165108 : RS D I P161229 F165101 γ el := RS_set hT164435 n165103 ht164475 (by decide) ⟨f165104, he165106⟩
        have hm165109 : (γ 9 21) ∈ P161229 := RS_m hT165108 ht164476 (by decide)
        obtain ⟨f165111, he165110⟩ := show rk_23 I (F165101 (γ 9 21)) from RS_o hT165108 ht164476
        refine Gp_iast 0 hm165109 he165110 dr_cX17_run_22 rfl (gB_in bg164433' (by decide) (by decide)) (fun F165112 e165113 n165114 => ?_)
        obtain ⟨f165115, hf165115⟩ : ∃ z, z = upd f165111 g164433.toNatClampNeg 0 := ⟨_, rfl⟩
        rw [← hf165115] at e165113
        have he165116 : F165112 q161231 = .inr (22, [.ref (γ 9 0), .ref (γ 9 1), .ref (γ 9 2), .ref (γ 9 3), .ref (γ 9 4), .ref (γ 9 5), .ref (γ 9 6), .ref (γ 9 7), .ref (γ 9 8), .int p164444, .int p164445, .int p164446, .int p164447, .int p164448, .int p164449, .ref (γ 9 15), .ref (γ 9 16), .ref (γ 9 17), .ref (γ 9 18), .ref (γ 9 19), .ref (γ 9 20), .ref (γ 9 21), .ref (γ 9 22), .int p164450, .int p164451, .int p164452, .int p164453, .int p164454, .ref q164442, .ref (γ 9 29), .int p164455, .ref (γ 9 31), .int p164456, .int p164457, .int p164458, .ref q164443]) := (n165114 q161231 (rn_oa he165105 he165110)).trans he165105
        have he165117 : F165112 (γ 9 20) = .inl (I .int, 2000, .inl f165104) := (n165114 (γ 9 20) (rn_ty ht164475 ht164476 (by decide))).trans he165106
        have he165118 : F165112 (γ 9 21) = .inl (I .int, 2000, .inl f165115) := e165113
        have hs165119 : rStr γ [] F161230 F165112 := rStr_put hs165107 n165114 ht164476 (by decide)
        obtain ⟨z165120, hz165120⟩ : ∃ z : Int32, z = g164433 + Int32.ofInt 1 := ⟨_, rfl⟩
        have ez165120 : z165120.toInt = g164433.toInt + 1 := gI_inc hz165120 (by decide) bg164433' (by decide) (by decide)
        have bz165120 : gB z165120 1 2000 := ⟨by omega, by omega⟩
        refine G_iinc (L' := [(3, .int z165120), (0, .ref q161231), (1, .ref q161232), (2, .int p161233)]) z165120 0 dr_cX17_run_23 rfl hz165120.symm (Nat.le_of_ble_eq_true rfl) rfl ?_
        refine G_goto 2 dr_cX17_run_26 (by decide +kernel) ?_
        have hT165121 : RS D I P161229 F165112 γ el := RS_set hT165108 n165114 ht164476 (by decide) ⟨f165115, he165118⟩
        have ac165122 : (fI (F165112 q161231) 26).toInt = p164453.toInt := by rw [he165116]; rfl
        exact ih2_164436 F165112 z165120 (gB_w bz165120 (by decide) (by decide)) hT165121 hs165119 (by omega)
  have hm165123 : q161231 ∈ P161229 := RS_m hT htq161231 (by decide)
  obtain ⟨q165125, q165126, p165127, p165128, p165129, p165130, p165131, p165132, p165133, p165134, p165135, p165136, p165137, p165138, p165139, p165140, p165141, he165124, hB165168, ht165142, ht165143, ht165144, ht165145, ht165146, ht165147, ht165148, ht165149, ht165150, ht165151, ht165152, ht165153, ht165154, ht165155, ht165156, ht165157, ht165158, ht165159, ht165160, ht165161, ht165162, ht165163, ht165164, ht165165, hB165169⟩ := show rk_10 γ (F161230 q161231) from RS_o hT htq161231
  have ac165170 : (fI (F161230 q161231) 26).toInt = p165136.toInt := by rw [he165124]; rfl
  have bp165136 : gB p165136 0 100000 := (hB165168.2.2.2.2.2.1)
  have ac165171 : (fI (F161230 q161231) 26).toInt = p165136.toInt := by rw [he165124]; rfl
  exact hlp2_164436 (((2001 : Int) - 0).toNat + 1) F161230 0 (gB_w (gBl (show Int32.toInt 0 = 0 by decide)) (by decide) (by decide)) hT (rStr_rf (γ := γ) (W := []) (F := F161230)) (Nat.lt_succ_self _)
abbrev ky_165180_SpillForgeModel_rename : gKey := (cX17_rename, 7, "SpillForgeModel", none, [], "rename", fun _ _ => True)
def pt_165180_SpillForgeModel_rename (D : va_G) (I : FieldType → ClassId) (γ el : Nat → Nat → Nat) (P165174 : List Nat) (F165175 : Nat → va_E) (q165176 : Nat) (p165177 : Int32) (p165178 : Int32) : Option Value → va_W → Nat → Nat → Prop := fun r w dc ds => ∃ (F188657 : Nat → va_E), r = none ∧ w = va_pl P165174 F188657 ∧ RS D I P165174 F188657 γ el ∧ rStr γ [1] F165175 F188657 ∧ dc ≤ 0 ∧ ds ≤ 0
set_option maxRecDepth 100000 in
set_option maxHeartbeats 4000000 in
theorem ct_165180_SpillForgeModel_rename (l : Launch) (hl0 : l.stackTraces = false) (D : va_G) (I : FieldType → ClassId) (γ el : Nat → Nat → Nat) (P165174 : List Nat) (F165175 : Nat → va_E) (q165176 : Nat) (p165177 : Int32) (p165178 : Int32) (hT : RS D I P165174 F165175 γ el) (htq165176 : rKd γ q165176 9) (bp165177 : gB p165177 0 1999) (bp165178 : gB p165178 0 1999) (x165179 : 0 < γ 6 (γ 1 q165176)) : CtA (gV D I) l yX17_rename cX17_rename 7 none 4 85 0 0 [.ref q165176, .int p165177, .int p165178] (va_pl P165174 F165175) (pt_165180_SpillForgeModel_rename D I γ el P165174 F165175 q165176 p165177 p165178) gNA := by
  refine CtA_of hl0 (by decide) (Nat.le_of_ble_eq_true rfl) ?_
  refine G_iconst 0 dr_cX17_rename_0 (by decide +kernel) ?_
  refine G_istore_n (L' := [(3, .int 0), (0, .ref q165176), (1, .int p165177), (2, .int p165178)]) dr_cX17_rename_1 (Nat.le_of_ble_eq_true rfl) rfl ?_
  have hlp2_187060 : ∀ (n2_187060 : Nat) (F187058 : Nat → va_E) (g187057 : Int32), gB g187057 0 1000000 → RS D I P165174 F187058 γ el → rStr γ [1] F165175 F187058 → ((1000001 : Int) - g187057.toInt).toNat < n2_187060 → G (gV D I) l (gRm 4 85 0 0) (gMA (gV D I) (pt_165180_SpillForgeModel_rename D I γ el P165174 F165175 q165176 p165177 p165178) gNA 0 0) ky_165180_SpillForgeModel_rename 2 [(3, .int g187057), (0, .ref q165176), (1, .int p165177), (2, .int p165178)] [] (va_pl P165174 F187058) 0 0 := by
    intro n2_187060
    induction n2_187060 with
    | zero => intro F187058 g187057 bg187057 hT187059 hs187060 hm2_187060; exact absurd hm2_187060 (Nat.not_lt_zero _)
    | succ n2_187060 ih2_187060 =>
      intro F187058 g187057 bg187057 hT187059 hs187060 hm2_187060
      have hs187062 : rStr γ [1] F165175 F187058 := fun b h0 hb hw => (hs187060 b h0 hb hw).trans ((rStr_rf (γ := γ) (W := [1]) (F := F165175)) b h0 hb hw).symm
      have hs187063 : rStr γ [1] F165175 F187058 := rStr_tr (rStr_rf (γ := γ) (W := [1]) (F := F165175)) hs187062
      refine G_iload_n 0 dr_cX17_rename_2 rfl ?_
      refine G_aload_n 1 dr_cX17_rename_3 rfl ?_
      have hm187064 : q165176 ∈ P165174 := RS_m hT187059 htq165176 (by decide)
      obtain ⟨q187066, q187067, p187068, p187069, he187065, ht187085, ht187070, ht187071, ht187072, ht187073, r187074, r187075, r187076, r187077, r187078, r187079, r187080, r187081, r187082, r187083, r187084⟩ := show rk_9 γ el q165176 (F187058 q165176) from RS_o hT187059 htq165176
      have bp187068 : gB p187068 0 1000000 := ⟨by omega, by omega⟩
      have bp187069 : gB p187069 0 1000000 := ⟨by omega, by omega⟩
      refine Gw_callV (As := []) (gV_ok D I) (cp_12451_Code_size l hl0 D I P165174 F187058 q165176 q187066 q187067 p187068 p187069 hm187064 he187065) dr_cX17_rename_4 ⟨wr_10_160, wr_1_15, wr_9_131, by decide, rfl, (Nat.le_of_ble_eq_true rfl), (Nat.le_of_ble_eq_true rfl)⟩ wr_9_129 wr_9_130 hm187064 he187065 rfl (show 0 + 0 ≤ 0 by first | omega | decide) (show 0 + 0 ≤ 0 by first | omega | decide) (Nat.le_of_ble_eq_true rfl) (fun r187089 w187090 dc187086 ds187087 hp187088 => ?_) (fun _ _ _ _ _ z => z.elim)
      obtain ⟨rfl, rfl, hdc, hds⟩ := hp187088
      change G _ _ _ _ _ _ _ (.int p187069 :: _) _ _ _
      refine G_widen (cs' := 0) (sl' := 0) (by omega) (by omega) ?_
      refine G_icmp_ge 150 dr_cX17_rename_7 (by decide +kernel) (fun hc187091 => ?_) (fun hc187091 => ?_)
      · have r187092 : p187069.toInt ≤ g187057.toInt := gC_le hc187091
        exact G_vretA dr_cX17_rename_150 rfl (Nat.le_of_ble_eq_true rfl) (Nat.le_of_ble_eq_true rfl) ⟨F187058, rfl, rfl, hT187059, hs187060, (Nat.le_of_ble_eq_true rfl), (Nat.le_of_ble_eq_true rfl)⟩
      · have r187093 : g187057.toInt < p187069.toInt := gC_nle hc187091
        have bg187057' : gB g187057 0 999999 := ⟨by omega, by omega⟩
        have bp187069' : gB p187069 1 1000000 := ⟨by omega, by omega⟩
        refine G_aload_n 1 dr_cX17_rename_10 rfl ?_
        refine G_iload_n 0 dr_cX17_rename_11 rfl ?_
        have hm187094 : q187066 ∈ P165174 := RS_m hT187059 ht187070 (by decide)
        obtain ⟨⟨p187096, p187097, q187098, he187095, r187099, r187100, r187101, r187103⟩, r187102⟩ := show rk_4 D I γ el F187058 q187066 from RS_o hT187059 ht187070
        have bp187096 := gB_any p187096
        have bp187097 : gB p187097 0 1000000 := ⟨by omega, by omega⟩
        obtain ⟨r187104, r187105, n187112, f187113, r187106, r187107, r187108, r187109, r187110, r187111⟩ := rLC_n r187101 (by omega)
        have hm187114 : q187098 ∈ P165174 := RS_m hT187059 r187104 (by decide)
        obtain ⟨q187115, hx187116⟩ : ∃ x, x = el q187066 g187057.toInt.toNat := ⟨_, rfl⟩
        have hx187117 : f187113 g187057.toNatClampNeg = some q187115 := (r187110 _ (show g187057.toInt.toNat < γ 2 q187066 by omega)).trans (by rw [hx187116])
        have ht187120 : rKd γ q187115 2 := by rw [hx187116]; exact (r187081 _ (by omega)).resolve_right (fun z => absurd z.1 (by omega))
        have ht187121 : rFm γ q187115 q187066 := by rw [hx187116]; exact (r187102 _ (show g187057.toInt.toNat < γ 2 q187066 by omega)).2.1
        have hm187122 : q187115 ∈ P165174 := RS_m hT187059 ht187120 (by decide)
        obtain ⟨q187124, q187125, p187126, p187127, he187123, ht187134, ht187128, ht187129, ht187130, ht187131, ht187132, bp187126, bp187127, r187133, r187135, r187136⟩ := show rk_2 γ q187115 (F187058 q187115) from RS_o hT187059 ht187120
        refine Gw_callV (As := [.int g187057]) (gV_ok D I) (cp_7723_Code_get l hl0 D I P165174 F187058 q165176 q187066 q187098 g187057 q187067 p187068 p187069 p187096 p187097 f187113 n187112 q187115 q187124 q187125 p187126 p187127 hm187064 hm187094 hm187114 hm187122 he187065 he187095 r187106 he187123 (gB_w bg187057' (by decide) (by decide)) (gB_w bp187097 (by decide) (by decide)) (by omega) (by omega) (by assumption) (by omega)) dr_cX17_rename_12 ⟨wr_10_161, wr_1_15, wr_10_141, by decide, rfl, (Nat.le_of_ble_eq_true rfl), (Nat.le_of_ble_eq_true rfl)⟩ wr_10_139 wr_10_140 hm187064 he187065 rfl (show 0 + 0 ≤ 0 by first | omega | decide) (show 0 + 0 ≤ 0 by first | omega | decide) (Nat.le_of_ble_eq_true rfl) (fun r187140 w187141 dc187137 ds187138 hp187139 => ?_) (fun _ _ _ _ _ z => z.elim)
        obtain ⟨rfl, rfl, hdc, hds⟩ := hp187139
        change G _ _ _ _ _ _ _ (.ref q187115 :: _) _ _ _
        refine G_widen (cs' := 0) (sl' := 0) (by omega) (by omega) ?_
        refine G_astore (L' := [(4, .ref q187115), (3, .int g187057), (0, .ref q165176), (1, .int p165177), (2, .int p165178)]) dr_cX17_rename_15 (Nat.le_of_ble_eq_true rfl) rfl ?_
        refine G_iconst 0 dr_cX17_rename_17 (by decide +kernel) ?_
        refine G_istore (L' := [(5, .int 0), (4, .ref q187115), (3, .int g187057), (0, .ref q165176), (1, .int p165177), (2, .int p165178)]) dr_cX17_rename_18 (Nat.le_of_ble_eq_true rfl) rfl ?_
        have hlp20_187902 : ∀ (n20_187902 : Nat) (F187900 : Nat → va_E) (g187899 : Int32), gB g187899 0 1000001 → RS D I P165174 F187900 γ el → rStr γ [1] F165175 F187900 → ((1000002 : Int) - g187899.toInt).toNat < n20_187902 → G (gV D I) l (gRm 4 85 0 0) (gMA (gV D I) (pt_165180_SpillForgeModel_rename D I γ el P165174 F165175 q165176 p165177 p165178) gNA 0 0) ky_165180_SpillForgeModel_rename 20 [(5, .int g187899), (4, .ref q187115), (3, .int g187057), (0, .ref q165176), (1, .int p165177), (2, .int p165178)] [] (va_pl P165174 F187900) 0 0 := by
          intro n20_187902
          induction n20_187902 with
          | zero => intro F187900 g187899 bg187899 hT187901 hs187902 hm20_187902; exact absurd hm20_187902 (Nat.not_lt_zero _)
          | succ n20_187902 ih20_187902 =>
            intro F187900 g187899 bg187899 hT187901 hs187902 hm20_187902
            have hs187904 : rStr γ [1] F187058 F187900 := fun b h0 hb hw => (hs187902 b h0 hb hw).trans (hs187060 b h0 hb hw).symm
            have he187905 : F187900 q165176 = .inr (18, [.ref q187066, .ref q187067, .int p187068, .int p187069]) := (hs187904 q165176 (rT0 htq165176 (by decide)) (rT1 htq165176 (by decide)) (rT2 htq165176 (by decide))).trans he187065
            have he187906 : F187900 q187066 = .inr (4, [.int p187096, .ref q187098, .int p187097]) := (hs187904 q187066 (rT0 ht187070 (by decide)) (rT1 ht187070 (by decide)) (rT2 ht187070 (by decide))).trans he187095
            have he187907 : F187900 q187098 = .inl (I (.object "java/lang/Object"), n187112, .inr (.inr (.inr (.inr f187113)))) := (hs187904 q187098 (rT0 r187104 (by decide)) (rT1 r187104 (by decide)) (rT2 r187104 (by decide))).trans r187106
            have he187908 : F187900 q187115 = .inr (17, [.ref q187124, .ref q187125, .int p187126, .int p187127]) := (hs187904 q187115 (rT0 ht187120 (by decide)) (rT1 ht187120 (by decide)) (rT2 ht187120 (by decide))).trans he187123
            have hs187909 : rStr γ [1] F165175 F187900 := rStr_tr hs187060 hs187904
            refine G_iload 0 dr_cX17_rename_20 rfl ?_
            refine G_aload 1 dr_cX17_rename_22 rfl ?_
            refine Gp_get 0 hm187122 he187908 dr_cX17_rename_24 (gk_X12 D I) (Nat.le_of_ble_eq_true rfl) wr_9_220 rfl ?_
            have hm187910 : q187124 ∈ P165174 := RS_m hT187901 ht187128 (by decide)
            obtain ⟨⟨p187912, p187913, q187914, he187911, r187915, r187916, r187917, r187919⟩, r187918⟩ := show rk_3 D I γ el F187900 q187124 from RS_o hT187901 ht187128
            have bp187912 := gB_any p187912
            have bp187913 : gB p187913 0 1000000 := ⟨by omega, by omega⟩
            refine Gw_callV (As := []) (gV_ok D I) (cp_7_ArrayList_size l hl0 D I P165174 F187900 q187124 p187912 q187914 p187913 hm187910 he187911 (gB_w bp187913 (by decide) (by decide))) dr_cX17_rename_27 ⟨wr_10_200, wr_1_18, wr_9_160, by decide, rfl, (Nat.le_of_ble_eq_true rfl), (Nat.le_of_ble_eq_true rfl)⟩ wr_9_158 wr_9_159 hm187910 he187911 rfl (show 0 + 0 ≤ 0 by first | omega | decide) (show 0 + 0 ≤ 0 by first | omega | decide) (Nat.le_of_ble_eq_true rfl) (fun r187923 w187924 dc187920 ds187921 hp187922 => ?_) (fun _ _ _ _ _ z => z.elim)
            obtain ⟨rfl, rfl, hdc, hds⟩ := hp187922
            change G _ _ _ _ _ _ _ (.int p187913 :: _) _ _ _
            refine G_widen (cs' := 0) (sl' := 0) (by omega) (by omega) ?_
            refine G_icmp_gt 144 dr_cX17_rename_30 (by decide +kernel) (fun hc187925 => ?_) (fun hc187925 => ?_)
            · have r187926 : p187913.toInt < g187899.toInt := gC_lt hc187925
              have bg187899' : gB g187899 1 1000001 := ⟨by omega, by omega⟩
              obtain ⟨z187927, hz187927⟩ : ∃ z : Int32, z = g187057 + Int32.ofInt 1 := ⟨_, rfl⟩
              have ez187927 : z187927.toInt = g187057.toInt + 1 := gI_inc hz187927 (by decide) bg187057' (by decide) (by decide)
              have bz187927 : gB z187927 1 1000000 := ⟨by omega, by omega⟩
              refine G_iinc (L' := [(3, .int z187927), (5, .int g187899), (4, .ref q187115), (0, .ref q165176), (1, .int p165177), (2, .int p165178)]) z187927 2 dr_cX17_rename_144 rfl hz187927.symm (Nat.le_of_ble_eq_true rfl) rfl ?_
              refine G_goto 2 dr_cX17_rename_147 (by decide +kernel) ?_
              refine G_lv (L' := [(3, .int z187927), (0, .ref q165176), (1, .int p165177), (2, .int p165178)]) [0, 3, 4, 5] rfl ?_
              exact ih2_187060 F187900 z187927 (gB_w bz187927 (by decide) (by decide)) hT187901 hs187902 (by omega)
            · have r187928 : g187899.toInt ≤ p187913.toInt := gC_nlt hc187925
              have bg187899' : gB g187899 0 1000000 := ⟨by omega, by omega⟩
              refine G_iload 0 dr_cX17_rename_33 rfl ?_
              refine G_aload 1 dr_cX17_rename_35 rfl ?_
              refine Gp_get 0 hm187122 he187908 dr_cX17_rename_37 (gk_X12 D I) (Nat.le_of_ble_eq_true rfl) wr_9_220 rfl ?_
              refine Gw_callV (As := []) (gV_ok D I) (cp_7_ArrayList_size l hl0 D I P165174 F187900 q187124 p187912 q187914 p187913 hm187910 he187911 (gB_w bp187913 (by decide) (by decide))) dr_cX17_rename_40 ⟨wr_10_200, wr_1_18, wr_9_160, by decide, rfl, (Nat.le_of_ble_eq_true rfl), (Nat.le_of_ble_eq_true rfl)⟩ wr_9_158 wr_9_159 hm187910 he187911 rfl (show 0 + 0 ≤ 0 by first | omega | decide) (show 0 + 0 ≤ 0 by first | omega | decide) (Nat.le_of_ble_eq_true rfl) (fun r187932 w187933 dc187929 ds187930 hp187931 => ?_) (fun _ _ _ _ _ z => z.elim)
              obtain ⟨rfl, rfl, hdc, hds⟩ := hp187931
              change G _ _ _ _ _ _ _ (.int p187913 :: _) _ _ _
              refine G_widen (cs' := 0) (sl' := 0) (by omega) (by omega) ?_
              refine G_icmp_ge 62 dr_cX17_rename_43 (by decide +kernel) (fun hc187934 => ?_) (fun hc187934 => ?_)
              · have r187935 : p187913.toInt ≤ g187899.toInt := gC_le hc187934
                refine G_aload 1 dr_cX17_rename_62 rfl ?_
                refine Gp_get 1 hm187122 he187908 dr_cX17_rename_64 (gk_X12 D I) (Nat.le_of_ble_eq_true rfl) wr_9_223 rfl ?_
                refine G_astore (L' := [(6, .ref q187125), (5, .int g187899), (4, .ref q187115), (3, .int g187057), (0, .ref q165176), (1, .int p165177), (2, .int p165178)]) dr_cX17_rename_67 (Nat.le_of_ble_eq_true rfl) rfl ?_
                refine G_aload 0 dr_cX17_rename_69 rfl ?_
                have hm187936 : q187125 ∈ P165174 := RS_m hT187901 ht187130 (by decide)
                obtain ⟨p187938, p187939, p187940, p187941, p187942, p187943, p187944, he187937, bp187938, bp187939, bp187942, bp187943, bp187944, r187945, r187946, r187947, r187948⟩ := show rk_1 γ q187125 (F187900 q187125) from RS_o hT187901 ht187130
                have bp187940 := gB_any p187940
                have bp187941 := gB_any p187941
                refine Gw_callV (As := []) (gV_ok D I) (cp_1669_Row_usesA l hl0 D I P165174 F187900 q187125 p187938 p187939 p187940 p187941 p187942 p187943 p187944 hm187936 he187937 bp187938 bp187939 bp187942 bp187943 bp187944) dr_cX17_rename_71 ⟨wr_10_192, wr_1_39, wr_10_195, by decide, rfl, (Nat.le_of_ble_eq_true rfl), (Nat.le_of_ble_eq_true rfl)⟩ wr_10_193 wr_10_194 hm187936 he187937 rfl (show 0 + 0 ≤ 0 by first | omega | decide) (show 0 + 0 ≤ 0 by first | omega | decide) (Nat.le_of_ble_eq_true rfl) (fun r187952 w187953 dc187949 ds187950 hp187951 => ?_) (fun _ _ _ _ _ z => z.elim)
                obtain ⟨o187954, rfl, rfl, hdc, hds, bo187954, x187955⟩ := hp187951
                change G _ _ _ _ _ _ _ (.int o187954 :: _) _ _ _
                refine G_widen (cs' := 0) (sl' := 0) (by omega) (by omega) ?_
                refine G_if_eq 92 dr_cX17_rename_74 (by decide +kernel) (fun hc187956 => ?_) (fun hc187956 => ?_)
                · have r187957 : o187954.toInt = 0 := gj_eq hc187956 (show Int32.toInt 0 = 0 by decide)
                  have bo187954' : gB o187954 0 0 := ⟨by omega, by omega⟩
                  refine G_aload 0 dr_cX17_rename_92 rfl ?_
                  refine Gw_callV (As := []) (gV_ok D I) (cp_1693_Row_usesB l hl0 D I P165174 F187900 q187125 p187938 p187939 p187940 p187941 p187942 p187943 p187944 hm187936 he187937 bp187938 bp187939 bp187942 bp187943 bp187944) dr_cX17_rename_94 ⟨wr_10_196, wr_1_39, wr_10_199, by decide, rfl, (Nat.le_of_ble_eq_true rfl), (Nat.le_of_ble_eq_true rfl)⟩ wr_10_197 wr_10_198 hm187936 he187937 rfl (show 0 + 0 ≤ 0 by first | omega | decide) (show 0 + 0 ≤ 0 by first | omega | decide) (Nat.le_of_ble_eq_true rfl) (fun r187961 w187962 dc187958 ds187959 hp187960 => ?_) (fun _ _ _ _ _ z => z.elim)
                  obtain ⟨o187963, rfl, rfl, hdc, hds, bo187963, x187964⟩ := hp187960
                  change G _ _ _ _ _ _ _ (.int o187963 :: _) _ _ _
                  refine G_widen (cs' := 0) (sl' := 0) (by omega) (by omega) ?_
                  refine G_if_eq 115 dr_cX17_rename_97 (by decide +kernel) (fun hc187965 => ?_) (fun hc187965 => ?_)
                  · have r187966 : o187963.toInt = 0 := gj_eq hc187965 (show Int32.toInt 0 = 0 by decide)
                    have bo187963' : gB o187963 0 0 := ⟨by omega, by omega⟩
                    refine G_aload 0 dr_cX17_rename_115 rfl ?_
                    refine Gw_callV (As := []) (gV_ok D I) (cp_1654_Row_sets l hl0 D I P165174 F187900 q187125 p187938 p187939 p187940 p187941 p187942 p187943 p187944 hm187936 he187937 bp187938 bp187939 bp187942 bp187943 bp187944) dr_cX17_rename_117 ⟨wr_10_181, wr_1_39, wr_10_184, by decide, rfl, (Nat.le_of_ble_eq_true rfl), (Nat.le_of_ble_eq_true rfl)⟩ wr_10_182 wr_10_183 hm187936 he187937 rfl (show 0 + 0 ≤ 0 by first | omega | decide) (show 0 + 0 ≤ 0 by first | omega | decide) (Nat.le_of_ble_eq_true rfl) (fun r187970 w187971 dc187967 ds187968 hp187969 => ?_) (fun _ _ _ _ _ z => z.elim)
                    obtain ⟨o187972, rfl, rfl, hdc, hds, bo187972⟩ := hp187969
                    change G _ _ _ _ _ _ _ (.int o187972 :: _) _ _ _
                    refine G_widen (cs' := 0) (sl' := 0) (by omega) (by omega) ?_
                    refine G_if_eq 138 dr_cX17_rename_120 (by decide +kernel) (fun hc187973 => ?_) (fun hc187973 => ?_)
                    · have r187974 : o187972.toInt = 0 := gj_eq hc187973 (show Int32.toInt 0 = 0 by decide)
                      have bo187972' : gB o187972 0 0 := ⟨by omega, by omega⟩
                      obtain ⟨z187975, hz187975⟩ : ∃ z : Int32, z = g187899 + Int32.ofInt 1 := ⟨_, rfl⟩
                      have ez187975 : z187975.toInt = g187899.toInt + 1 := gI_inc hz187975 (by decide) bg187899' (by decide) (by decide)
                      have bz187975 : gB z187975 1 1000001 := ⟨by omega, by omega⟩
                      refine G_iinc (L' := [(5, .int z187975), (6, .ref q187125), (4, .ref q187115), (3, .int g187057), (0, .ref q165176), (1, .int p165177), (2, .int p165178)]) z187975 1 dr_cX17_rename_138 rfl hz187975.symm (Nat.le_of_ble_eq_true rfl) rfl ?_
                      refine G_goto 20 dr_cX17_rename_141 (by decide +kernel) ?_
                      refine G_lv (L' := [(5, .int z187975), (4, .ref q187115), (3, .int g187057), (0, .ref q165176), (1, .int p165177), (2, .int p165178)]) [0, 2, 3, 4, 5, 6] rfl ?_
                      exact ih20_187902 F187900 z187975 (gB_w bz187975 (by decide) (by decide)) hT187901 hs187902 (by omega)
                    · have r187976 : o187972.toInt ≠ 0 := gj_neq hc187973 (show Int32.toInt 0 = 0 by decide)
                      have bo187972' : gB o187972 1 1 := ⟨by omega, by omega⟩
                      refine G_aload 0 dr_cX17_rename_123 rfl ?_
                      refine Gp_get 1 hm187936 he187937 dr_cX17_rename_125 (gk_X15 D I) (Nat.le_of_ble_eq_true rfl) wr_9_182 rfl ?_
                      refine G_iload_n 5 dr_cX17_rename_128 rfl ?_
                      refine G_icmp_ne 138 dr_cX17_rename_129 (by decide +kernel) (fun hc187977 => ?_) (fun hc187977 => ?_)
                      · have r187978 : p187939.toInt ≠ p165177.toInt := gC_ne hc187977
                        obtain ⟨z187979, hz187979⟩ : ∃ z : Int32, z = g187899 + Int32.ofInt 1 := ⟨_, rfl⟩
                        have ez187979 : z187979.toInt = g187899.toInt + 1 := gI_inc hz187979 (by decide) bg187899' (by decide) (by decide)
                        have bz187979 : gB z187979 1 1000001 := ⟨by omega, by omega⟩
                        refine G_iinc (L' := [(5, .int z187979), (6, .ref q187125), (4, .ref q187115), (3, .int g187057), (0, .ref q165176), (1, .int p165177), (2, .int p165178)]) z187979 1 dr_cX17_rename_138 rfl hz187979.symm (Nat.le_of_ble_eq_true rfl) rfl ?_
                        refine G_goto 20 dr_cX17_rename_141 (by decide +kernel) ?_
                        refine G_lv (L' := [(5, .int z187979), (4, .ref q187115), (3, .int g187057), (0, .ref q165176), (1, .int p165177), (2, .int p165178)]) [0, 2, 3, 4, 5, 6] rfl ?_
                        exact ih20_187902 F187900 z187979 (gB_w bz187979 (by decide) (by decide)) hT187901 hs187902 (by omega)
                      · have r187980 : p187939.toInt = p165177.toInt := gC_eq hc187977
                        refine G_aload 0 dr_cX17_rename_132 rfl ?_
                        refine G_iload_n 6 dr_cX17_rename_134 rfl ?_
                        refine Gp_put 1 hm187936 he187937 dr_cX17_rename_135 (gk_X15 D I) (Nat.le_of_ble_eq_true rfl) wr_9_182 rfl rfl rfl (Nat.le_of_ble_eq_true rfl) (fun F187981 e187982 n187983 => ?_)
                        have he187984 : F187981 q165176 = .inr (18, [.ref q187066, .ref q187067, .int p187068, .int p187069]) := (n187983 q165176 (rn_oo he187905 he187937 (by decide))).trans he187905
                        have he187985 : F187981 q187066 = .inr (4, [.int p187096, .ref q187098, .int p187097]) := (n187983 q187066 (rn_oo he187906 he187937 (by decide))).trans he187906
                        have he187986 : F187981 q187098 = .inl (I (.object "java/lang/Object"), n187112, .inr (.inr (.inr (.inr f187113)))) := (n187983 q187098 (rn_ao he187907 he187937)).trans he187907
                        have he187987 : F187981 q187115 = .inr (17, [.ref q187124, .ref q187125, .int p187126, .int p187127]) := (n187983 q187115 (rn_oo he187908 he187937 (by decide))).trans he187908
                        have he187988 : F187981 q187124 = .inr (4, [.int p187912, .ref q187914, .int p187913]) := (n187983 q187124 (rn_oo he187911 he187937 (by decide))).trans he187911
                        have he187989 : F187981 q187125 = .inr (20, [.int p187938, .int p165178, .int p187940, .int p187941, .int p187942, .int p187943, .int p187944]) := e187982
                        have hs187990 : rStr γ [1] F165175 F187981 := rStr_pu2 hs187902 n187983 ht187130 (by decide)
                        obtain ⟨z187991, hz187991⟩ : ∃ z : Int32, z = g187899 + Int32.ofInt 1 := ⟨_, rfl⟩
                        have ez187991 : z187991.toInt = g187899.toInt + 1 := gI_inc hz187991 (by decide) bg187899' (by decide) (by decide)
                        have bz187991 : gB z187991 1 1000001 := ⟨by omega, by omega⟩
                        refine G_iinc (L' := [(5, .int z187991), (6, .ref q187125), (4, .ref q187115), (3, .int g187057), (0, .ref q165176), (1, .int p165177), (2, .int p165178)]) z187991 1 dr_cX17_rename_138 rfl hz187991.symm (Nat.le_of_ble_eq_true rfl) rfl ?_
                        refine G_goto 20 dr_cX17_rename_141 (by decide +kernel) ?_
                        have hT187992 : RS D I P165174 F187981 γ el := RS_set hT187901 n187983 ht187130 (by decide) ⟨p187938, p165178, p187940, p187941, p187942, p187943, p187944, he187989, bp187938, bp165178, bp187942, bp187943, bp187944, (by omega), (by omega), (by omega), (by omega)⟩
                        refine G_lv (L' := [(5, .int z187991), (4, .ref q187115), (3, .int g187057), (0, .ref q165176), (1, .int p165177), (2, .int p165178)]) [0, 2, 3, 4, 5, 6] rfl ?_
                        exact ih20_187902 F187981 z187991 (gB_w bz187991 (by decide) (by decide)) hT187992 hs187990 (by omega)
                  · have r187993 : o187963.toInt ≠ 0 := gj_neq hc187965 (show Int32.toInt 0 = 0 by decide)
                    have bo187963' : gB o187963 1 1 := ⟨by omega, by omega⟩
                    refine G_aload 0 dr_cX17_rename_100 rfl ?_
                    refine Gp_get 3 hm187936 he187937 dr_cX17_rename_102 (gk_X15 D I) (Nat.le_of_ble_eq_true rfl) wr_9_190 rfl ?_
                    refine G_iload_n 5 dr_cX17_rename_105 rfl ?_
                    refine G_icmp_ne 115 dr_cX17_rename_106 (by decide +kernel) (fun hc187994 => ?_) (fun hc187994 => ?_)
                    · have r187995 : p187941.toInt ≠ p165177.toInt := gC_ne hc187994
                      refine G_aload 0 dr_cX17_rename_115 rfl ?_
                      refine Gw_callV (As := []) (gV_ok D I) (cp_1654_Row_sets l hl0 D I P165174 F187900 q187125 p187938 p187939 p187940 p187941 p187942 p187943 p187944 hm187936 he187937 bp187938 bp187939 bp187942 bp187943 bp187944) dr_cX17_rename_117 ⟨wr_10_181, wr_1_39, wr_10_184, by decide, rfl, (Nat.le_of_ble_eq_true rfl), (Nat.le_of_ble_eq_true rfl)⟩ wr_10_182 wr_10_183 hm187936 he187937 rfl (show 0 + 0 ≤ 0 by first | omega | decide) (show 0 + 0 ≤ 0 by first | omega | decide) (Nat.le_of_ble_eq_true rfl) (fun r187999 w188000 dc187996 ds187997 hp187998 => ?_) (fun _ _ _ _ _ z => z.elim)
                      obtain ⟨o188001, rfl, rfl, hdc, hds, bo188001⟩ := hp187998
                      change G _ _ _ _ _ _ _ (.int o188001 :: _) _ _ _
                      refine G_widen (cs' := 0) (sl' := 0) (by omega) (by omega) ?_
                      refine G_if_eq 138 dr_cX17_rename_120 (by decide +kernel) (fun hc188002 => ?_) (fun hc188002 => ?_)
                      · have r188003 : o188001.toInt = 0 := gj_eq hc188002 (show Int32.toInt 0 = 0 by decide)
                        have bo188001' : gB o188001 0 0 := ⟨by omega, by omega⟩
                        obtain ⟨z188004, hz188004⟩ : ∃ z : Int32, z = g187899 + Int32.ofInt 1 := ⟨_, rfl⟩
                        have ez188004 : z188004.toInt = g187899.toInt + 1 := gI_inc hz188004 (by decide) bg187899' (by decide) (by decide)
                        have bz188004 : gB z188004 1 1000001 := ⟨by omega, by omega⟩
                        refine G_iinc (L' := [(5, .int z188004), (6, .ref q187125), (4, .ref q187115), (3, .int g187057), (0, .ref q165176), (1, .int p165177), (2, .int p165178)]) z188004 1 dr_cX17_rename_138 rfl hz188004.symm (Nat.le_of_ble_eq_true rfl) rfl ?_
                        refine G_goto 20 dr_cX17_rename_141 (by decide +kernel) ?_
                        refine G_lv (L' := [(5, .int z188004), (4, .ref q187115), (3, .int g187057), (0, .ref q165176), (1, .int p165177), (2, .int p165178)]) [0, 2, 3, 4, 5, 6] rfl ?_
                        exact ih20_187902 F187900 z188004 (gB_w bz188004 (by decide) (by decide)) hT187901 hs187902 (by omega)
                      · have r188005 : o188001.toInt ≠ 0 := gj_neq hc188002 (show Int32.toInt 0 = 0 by decide)
                        have bo188001' : gB o188001 1 1 := ⟨by omega, by omega⟩
                        refine G_aload 0 dr_cX17_rename_123 rfl ?_
                        refine Gp_get 1 hm187936 he187937 dr_cX17_rename_125 (gk_X15 D I) (Nat.le_of_ble_eq_true rfl) wr_9_182 rfl ?_
                        refine G_iload_n 5 dr_cX17_rename_128 rfl ?_
                        refine G_icmp_ne 138 dr_cX17_rename_129 (by decide +kernel) (fun hc188006 => ?_) (fun hc188006 => ?_)
                        · have r188007 : p187939.toInt ≠ p165177.toInt := gC_ne hc188006
                          obtain ⟨z188008, hz188008⟩ : ∃ z : Int32, z = g187899 + Int32.ofInt 1 := ⟨_, rfl⟩
                          have ez188008 : z188008.toInt = g187899.toInt + 1 := gI_inc hz188008 (by decide) bg187899' (by decide) (by decide)
                          have bz188008 : gB z188008 1 1000001 := ⟨by omega, by omega⟩
                          refine G_iinc (L' := [(5, .int z188008), (6, .ref q187125), (4, .ref q187115), (3, .int g187057), (0, .ref q165176), (1, .int p165177), (2, .int p165178)]) z188008 1 dr_cX17_rename_138 rfl hz188008.symm (Nat.le_of_ble_eq_true rfl) rfl ?_
                          refine G_goto 20 dr_cX17_rename_141 (by decide +kernel) ?_
                          refine G_lv (L' := [(5, .int z188008), (4, .ref q187115), (3, .int g187057), (0, .ref q165176), (1, .int p165177), (2, .int p165178)]) [0, 2, 3, 4, 5, 6] rfl ?_
                          exact ih20_187902 F187900 z188008 (gB_w bz188008 (by decide) (by decide)) hT187901 hs187902 (by omega)
                        · have r188009 : p187939.toInt = p165177.toInt := gC_eq hc188006
                          refine G_aload 0 dr_cX17_rename_132 rfl ?_
                          refine G_iload_n 6 dr_cX17_rename_134 rfl ?_
                          refine Gp_put 1 hm187936 he187937 dr_cX17_rename_135 (gk_X15 D I) (Nat.le_of_ble_eq_true rfl) wr_9_182 rfl rfl rfl (Nat.le_of_ble_eq_true rfl) (fun F188010 e188011 n188012 => ?_)
                          have he188013 : F188010 q165176 = .inr (18, [.ref q187066, .ref q187067, .int p187068, .int p187069]) := (n188012 q165176 (rn_oo he187905 he187937 (by decide))).trans he187905
                          have he188014 : F188010 q187066 = .inr (4, [.int p187096, .ref q187098, .int p187097]) := (n188012 q187066 (rn_oo he187906 he187937 (by decide))).trans he187906
                          have he188015 : F188010 q187098 = .inl (I (.object "java/lang/Object"), n187112, .inr (.inr (.inr (.inr f187113)))) := (n188012 q187098 (rn_ao he187907 he187937)).trans he187907
                          have he188016 : F188010 q187115 = .inr (17, [.ref q187124, .ref q187125, .int p187126, .int p187127]) := (n188012 q187115 (rn_oo he187908 he187937 (by decide))).trans he187908
                          have he188017 : F188010 q187124 = .inr (4, [.int p187912, .ref q187914, .int p187913]) := (n188012 q187124 (rn_oo he187911 he187937 (by decide))).trans he187911
                          have he188018 : F188010 q187125 = .inr (20, [.int p187938, .int p165178, .int p187940, .int p187941, .int p187942, .int p187943, .int p187944]) := e188011
                          have hs188019 : rStr γ [1] F165175 F188010 := rStr_pu2 hs187902 n188012 ht187130 (by decide)
                          obtain ⟨z188020, hz188020⟩ : ∃ z : Int32, z = g187899 + Int32.ofInt 1 := ⟨_, rfl⟩
                          have ez188020 : z188020.toInt = g187899.toInt + 1 := gI_inc hz188020 (by decide) bg187899' (by decide) (by decide)
                          have bz188020 : gB z188020 1 1000001 := ⟨by omega, by omega⟩
                          refine G_iinc (L' := [(5, .int z188020), (6, .ref q187125), (4, .ref q187115), (3, .int g187057), (0, .ref q165176), (1, .int p165177), (2, .int p165178)]) z188020 1 dr_cX17_rename_138 rfl hz188020.symm (Nat.le_of_ble_eq_true rfl) rfl ?_
                          refine G_goto 20 dr_cX17_rename_141 (by decide +kernel) ?_
                          have hT188021 : RS D I P165174 F188010 γ el := RS_set hT187901 n188012 ht187130 (by decide) ⟨p187938, p165178, p187940, p187941, p187942, p187943, p187944, he188018, bp187938, bp165178, bp187942, bp187943, bp187944, (by omega), (by omega), (by omega), (by omega)⟩
                          refine G_lv (L' := [(5, .int z188020), (4, .ref q187115), (3, .int g187057), (0, .ref q165176), (1, .int p165177), (2, .int p165178)]) [0, 2, 3, 4, 5, 6] rfl ?_
                          exact ih20_187902 F188010 z188020 (gB_w bz188020 (by decide) (by decide)) hT188021 hs188019 (by omega)
                    · have r188022 : p187941.toInt = p165177.toInt := gC_eq hc187994
                      have bp187941' : gB p187941 0 1999 := ⟨by omega, by omega⟩
                      refine G_aload 0 dr_cX17_rename_109 rfl ?_
                      refine G_iload_n 6 dr_cX17_rename_111 rfl ?_
                      refine Gp_put 3 hm187936 he187937 dr_cX17_rename_112 (gk_X15 D I) (Nat.le_of_ble_eq_true rfl) wr_9_190 rfl rfl rfl (Nat.le_of_ble_eq_true rfl) (fun F188023 e188024 n188025 => ?_)
                      have he188026 : F188023 q165176 = .inr (18, [.ref q187066, .ref q187067, .int p187068, .int p187069]) := (n188025 q165176 (rn_oo he187905 he187937 (by decide))).trans he187905
                      have he188027 : F188023 q187066 = .inr (4, [.int p187096, .ref q187098, .int p187097]) := (n188025 q187066 (rn_oo he187906 he187937 (by decide))).trans he187906
                      have he188028 : F188023 q187098 = .inl (I (.object "java/lang/Object"), n187112, .inr (.inr (.inr (.inr f187113)))) := (n188025 q187098 (rn_ao he187907 he187937)).trans he187907
                      have he188029 : F188023 q187115 = .inr (17, [.ref q187124, .ref q187125, .int p187126, .int p187127]) := (n188025 q187115 (rn_oo he187908 he187937 (by decide))).trans he187908
                      have he188030 : F188023 q187124 = .inr (4, [.int p187912, .ref q187914, .int p187913]) := (n188025 q187124 (rn_oo he187911 he187937 (by decide))).trans he187911
                      have he188031 : F188023 q187125 = .inr (20, [.int p187938, .int p187939, .int p187940, .int p165178, .int p187942, .int p187943, .int p187944]) := e188024
                      have hs188032 : rStr γ [1] F165175 F188023 := rStr_pu2 hs187902 n188025 ht187130 (by decide)
                      refine G_aload 0 dr_cX17_rename_115 rfl ?_
                      have hT188033 : RS D I P165174 F188023 γ el := RS_set hT187901 n188025 ht187130 (by decide) ⟨p187938, p187939, p187940, p165178, p187942, p187943, p187944, he188031, bp187938, bp187939, bp187942, bp187943, bp187944, (by omega), (by omega), (by omega), (by omega)⟩
                      refine Gw_callV (As := []) (gV_ok D I) (cp_1654_Row_sets l hl0 D I P165174 F188023 q187125 p187938 p187939 p187940 p165178 p187942 p187943 p187944 hm187936 he188031 bp187938 bp187939 bp187942 bp187943 bp187944) dr_cX17_rename_117 ⟨wr_10_181, wr_1_39, wr_10_184, by decide, rfl, (Nat.le_of_ble_eq_true rfl), (Nat.le_of_ble_eq_true rfl)⟩ wr_10_182 wr_10_183 hm187936 he188031 rfl (show 0 + 0 ≤ 0 by first | omega | decide) (show 0 + 0 ≤ 0 by first | omega | decide) (Nat.le_of_ble_eq_true rfl) (fun r188037 w188038 dc188034 ds188035 hp188036 => ?_) (fun _ _ _ _ _ z => z.elim)
                      obtain ⟨o188039, rfl, rfl, hdc, hds, bo188039⟩ := hp188036
                      change G _ _ _ _ _ _ _ (.int o188039 :: _) _ _ _
                      refine G_widen (cs' := 0) (sl' := 0) (by omega) (by omega) ?_
                      refine G_if_eq 138 dr_cX17_rename_120 (by decide +kernel) (fun hc188040 => ?_) (fun hc188040 => ?_)
                      · have r188041 : o188039.toInt = 0 := gj_eq hc188040 (show Int32.toInt 0 = 0 by decide)
                        have bo188039' : gB o188039 0 0 := ⟨by omega, by omega⟩
                        obtain ⟨z188042, hz188042⟩ : ∃ z : Int32, z = g187899 + Int32.ofInt 1 := ⟨_, rfl⟩
                        have ez188042 : z188042.toInt = g187899.toInt + 1 := gI_inc hz188042 (by decide) bg187899' (by decide) (by decide)
                        have bz188042 : gB z188042 1 1000001 := ⟨by omega, by omega⟩
                        refine G_iinc (L' := [(5, .int z188042), (6, .ref q187125), (4, .ref q187115), (3, .int g187057), (0, .ref q165176), (1, .int p165177), (2, .int p165178)]) z188042 1 dr_cX17_rename_138 rfl hz188042.symm (Nat.le_of_ble_eq_true rfl) rfl ?_
                        refine G_goto 20 dr_cX17_rename_141 (by decide +kernel) ?_
                        refine G_lv (L' := [(5, .int z188042), (4, .ref q187115), (3, .int g187057), (0, .ref q165176), (1, .int p165177), (2, .int p165178)]) [0, 2, 3, 4, 5, 6] rfl ?_
                        exact ih20_187902 F188023 z188042 (gB_w bz188042 (by decide) (by decide)) hT188033 hs188032 (by omega)
                      · have r188043 : o188039.toInt ≠ 0 := gj_neq hc188040 (show Int32.toInt 0 = 0 by decide)
                        have bo188039' : gB o188039 1 1 := ⟨by omega, by omega⟩
                        refine G_aload 0 dr_cX17_rename_123 rfl ?_
                        refine Gp_get 1 hm187936 he188031 dr_cX17_rename_125 (gk_X15 D I) (Nat.le_of_ble_eq_true rfl) wr_9_182 rfl ?_
                        refine G_iload_n 5 dr_cX17_rename_128 rfl ?_
                        refine G_icmp_ne 138 dr_cX17_rename_129 (by decide +kernel) (fun hc188044 => ?_) (fun hc188044 => ?_)
                        · have r188045 : p187939.toInt ≠ p165177.toInt := gC_ne hc188044
                          obtain ⟨z188046, hz188046⟩ : ∃ z : Int32, z = g187899 + Int32.ofInt 1 := ⟨_, rfl⟩
                          have ez188046 : z188046.toInt = g187899.toInt + 1 := gI_inc hz188046 (by decide) bg187899' (by decide) (by decide)
                          have bz188046 : gB z188046 1 1000001 := ⟨by omega, by omega⟩
                          refine G_iinc (L' := [(5, .int z188046), (6, .ref q187125), (4, .ref q187115), (3, .int g187057), (0, .ref q165176), (1, .int p165177), (2, .int p165178)]) z188046 1 dr_cX17_rename_138 rfl hz188046.symm (Nat.le_of_ble_eq_true rfl) rfl ?_
                          refine G_goto 20 dr_cX17_rename_141 (by decide +kernel) ?_
                          refine G_lv (L' := [(5, .int z188046), (4, .ref q187115), (3, .int g187057), (0, .ref q165176), (1, .int p165177), (2, .int p165178)]) [0, 2, 3, 4, 5, 6] rfl ?_
                          exact ih20_187902 F188023 z188046 (gB_w bz188046 (by decide) (by decide)) hT188033 hs188032 (by omega)
                        · have r188047 : p187939.toInt = p165177.toInt := gC_eq hc188044
                          refine G_aload 0 dr_cX17_rename_132 rfl ?_
                          refine G_iload_n 6 dr_cX17_rename_134 rfl ?_
                          refine Gp_put 1 hm187936 he188031 dr_cX17_rename_135 (gk_X15 D I) (Nat.le_of_ble_eq_true rfl) wr_9_182 rfl rfl rfl (Nat.le_of_ble_eq_true rfl) (fun F188048 e188049 n188050 => ?_)
                          have he188051 : F188048 q165176 = .inr (18, [.ref q187066, .ref q187067, .int p187068, .int p187069]) := (n188050 q165176 (rn_oo he188026 he188031 (by decide))).trans he188026
                          have he188052 : F188048 q187066 = .inr (4, [.int p187096, .ref q187098, .int p187097]) := (n188050 q187066 (rn_oo he188027 he188031 (by decide))).trans he188027
                          have he188053 : F188048 q187098 = .inl (I (.object "java/lang/Object"), n187112, .inr (.inr (.inr (.inr f187113)))) := (n188050 q187098 (rn_ao he188028 he188031)).trans he188028
                          have he188054 : F188048 q187115 = .inr (17, [.ref q187124, .ref q187125, .int p187126, .int p187127]) := (n188050 q187115 (rn_oo he188029 he188031 (by decide))).trans he188029
                          have he188055 : F188048 q187124 = .inr (4, [.int p187912, .ref q187914, .int p187913]) := (n188050 q187124 (rn_oo he188030 he188031 (by decide))).trans he188030
                          have he188056 : F188048 q187125 = .inr (20, [.int p187938, .int p165178, .int p187940, .int p165178, .int p187942, .int p187943, .int p187944]) := e188049
                          have hs188057 : rStr γ [1] F165175 F188048 := rStr_pu2 hs188032 n188050 ht187130 (by decide)
                          obtain ⟨z188058, hz188058⟩ : ∃ z : Int32, z = g187899 + Int32.ofInt 1 := ⟨_, rfl⟩
                          have ez188058 : z188058.toInt = g187899.toInt + 1 := gI_inc hz188058 (by decide) bg187899' (by decide) (by decide)
                          have bz188058 : gB z188058 1 1000001 := ⟨by omega, by omega⟩
                          refine G_iinc (L' := [(5, .int z188058), (6, .ref q187125), (4, .ref q187115), (3, .int g187057), (0, .ref q165176), (1, .int p165177), (2, .int p165178)]) z188058 1 dr_cX17_rename_138 rfl hz188058.symm (Nat.le_of_ble_eq_true rfl) rfl ?_
                          refine G_goto 20 dr_cX17_rename_141 (by decide +kernel) ?_
                          have hT188059 : RS D I P165174 F188048 γ el := RS_set hT188033 n188050 ht187130 (by decide) ⟨p187938, p165178, p187940, p165178, p187942, p187943, p187944, he188056, bp187938, bp165178, bp187942, bp187943, bp187944, (by omega), (by omega), (by omega), (by omega)⟩
                          refine G_lv (L' := [(5, .int z188058), (4, .ref q187115), (3, .int g187057), (0, .ref q165176), (1, .int p165177), (2, .int p165178)]) [0, 2, 3, 4, 5, 6] rfl ?_
                          exact ih20_187902 F188048 z188058 (gB_w bz188058 (by decide) (by decide)) hT188059 hs188057 (by omega)
                · have r188060 : o187954.toInt ≠ 0 := gj_neq hc187956 (show Int32.toInt 0 = 0 by decide)
                  have bo187954' : gB o187954 1 1 := ⟨by omega, by omega⟩
                  refine G_aload 0 dr_cX17_rename_77 rfl ?_
                  refine Gp_get 2 hm187936 he187937 dr_cX17_rename_79 (gk_X15 D I) (Nat.le_of_ble_eq_true rfl) wr_9_186 rfl ?_
                  refine G_iload_n 5 dr_cX17_rename_82 rfl ?_
                  refine G_icmp_ne 92 dr_cX17_rename_83 (by decide +kernel) (fun hc188061 => ?_) (fun hc188061 => ?_)
                  · have r188062 : p187940.toInt ≠ p165177.toInt := gC_ne hc188061
                    refine G_aload 0 dr_cX17_rename_92 rfl ?_
                    refine Gw_callV (As := []) (gV_ok D I) (cp_1693_Row_usesB l hl0 D I P165174 F187900 q187125 p187938 p187939 p187940 p187941 p187942 p187943 p187944 hm187936 he187937 bp187938 bp187939 bp187942 bp187943 bp187944) dr_cX17_rename_94 ⟨wr_10_196, wr_1_39, wr_10_199, by decide, rfl, (Nat.le_of_ble_eq_true rfl), (Nat.le_of_ble_eq_true rfl)⟩ wr_10_197 wr_10_198 hm187936 he187937 rfl (show 0 + 0 ≤ 0 by first | omega | decide) (show 0 + 0 ≤ 0 by first | omega | decide) (Nat.le_of_ble_eq_true rfl) (fun r188066 w188067 dc188063 ds188064 hp188065 => ?_) (fun _ _ _ _ _ z => z.elim)
                    obtain ⟨o188068, rfl, rfl, hdc, hds, bo188068, x188069⟩ := hp188065
                    change G _ _ _ _ _ _ _ (.int o188068 :: _) _ _ _
                    refine G_widen (cs' := 0) (sl' := 0) (by omega) (by omega) ?_
                    refine G_if_eq 115 dr_cX17_rename_97 (by decide +kernel) (fun hc188070 => ?_) (fun hc188070 => ?_)
                    · have r188071 : o188068.toInt = 0 := gj_eq hc188070 (show Int32.toInt 0 = 0 by decide)
                      have bo188068' : gB o188068 0 0 := ⟨by omega, by omega⟩
                      refine G_aload 0 dr_cX17_rename_115 rfl ?_
                      refine Gw_callV (As := []) (gV_ok D I) (cp_1654_Row_sets l hl0 D I P165174 F187900 q187125 p187938 p187939 p187940 p187941 p187942 p187943 p187944 hm187936 he187937 bp187938 bp187939 bp187942 bp187943 bp187944) dr_cX17_rename_117 ⟨wr_10_181, wr_1_39, wr_10_184, by decide, rfl, (Nat.le_of_ble_eq_true rfl), (Nat.le_of_ble_eq_true rfl)⟩ wr_10_182 wr_10_183 hm187936 he187937 rfl (show 0 + 0 ≤ 0 by first | omega | decide) (show 0 + 0 ≤ 0 by first | omega | decide) (Nat.le_of_ble_eq_true rfl) (fun r188075 w188076 dc188072 ds188073 hp188074 => ?_) (fun _ _ _ _ _ z => z.elim)
                      obtain ⟨o188077, rfl, rfl, hdc, hds, bo188077⟩ := hp188074
                      change G _ _ _ _ _ _ _ (.int o188077 :: _) _ _ _
                      refine G_widen (cs' := 0) (sl' := 0) (by omega) (by omega) ?_
                      refine G_if_eq 138 dr_cX17_rename_120 (by decide +kernel) (fun hc188078 => ?_) (fun hc188078 => ?_)
                      · have r188079 : o188077.toInt = 0 := gj_eq hc188078 (show Int32.toInt 0 = 0 by decide)
                        have bo188077' : gB o188077 0 0 := ⟨by omega, by omega⟩
                        obtain ⟨z188080, hz188080⟩ : ∃ z : Int32, z = g187899 + Int32.ofInt 1 := ⟨_, rfl⟩
                        have ez188080 : z188080.toInt = g187899.toInt + 1 := gI_inc hz188080 (by decide) bg187899' (by decide) (by decide)
                        have bz188080 : gB z188080 1 1000001 := ⟨by omega, by omega⟩
                        refine G_iinc (L' := [(5, .int z188080), (6, .ref q187125), (4, .ref q187115), (3, .int g187057), (0, .ref q165176), (1, .int p165177), (2, .int p165178)]) z188080 1 dr_cX17_rename_138 rfl hz188080.symm (Nat.le_of_ble_eq_true rfl) rfl ?_
                        refine G_goto 20 dr_cX17_rename_141 (by decide +kernel) ?_
                        refine G_lv (L' := [(5, .int z188080), (4, .ref q187115), (3, .int g187057), (0, .ref q165176), (1, .int p165177), (2, .int p165178)]) [0, 2, 3, 4, 5, 6] rfl ?_
                        exact ih20_187902 F187900 z188080 (gB_w bz188080 (by decide) (by decide)) hT187901 hs187902 (by omega)
                      · have r188081 : o188077.toInt ≠ 0 := gj_neq hc188078 (show Int32.toInt 0 = 0 by decide)
                        have bo188077' : gB o188077 1 1 := ⟨by omega, by omega⟩
                        refine G_aload 0 dr_cX17_rename_123 rfl ?_
                        refine Gp_get 1 hm187936 he187937 dr_cX17_rename_125 (gk_X15 D I) (Nat.le_of_ble_eq_true rfl) wr_9_182 rfl ?_
                        refine G_iload_n 5 dr_cX17_rename_128 rfl ?_
                        refine G_icmp_ne 138 dr_cX17_rename_129 (by decide +kernel) (fun hc188082 => ?_) (fun hc188082 => ?_)
                        · have r188083 : p187939.toInt ≠ p165177.toInt := gC_ne hc188082
                          obtain ⟨z188084, hz188084⟩ : ∃ z : Int32, z = g187899 + Int32.ofInt 1 := ⟨_, rfl⟩
                          have ez188084 : z188084.toInt = g187899.toInt + 1 := gI_inc hz188084 (by decide) bg187899' (by decide) (by decide)
                          have bz188084 : gB z188084 1 1000001 := ⟨by omega, by omega⟩
                          refine G_iinc (L' := [(5, .int z188084), (6, .ref q187125), (4, .ref q187115), (3, .int g187057), (0, .ref q165176), (1, .int p165177), (2, .int p165178)]) z188084 1 dr_cX17_rename_138 rfl hz188084.symm (Nat.le_of_ble_eq_true rfl) rfl ?_
                          refine G_goto 20 dr_cX17_rename_141 (by decide +kernel) ?_
                          refine G_lv (L' := [(5, .int z188084), (4, .ref q187115), (3, .int g187057), (0, .ref q165176), (1, .int p165177), (2, .int p165178)]) [0, 2, 3, 4, 5, 6] rfl ?_
                          exact ih20_187902 F187900 z188084 (gB_w bz188084 (by decide) (by decide)) hT187901 hs187902 (by omega)
                        · have r188085 : p187939.toInt = p165177.toInt := gC_eq hc188082
                          refine G_aload 0 dr_cX17_rename_132 rfl ?_
                          refine G_iload_n 6 dr_cX17_rename_134 rfl ?_
                          refine Gp_put 1 hm187936 he187937 dr_cX17_rename_135 (gk_X15 D I) (Nat.le_of_ble_eq_true rfl) wr_9_182 rfl rfl rfl (Nat.le_of_ble_eq_true rfl) (fun F188086 e188087 n188088 => ?_)
                          have he188089 : F188086 q165176 = .inr (18, [.ref q187066, .ref q187067, .int p187068, .int p187069]) := (n188088 q165176 (rn_oo he187905 he187937 (by decide))).trans he187905
                          have he188090 : F188086 q187066 = .inr (4, [.int p187096, .ref q187098, .int p187097]) := (n188088 q187066 (rn_oo he187906 he187937 (by decide))).trans he187906
                          have he188091 : F188086 q187098 = .inl (I (.object "java/lang/Object"), n187112, .inr (.inr (.inr (.inr f187113)))) := (n188088 q187098 (rn_ao he187907 he187937)).trans he187907
                          have he188092 : F188086 q187115 = .inr (17, [.ref q187124, .ref q187125, .int p187126, .int p187127]) := (n188088 q187115 (rn_oo he187908 he187937 (by decide))).trans he187908
                          have he188093 : F188086 q187124 = .inr (4, [.int p187912, .ref q187914, .int p187913]) := (n188088 q187124 (rn_oo he187911 he187937 (by decide))).trans he187911
                          have he188094 : F188086 q187125 = .inr (20, [.int p187938, .int p165178, .int p187940, .int p187941, .int p187942, .int p187943, .int p187944]) := e188087
                          have hs188095 : rStr γ [1] F165175 F188086 := rStr_pu2 hs187902 n188088 ht187130 (by decide)
                          obtain ⟨z188096, hz188096⟩ : ∃ z : Int32, z = g187899 + Int32.ofInt 1 := ⟨_, rfl⟩
                          have ez188096 : z188096.toInt = g187899.toInt + 1 := gI_inc hz188096 (by decide) bg187899' (by decide) (by decide)
                          have bz188096 : gB z188096 1 1000001 := ⟨by omega, by omega⟩
                          refine G_iinc (L' := [(5, .int z188096), (6, .ref q187125), (4, .ref q187115), (3, .int g187057), (0, .ref q165176), (1, .int p165177), (2, .int p165178)]) z188096 1 dr_cX17_rename_138 rfl hz188096.symm (Nat.le_of_ble_eq_true rfl) rfl ?_
                          refine G_goto 20 dr_cX17_rename_141 (by decide +kernel) ?_
                          have hT188097 : RS D I P165174 F188086 γ el := RS_set hT187901 n188088 ht187130 (by decide) ⟨p187938, p165178, p187940, p187941, p187942, p187943, p187944, he188094, bp187938, bp165178, bp187942, bp187943, bp187944, (by omega), (by omega), (by omega), (by omega)⟩
                          refine G_lv (L' := [(5, .int z188096), (4, .ref q187115), (3, .int g187057), (0, .ref q165176), (1, .int p165177), (2, .int p165178)]) [0, 2, 3, 4, 5, 6] rfl ?_
                          exact ih20_187902 F188086 z188096 (gB_w bz188096 (by decide) (by decide)) hT188097 hs188095 (by omega)
                    · have r188098 : o188068.toInt ≠ 0 := gj_neq hc188070 (show Int32.toInt 0 = 0 by decide)
                      have bo188068' : gB o188068 1 1 := ⟨by omega, by omega⟩
                      refine G_aload 0 dr_cX17_rename_100 rfl ?_
                      refine Gp_get 3 hm187936 he187937 dr_cX17_rename_102 (gk_X15 D I) (Nat.le_of_ble_eq_true rfl) wr_9_190 rfl ?_
                      refine G_iload_n 5 dr_cX17_rename_105 rfl ?_
                      refine G_icmp_ne 115 dr_cX17_rename_106 (by decide +kernel) (fun hc188099 => ?_) (fun hc188099 => ?_)
                      · have r188100 : p187941.toInt ≠ p165177.toInt := gC_ne hc188099
                        refine G_aload 0 dr_cX17_rename_115 rfl ?_
                        refine Gw_callV (As := []) (gV_ok D I) (cp_1654_Row_sets l hl0 D I P165174 F187900 q187125 p187938 p187939 p187940 p187941 p187942 p187943 p187944 hm187936 he187937 bp187938 bp187939 bp187942 bp187943 bp187944) dr_cX17_rename_117 ⟨wr_10_181, wr_1_39, wr_10_184, by decide, rfl, (Nat.le_of_ble_eq_true rfl), (Nat.le_of_ble_eq_true rfl)⟩ wr_10_182 wr_10_183 hm187936 he187937 rfl (show 0 + 0 ≤ 0 by first | omega | decide) (show 0 + 0 ≤ 0 by first | omega | decide) (Nat.le_of_ble_eq_true rfl) (fun r188104 w188105 dc188101 ds188102 hp188103 => ?_) (fun _ _ _ _ _ z => z.elim)
                        obtain ⟨o188106, rfl, rfl, hdc, hds, bo188106⟩ := hp188103
                        change G _ _ _ _ _ _ _ (.int o188106 :: _) _ _ _
                        refine G_widen (cs' := 0) (sl' := 0) (by omega) (by omega) ?_
                        refine G_if_eq 138 dr_cX17_rename_120 (by decide +kernel) (fun hc188107 => ?_) (fun hc188107 => ?_)
                        · have r188108 : o188106.toInt = 0 := gj_eq hc188107 (show Int32.toInt 0 = 0 by decide)
                          have bo188106' : gB o188106 0 0 := ⟨by omega, by omega⟩
                          obtain ⟨z188109, hz188109⟩ : ∃ z : Int32, z = g187899 + Int32.ofInt 1 := ⟨_, rfl⟩
                          have ez188109 : z188109.toInt = g187899.toInt + 1 := gI_inc hz188109 (by decide) bg187899' (by decide) (by decide)
                          have bz188109 : gB z188109 1 1000001 := ⟨by omega, by omega⟩
                          refine G_iinc (L' := [(5, .int z188109), (6, .ref q187125), (4, .ref q187115), (3, .int g187057), (0, .ref q165176), (1, .int p165177), (2, .int p165178)]) z188109 1 dr_cX17_rename_138 rfl hz188109.symm (Nat.le_of_ble_eq_true rfl) rfl ?_
                          refine G_goto 20 dr_cX17_rename_141 (by decide +kernel) ?_
                          refine G_lv (L' := [(5, .int z188109), (4, .ref q187115), (3, .int g187057), (0, .ref q165176), (1, .int p165177), (2, .int p165178)]) [0, 2, 3, 4, 5, 6] rfl ?_
                          exact ih20_187902 F187900 z188109 (gB_w bz188109 (by decide) (by decide)) hT187901 hs187902 (by omega)
                        · have r188110 : o188106.toInt ≠ 0 := gj_neq hc188107 (show Int32.toInt 0 = 0 by decide)
                          have bo188106' : gB o188106 1 1 := ⟨by omega, by omega⟩
                          refine G_aload 0 dr_cX17_rename_123 rfl ?_
                          refine Gp_get 1 hm187936 he187937 dr_cX17_rename_125 (gk_X15 D I) (Nat.le_of_ble_eq_true rfl) wr_9_182 rfl ?_
                          refine G_iload_n 5 dr_cX17_rename_128 rfl ?_
                          refine G_icmp_ne 138 dr_cX17_rename_129 (by decide +kernel) (fun hc188111 => ?_) (fun hc188111 => ?_)
                          · have r188112 : p187939.toInt ≠ p165177.toInt := gC_ne hc188111
                            obtain ⟨z188113, hz188113⟩ : ∃ z : Int32, z = g187899 + Int32.ofInt 1 := ⟨_, rfl⟩
                            have ez188113 : z188113.toInt = g187899.toInt + 1 := gI_inc hz188113 (by decide) bg187899' (by decide) (by decide)
                            have bz188113 : gB z188113 1 1000001 := ⟨by omega, by omega⟩
                            refine G_iinc (L' := [(5, .int z188113), (6, .ref q187125), (4, .ref q187115), (3, .int g187057), (0, .ref q165176), (1, .int p165177), (2, .int p165178)]) z188113 1 dr_cX17_rename_138 rfl hz188113.symm (Nat.le_of_ble_eq_true rfl) rfl ?_
                            refine G_goto 20 dr_cX17_rename_141 (by decide +kernel) ?_
                            refine G_lv (L' := [(5, .int z188113), (4, .ref q187115), (3, .int g187057), (0, .ref q165176), (1, .int p165177), (2, .int p165178)]) [0, 2, 3, 4, 5, 6] rfl ?_
                            exact ih20_187902 F187900 z188113 (gB_w bz188113 (by decide) (by decide)) hT187901 hs187902 (by omega)
                          · have r188114 : p187939.toInt = p165177.toInt := gC_eq hc188111
                            refine G_aload 0 dr_cX17_rename_132 rfl ?_
                            refine G_iload_n 6 dr_cX17_rename_134 rfl ?_
                            refine Gp_put 1 hm187936 he187937 dr_cX17_rename_135 (gk_X15 D I) (Nat.le_of_ble_eq_true rfl) wr_9_182 rfl rfl rfl (Nat.le_of_ble_eq_true rfl) (fun F188115 e188116 n188117 => ?_)
                            have he188118 : F188115 q165176 = .inr (18, [.ref q187066, .ref q187067, .int p187068, .int p187069]) := (n188117 q165176 (rn_oo he187905 he187937 (by decide))).trans he187905
                            have he188119 : F188115 q187066 = .inr (4, [.int p187096, .ref q187098, .int p187097]) := (n188117 q187066 (rn_oo he187906 he187937 (by decide))).trans he187906
                            have he188120 : F188115 q187098 = .inl (I (.object "java/lang/Object"), n187112, .inr (.inr (.inr (.inr f187113)))) := (n188117 q187098 (rn_ao he187907 he187937)).trans he187907
                            have he188121 : F188115 q187115 = .inr (17, [.ref q187124, .ref q187125, .int p187126, .int p187127]) := (n188117 q187115 (rn_oo he187908 he187937 (by decide))).trans he187908
                            have he188122 : F188115 q187124 = .inr (4, [.int p187912, .ref q187914, .int p187913]) := (n188117 q187124 (rn_oo he187911 he187937 (by decide))).trans he187911
                            have he188123 : F188115 q187125 = .inr (20, [.int p187938, .int p165178, .int p187940, .int p187941, .int p187942, .int p187943, .int p187944]) := e188116
                            have hs188124 : rStr γ [1] F165175 F188115 := rStr_pu2 hs187902 n188117 ht187130 (by decide)
                            obtain ⟨z188125, hz188125⟩ : ∃ z : Int32, z = g187899 + Int32.ofInt 1 := ⟨_, rfl⟩
                            have ez188125 : z188125.toInt = g187899.toInt + 1 := gI_inc hz188125 (by decide) bg187899' (by decide) (by decide)
                            have bz188125 : gB z188125 1 1000001 := ⟨by omega, by omega⟩
                            refine G_iinc (L' := [(5, .int z188125), (6, .ref q187125), (4, .ref q187115), (3, .int g187057), (0, .ref q165176), (1, .int p165177), (2, .int p165178)]) z188125 1 dr_cX17_rename_138 rfl hz188125.symm (Nat.le_of_ble_eq_true rfl) rfl ?_
                            refine G_goto 20 dr_cX17_rename_141 (by decide +kernel) ?_
                            have hT188126 : RS D I P165174 F188115 γ el := RS_set hT187901 n188117 ht187130 (by decide) ⟨p187938, p165178, p187940, p187941, p187942, p187943, p187944, he188123, bp187938, bp165178, bp187942, bp187943, bp187944, (by omega), (by omega), (by omega), (by omega)⟩
                            refine G_lv (L' := [(5, .int z188125), (4, .ref q187115), (3, .int g187057), (0, .ref q165176), (1, .int p165177), (2, .int p165178)]) [0, 2, 3, 4, 5, 6] rfl ?_
                            exact ih20_187902 F188115 z188125 (gB_w bz188125 (by decide) (by decide)) hT188126 hs188124 (by omega)
                      · have r188127 : p187941.toInt = p165177.toInt := gC_eq hc188099
                        have bp187941' : gB p187941 0 1999 := ⟨by omega, by omega⟩
                        refine G_aload 0 dr_cX17_rename_109 rfl ?_
                        refine G_iload_n 6 dr_cX17_rename_111 rfl ?_
                        refine Gp_put 3 hm187936 he187937 dr_cX17_rename_112 (gk_X15 D I) (Nat.le_of_ble_eq_true rfl) wr_9_190 rfl rfl rfl (Nat.le_of_ble_eq_true rfl) (fun F188128 e188129 n188130 => ?_)
                        have he188131 : F188128 q165176 = .inr (18, [.ref q187066, .ref q187067, .int p187068, .int p187069]) := (n188130 q165176 (rn_oo he187905 he187937 (by decide))).trans he187905
                        have he188132 : F188128 q187066 = .inr (4, [.int p187096, .ref q187098, .int p187097]) := (n188130 q187066 (rn_oo he187906 he187937 (by decide))).trans he187906
                        have he188133 : F188128 q187098 = .inl (I (.object "java/lang/Object"), n187112, .inr (.inr (.inr (.inr f187113)))) := (n188130 q187098 (rn_ao he187907 he187937)).trans he187907
                        have he188134 : F188128 q187115 = .inr (17, [.ref q187124, .ref q187125, .int p187126, .int p187127]) := (n188130 q187115 (rn_oo he187908 he187937 (by decide))).trans he187908
                        have he188135 : F188128 q187124 = .inr (4, [.int p187912, .ref q187914, .int p187913]) := (n188130 q187124 (rn_oo he187911 he187937 (by decide))).trans he187911
                        have he188136 : F188128 q187125 = .inr (20, [.int p187938, .int p187939, .int p187940, .int p165178, .int p187942, .int p187943, .int p187944]) := e188129
                        have hs188137 : rStr γ [1] F165175 F188128 := rStr_pu2 hs187902 n188130 ht187130 (by decide)
                        refine G_aload 0 dr_cX17_rename_115 rfl ?_
                        have hT188138 : RS D I P165174 F188128 γ el := RS_set hT187901 n188130 ht187130 (by decide) ⟨p187938, p187939, p187940, p165178, p187942, p187943, p187944, he188136, bp187938, bp187939, bp187942, bp187943, bp187944, (by omega), (by omega), (by omega), (by omega)⟩
                        refine Gw_callV (As := []) (gV_ok D I) (cp_1654_Row_sets l hl0 D I P165174 F188128 q187125 p187938 p187939 p187940 p165178 p187942 p187943 p187944 hm187936 he188136 bp187938 bp187939 bp187942 bp187943 bp187944) dr_cX17_rename_117 ⟨wr_10_181, wr_1_39, wr_10_184, by decide, rfl, (Nat.le_of_ble_eq_true rfl), (Nat.le_of_ble_eq_true rfl)⟩ wr_10_182 wr_10_183 hm187936 he188136 rfl (show 0 + 0 ≤ 0 by first | omega | decide) (show 0 + 0 ≤ 0 by first | omega | decide) (Nat.le_of_ble_eq_true rfl) (fun r188142 w188143 dc188139 ds188140 hp188141 => ?_) (fun _ _ _ _ _ z => z.elim)
                        obtain ⟨o188144, rfl, rfl, hdc, hds, bo188144⟩ := hp188141
                        change G _ _ _ _ _ _ _ (.int o188144 :: _) _ _ _
                        refine G_widen (cs' := 0) (sl' := 0) (by omega) (by omega) ?_
                        refine G_if_eq 138 dr_cX17_rename_120 (by decide +kernel) (fun hc188145 => ?_) (fun hc188145 => ?_)
                        · have r188146 : o188144.toInt = 0 := gj_eq hc188145 (show Int32.toInt 0 = 0 by decide)
                          have bo188144' : gB o188144 0 0 := ⟨by omega, by omega⟩
                          obtain ⟨z188147, hz188147⟩ : ∃ z : Int32, z = g187899 + Int32.ofInt 1 := ⟨_, rfl⟩
                          have ez188147 : z188147.toInt = g187899.toInt + 1 := gI_inc hz188147 (by decide) bg187899' (by decide) (by decide)
                          have bz188147 : gB z188147 1 1000001 := ⟨by omega, by omega⟩
                          refine G_iinc (L' := [(5, .int z188147), (6, .ref q187125), (4, .ref q187115), (3, .int g187057), (0, .ref q165176), (1, .int p165177), (2, .int p165178)]) z188147 1 dr_cX17_rename_138 rfl hz188147.symm (Nat.le_of_ble_eq_true rfl) rfl ?_
                          refine G_goto 20 dr_cX17_rename_141 (by decide +kernel) ?_
                          refine G_lv (L' := [(5, .int z188147), (4, .ref q187115), (3, .int g187057), (0, .ref q165176), (1, .int p165177), (2, .int p165178)]) [0, 2, 3, 4, 5, 6] rfl ?_
                          exact ih20_187902 F188128 z188147 (gB_w bz188147 (by decide) (by decide)) hT188138 hs188137 (by omega)
                        · have r188148 : o188144.toInt ≠ 0 := gj_neq hc188145 (show Int32.toInt 0 = 0 by decide)
                          have bo188144' : gB o188144 1 1 := ⟨by omega, by omega⟩
                          refine G_aload 0 dr_cX17_rename_123 rfl ?_
                          refine Gp_get 1 hm187936 he188136 dr_cX17_rename_125 (gk_X15 D I) (Nat.le_of_ble_eq_true rfl) wr_9_182 rfl ?_
                          refine G_iload_n 5 dr_cX17_rename_128 rfl ?_
                          refine G_icmp_ne 138 dr_cX17_rename_129 (by decide +kernel) (fun hc188149 => ?_) (fun hc188149 => ?_)
                          · have r188150 : p187939.toInt ≠ p165177.toInt := gC_ne hc188149
                            obtain ⟨z188151, hz188151⟩ : ∃ z : Int32, z = g187899 + Int32.ofInt 1 := ⟨_, rfl⟩
                            have ez188151 : z188151.toInt = g187899.toInt + 1 := gI_inc hz188151 (by decide) bg187899' (by decide) (by decide)
                            have bz188151 : gB z188151 1 1000001 := ⟨by omega, by omega⟩
                            refine G_iinc (L' := [(5, .int z188151), (6, .ref q187125), (4, .ref q187115), (3, .int g187057), (0, .ref q165176), (1, .int p165177), (2, .int p165178)]) z188151 1 dr_cX17_rename_138 rfl hz188151.symm (Nat.le_of_ble_eq_true rfl) rfl ?_
                            refine G_goto 20 dr_cX17_rename_141 (by decide +kernel) ?_
                            refine G_lv (L' := [(5, .int z188151), (4, .ref q187115), (3, .int g187057), (0, .ref q165176), (1, .int p165177), (2, .int p165178)]) [0, 2, 3, 4, 5, 6] rfl ?_
                            exact ih20_187902 F188128 z188151 (gB_w bz188151 (by decide) (by decide)) hT188138 hs188137 (by omega)
                          · have r188152 : p187939.toInt = p165177.toInt := gC_eq hc188149
                            refine G_aload 0 dr_cX17_rename_132 rfl ?_
                            refine G_iload_n 6 dr_cX17_rename_134 rfl ?_
                            refine Gp_put 1 hm187936 he188136 dr_cX17_rename_135 (gk_X15 D I) (Nat.le_of_ble_eq_true rfl) wr_9_182 rfl rfl rfl (Nat.le_of_ble_eq_true rfl) (fun F188153 e188154 n188155 => ?_)
                            have he188156 : F188153 q165176 = .inr (18, [.ref q187066, .ref q187067, .int p187068, .int p187069]) := (n188155 q165176 (rn_oo he188131 he188136 (by decide))).trans he188131
                            have he188157 : F188153 q187066 = .inr (4, [.int p187096, .ref q187098, .int p187097]) := (n188155 q187066 (rn_oo he188132 he188136 (by decide))).trans he188132
                            have he188158 : F188153 q187098 = .inl (I (.object "java/lang/Object"), n187112, .inr (.inr (.inr (.inr f187113)))) := (n188155 q187098 (rn_ao he188133 he188136)).trans he188133
                            have he188159 : F188153 q187115 = .inr (17, [.ref q187124, .ref q187125, .int p187126, .int p187127]) := (n188155 q187115 (rn_oo he188134 he188136 (by decide))).trans he188134
                            have he188160 : F188153 q187124 = .inr (4, [.int p187912, .ref q187914, .int p187913]) := (n188155 q187124 (rn_oo he188135 he188136 (by decide))).trans he188135
                            have he188161 : F188153 q187125 = .inr (20, [.int p187938, .int p165178, .int p187940, .int p165178, .int p187942, .int p187943, .int p187944]) := e188154
                            have hs188162 : rStr γ [1] F165175 F188153 := rStr_pu2 hs188137 n188155 ht187130 (by decide)
                            obtain ⟨z188163, hz188163⟩ : ∃ z : Int32, z = g187899 + Int32.ofInt 1 := ⟨_, rfl⟩
                            have ez188163 : z188163.toInt = g187899.toInt + 1 := gI_inc hz188163 (by decide) bg187899' (by decide) (by decide)
                            have bz188163 : gB z188163 1 1000001 := ⟨by omega, by omega⟩
                            refine G_iinc (L' := [(5, .int z188163), (6, .ref q187125), (4, .ref q187115), (3, .int g187057), (0, .ref q165176), (1, .int p165177), (2, .int p165178)]) z188163 1 dr_cX17_rename_138 rfl hz188163.symm (Nat.le_of_ble_eq_true rfl) rfl ?_
                            refine G_goto 20 dr_cX17_rename_141 (by decide +kernel) ?_
                            have hT188164 : RS D I P165174 F188153 γ el := RS_set hT188138 n188155 ht187130 (by decide) ⟨p187938, p165178, p187940, p165178, p187942, p187943, p187944, he188161, bp187938, bp165178, bp187942, bp187943, bp187944, (by omega), (by omega), (by omega), (by omega)⟩
                            refine G_lv (L' := [(5, .int z188163), (4, .ref q187115), (3, .int g187057), (0, .ref q165176), (1, .int p165177), (2, .int p165178)]) [0, 2, 3, 4, 5, 6] rfl ?_
                            exact ih20_187902 F188153 z188163 (gB_w bz188163 (by decide) (by decide)) hT188164 hs188162 (by omega)
                  · have r188165 : p187940.toInt = p165177.toInt := gC_eq hc188061
                    have bp187940' : gB p187940 0 1999 := ⟨by omega, by omega⟩
                    refine G_aload 0 dr_cX17_rename_86 rfl ?_
                    refine G_iload_n 6 dr_cX17_rename_88 rfl ?_
                    refine Gp_put 2 hm187936 he187937 dr_cX17_rename_89 (gk_X15 D I) (Nat.le_of_ble_eq_true rfl) wr_9_186 rfl rfl rfl (Nat.le_of_ble_eq_true rfl) (fun F188166 e188167 n188168 => ?_)
                    have he188169 : F188166 q165176 = .inr (18, [.ref q187066, .ref q187067, .int p187068, .int p187069]) := (n188168 q165176 (rn_oo he187905 he187937 (by decide))).trans he187905
                    have he188170 : F188166 q187066 = .inr (4, [.int p187096, .ref q187098, .int p187097]) := (n188168 q187066 (rn_oo he187906 he187937 (by decide))).trans he187906
                    have he188171 : F188166 q187098 = .inl (I (.object "java/lang/Object"), n187112, .inr (.inr (.inr (.inr f187113)))) := (n188168 q187098 (rn_ao he187907 he187937)).trans he187907
                    have he188172 : F188166 q187115 = .inr (17, [.ref q187124, .ref q187125, .int p187126, .int p187127]) := (n188168 q187115 (rn_oo he187908 he187937 (by decide))).trans he187908
                    have he188173 : F188166 q187124 = .inr (4, [.int p187912, .ref q187914, .int p187913]) := (n188168 q187124 (rn_oo he187911 he187937 (by decide))).trans he187911
                    have he188174 : F188166 q187125 = .inr (20, [.int p187938, .int p187939, .int p165178, .int p187941, .int p187942, .int p187943, .int p187944]) := e188167
                    have hs188175 : rStr γ [1] F165175 F188166 := rStr_pu2 hs187902 n188168 ht187130 (by decide)
                    refine G_aload 0 dr_cX17_rename_92 rfl ?_
                    have hT188176 : RS D I P165174 F188166 γ el := RS_set hT187901 n188168 ht187130 (by decide) ⟨p187938, p187939, p165178, p187941, p187942, p187943, p187944, he188174, bp187938, bp187939, bp187942, bp187943, bp187944, (by omega), (by omega), (by omega), (by omega)⟩
                    refine Gw_callV (As := []) (gV_ok D I) (cp_1693_Row_usesB l hl0 D I P165174 F188166 q187125 p187938 p187939 p165178 p187941 p187942 p187943 p187944 hm187936 he188174 bp187938 bp187939 bp187942 bp187943 bp187944) dr_cX17_rename_94 ⟨wr_10_196, wr_1_39, wr_10_199, by decide, rfl, (Nat.le_of_ble_eq_true rfl), (Nat.le_of_ble_eq_true rfl)⟩ wr_10_197 wr_10_198 hm187936 he188174 rfl (show 0 + 0 ≤ 0 by first | omega | decide) (show 0 + 0 ≤ 0 by first | omega | decide) (Nat.le_of_ble_eq_true rfl) (fun r188180 w188181 dc188177 ds188178 hp188179 => ?_) (fun _ _ _ _ _ z => z.elim)
                    obtain ⟨o188182, rfl, rfl, hdc, hds, bo188182, x188183⟩ := hp188179
                    change G _ _ _ _ _ _ _ (.int o188182 :: _) _ _ _
                    refine G_widen (cs' := 0) (sl' := 0) (by omega) (by omega) ?_
                    refine G_if_eq 115 dr_cX17_rename_97 (by decide +kernel) (fun hc188184 => ?_) (fun hc188184 => ?_)
                    · have r188185 : o188182.toInt = 0 := gj_eq hc188184 (show Int32.toInt 0 = 0 by decide)
                      have bo188182' : gB o188182 0 0 := ⟨by omega, by omega⟩
                      refine G_aload 0 dr_cX17_rename_115 rfl ?_
                      refine Gw_callV (As := []) (gV_ok D I) (cp_1654_Row_sets l hl0 D I P165174 F188166 q187125 p187938 p187939 p165178 p187941 p187942 p187943 p187944 hm187936 he188174 bp187938 bp187939 bp187942 bp187943 bp187944) dr_cX17_rename_117 ⟨wr_10_181, wr_1_39, wr_10_184, by decide, rfl, (Nat.le_of_ble_eq_true rfl), (Nat.le_of_ble_eq_true rfl)⟩ wr_10_182 wr_10_183 hm187936 he188174 rfl (show 0 + 0 ≤ 0 by first | omega | decide) (show 0 + 0 ≤ 0 by first | omega | decide) (Nat.le_of_ble_eq_true rfl) (fun r188189 w188190 dc188186 ds188187 hp188188 => ?_) (fun _ _ _ _ _ z => z.elim)
                      obtain ⟨o188191, rfl, rfl, hdc, hds, bo188191⟩ := hp188188
                      change G _ _ _ _ _ _ _ (.int o188191 :: _) _ _ _
                      refine G_widen (cs' := 0) (sl' := 0) (by omega) (by omega) ?_
                      refine G_if_eq 138 dr_cX17_rename_120 (by decide +kernel) (fun hc188192 => ?_) (fun hc188192 => ?_)
                      · have r188193 : o188191.toInt = 0 := gj_eq hc188192 (show Int32.toInt 0 = 0 by decide)
                        have bo188191' : gB o188191 0 0 := ⟨by omega, by omega⟩
                        obtain ⟨z188194, hz188194⟩ : ∃ z : Int32, z = g187899 + Int32.ofInt 1 := ⟨_, rfl⟩
                        have ez188194 : z188194.toInt = g187899.toInt + 1 := gI_inc hz188194 (by decide) bg187899' (by decide) (by decide)
                        have bz188194 : gB z188194 1 1000001 := ⟨by omega, by omega⟩
                        refine G_iinc (L' := [(5, .int z188194), (6, .ref q187125), (4, .ref q187115), (3, .int g187057), (0, .ref q165176), (1, .int p165177), (2, .int p165178)]) z188194 1 dr_cX17_rename_138 rfl hz188194.symm (Nat.le_of_ble_eq_true rfl) rfl ?_
                        refine G_goto 20 dr_cX17_rename_141 (by decide +kernel) ?_
                        refine G_lv (L' := [(5, .int z188194), (4, .ref q187115), (3, .int g187057), (0, .ref q165176), (1, .int p165177), (2, .int p165178)]) [0, 2, 3, 4, 5, 6] rfl ?_
                        exact ih20_187902 F188166 z188194 (gB_w bz188194 (by decide) (by decide)) hT188176 hs188175 (by omega)
                      · have r188195 : o188191.toInt ≠ 0 := gj_neq hc188192 (show Int32.toInt 0 = 0 by decide)
                        have bo188191' : gB o188191 1 1 := ⟨by omega, by omega⟩
                        refine G_aload 0 dr_cX17_rename_123 rfl ?_
                        refine Gp_get 1 hm187936 he188174 dr_cX17_rename_125 (gk_X15 D I) (Nat.le_of_ble_eq_true rfl) wr_9_182 rfl ?_
                        refine G_iload_n 5 dr_cX17_rename_128 rfl ?_
                        refine G_icmp_ne 138 dr_cX17_rename_129 (by decide +kernel) (fun hc188196 => ?_) (fun hc188196 => ?_)
                        · have r188197 : p187939.toInt ≠ p165177.toInt := gC_ne hc188196
                          obtain ⟨z188198, hz188198⟩ : ∃ z : Int32, z = g187899 + Int32.ofInt 1 := ⟨_, rfl⟩
                          have ez188198 : z188198.toInt = g187899.toInt + 1 := gI_inc hz188198 (by decide) bg187899' (by decide) (by decide)
                          have bz188198 : gB z188198 1 1000001 := ⟨by omega, by omega⟩
                          refine G_iinc (L' := [(5, .int z188198), (6, .ref q187125), (4, .ref q187115), (3, .int g187057), (0, .ref q165176), (1, .int p165177), (2, .int p165178)]) z188198 1 dr_cX17_rename_138 rfl hz188198.symm (Nat.le_of_ble_eq_true rfl) rfl ?_
                          refine G_goto 20 dr_cX17_rename_141 (by decide +kernel) ?_
                          refine G_lv (L' := [(5, .int z188198), (4, .ref q187115), (3, .int g187057), (0, .ref q165176), (1, .int p165177), (2, .int p165178)]) [0, 2, 3, 4, 5, 6] rfl ?_
                          exact ih20_187902 F188166 z188198 (gB_w bz188198 (by decide) (by decide)) hT188176 hs188175 (by omega)
                        · have r188199 : p187939.toInt = p165177.toInt := gC_eq hc188196
                          refine G_aload 0 dr_cX17_rename_132 rfl ?_
                          refine G_iload_n 6 dr_cX17_rename_134 rfl ?_
                          refine Gp_put 1 hm187936 he188174 dr_cX17_rename_135 (gk_X15 D I) (Nat.le_of_ble_eq_true rfl) wr_9_182 rfl rfl rfl (Nat.le_of_ble_eq_true rfl) (fun F188200 e188201 n188202 => ?_)
                          have he188203 : F188200 q165176 = .inr (18, [.ref q187066, .ref q187067, .int p187068, .int p187069]) := (n188202 q165176 (rn_oo he188169 he188174 (by decide))).trans he188169
                          have he188204 : F188200 q187066 = .inr (4, [.int p187096, .ref q187098, .int p187097]) := (n188202 q187066 (rn_oo he188170 he188174 (by decide))).trans he188170
                          have he188205 : F188200 q187098 = .inl (I (.object "java/lang/Object"), n187112, .inr (.inr (.inr (.inr f187113)))) := (n188202 q187098 (rn_ao he188171 he188174)).trans he188171
                          have he188206 : F188200 q187115 = .inr (17, [.ref q187124, .ref q187125, .int p187126, .int p187127]) := (n188202 q187115 (rn_oo he188172 he188174 (by decide))).trans he188172
                          have he188207 : F188200 q187124 = .inr (4, [.int p187912, .ref q187914, .int p187913]) := (n188202 q187124 (rn_oo he188173 he188174 (by decide))).trans he188173
                          have he188208 : F188200 q187125 = .inr (20, [.int p187938, .int p165178, .int p165178, .int p187941, .int p187942, .int p187943, .int p187944]) := e188201
                          have hs188209 : rStr γ [1] F165175 F188200 := rStr_pu2 hs188175 n188202 ht187130 (by decide)
                          obtain ⟨z188210, hz188210⟩ : ∃ z : Int32, z = g187899 + Int32.ofInt 1 := ⟨_, rfl⟩
                          have ez188210 : z188210.toInt = g187899.toInt + 1 := gI_inc hz188210 (by decide) bg187899' (by decide) (by decide)
                          have bz188210 : gB z188210 1 1000001 := ⟨by omega, by omega⟩
                          refine G_iinc (L' := [(5, .int z188210), (6, .ref q187125), (4, .ref q187115), (3, .int g187057), (0, .ref q165176), (1, .int p165177), (2, .int p165178)]) z188210 1 dr_cX17_rename_138 rfl hz188210.symm (Nat.le_of_ble_eq_true rfl) rfl ?_
                          refine G_goto 20 dr_cX17_rename_141 (by decide +kernel) ?_
                          have hT188211 : RS D I P165174 F188200 γ el := RS_set hT188176 n188202 ht187130 (by decide) ⟨p187938, p165178, p165178, p187941, p187942, p187943, p187944, he188208, bp187938, bp165178, bp187942, bp187943, bp187944, (by omega), (by omega), (by omega), (by omega)⟩
                          refine G_lv (L' := [(5, .int z188210), (4, .ref q187115), (3, .int g187057), (0, .ref q165176), (1, .int p165177), (2, .int p165178)]) [0, 2, 3, 4, 5, 6] rfl ?_
                          exact ih20_187902 F188200 z188210 (gB_w bz188210 (by decide) (by decide)) hT188211 hs188209 (by omega)
                    · have r188212 : o188182.toInt ≠ 0 := gj_neq hc188184 (show Int32.toInt 0 = 0 by decide)
                      have bo188182' : gB o188182 1 1 := ⟨by omega, by omega⟩
                      refine G_aload 0 dr_cX17_rename_100 rfl ?_
                      refine Gp_get 3 hm187936 he188174 dr_cX17_rename_102 (gk_X15 D I) (Nat.le_of_ble_eq_true rfl) wr_9_190 rfl ?_
                      refine G_iload_n 5 dr_cX17_rename_105 rfl ?_
                      refine G_icmp_ne 115 dr_cX17_rename_106 (by decide +kernel) (fun hc188213 => ?_) (fun hc188213 => ?_)
                      · have r188214 : p187941.toInt ≠ p165177.toInt := gC_ne hc188213
                        refine G_aload 0 dr_cX17_rename_115 rfl ?_
                        refine Gw_callV (As := []) (gV_ok D I) (cp_1654_Row_sets l hl0 D I P165174 F188166 q187125 p187938 p187939 p165178 p187941 p187942 p187943 p187944 hm187936 he188174 bp187938 bp187939 bp187942 bp187943 bp187944) dr_cX17_rename_117 ⟨wr_10_181, wr_1_39, wr_10_184, by decide, rfl, (Nat.le_of_ble_eq_true rfl), (Nat.le_of_ble_eq_true rfl)⟩ wr_10_182 wr_10_183 hm187936 he188174 rfl (show 0 + 0 ≤ 0 by first | omega | decide) (show 0 + 0 ≤ 0 by first | omega | decide) (Nat.le_of_ble_eq_true rfl) (fun r188218 w188219 dc188215 ds188216 hp188217 => ?_) (fun _ _ _ _ _ z => z.elim)
                        obtain ⟨o188220, rfl, rfl, hdc, hds, bo188220⟩ := hp188217
                        change G _ _ _ _ _ _ _ (.int o188220 :: _) _ _ _
                        refine G_widen (cs' := 0) (sl' := 0) (by omega) (by omega) ?_
                        refine G_if_eq 138 dr_cX17_rename_120 (by decide +kernel) (fun hc188221 => ?_) (fun hc188221 => ?_)
                        · have r188222 : o188220.toInt = 0 := gj_eq hc188221 (show Int32.toInt 0 = 0 by decide)
                          have bo188220' : gB o188220 0 0 := ⟨by omega, by omega⟩
                          obtain ⟨z188223, hz188223⟩ : ∃ z : Int32, z = g187899 + Int32.ofInt 1 := ⟨_, rfl⟩
                          have ez188223 : z188223.toInt = g187899.toInt + 1 := gI_inc hz188223 (by decide) bg187899' (by decide) (by decide)
                          have bz188223 : gB z188223 1 1000001 := ⟨by omega, by omega⟩
                          refine G_iinc (L' := [(5, .int z188223), (6, .ref q187125), (4, .ref q187115), (3, .int g187057), (0, .ref q165176), (1, .int p165177), (2, .int p165178)]) z188223 1 dr_cX17_rename_138 rfl hz188223.symm (Nat.le_of_ble_eq_true rfl) rfl ?_
                          refine G_goto 20 dr_cX17_rename_141 (by decide +kernel) ?_
                          refine G_lv (L' := [(5, .int z188223), (4, .ref q187115), (3, .int g187057), (0, .ref q165176), (1, .int p165177), (2, .int p165178)]) [0, 2, 3, 4, 5, 6] rfl ?_
                          exact ih20_187902 F188166 z188223 (gB_w bz188223 (by decide) (by decide)) hT188176 hs188175 (by omega)
                        · have r188224 : o188220.toInt ≠ 0 := gj_neq hc188221 (show Int32.toInt 0 = 0 by decide)
                          have bo188220' : gB o188220 1 1 := ⟨by omega, by omega⟩
                          refine G_aload 0 dr_cX17_rename_123 rfl ?_
                          refine Gp_get 1 hm187936 he188174 dr_cX17_rename_125 (gk_X15 D I) (Nat.le_of_ble_eq_true rfl) wr_9_182 rfl ?_
                          refine G_iload_n 5 dr_cX17_rename_128 rfl ?_
                          refine G_icmp_ne 138 dr_cX17_rename_129 (by decide +kernel) (fun hc188225 => ?_) (fun hc188225 => ?_)
                          · have r188226 : p187939.toInt ≠ p165177.toInt := gC_ne hc188225
                            obtain ⟨z188227, hz188227⟩ : ∃ z : Int32, z = g187899 + Int32.ofInt 1 := ⟨_, rfl⟩
                            have ez188227 : z188227.toInt = g187899.toInt + 1 := gI_inc hz188227 (by decide) bg187899' (by decide) (by decide)
                            have bz188227 : gB z188227 1 1000001 := ⟨by omega, by omega⟩
                            refine G_iinc (L' := [(5, .int z188227), (6, .ref q187125), (4, .ref q187115), (3, .int g187057), (0, .ref q165176), (1, .int p165177), (2, .int p165178)]) z188227 1 dr_cX17_rename_138 rfl hz188227.symm (Nat.le_of_ble_eq_true rfl) rfl ?_
                            refine G_goto 20 dr_cX17_rename_141 (by decide +kernel) ?_
                            refine G_lv (L' := [(5, .int z188227), (4, .ref q187115), (3, .int g187057), (0, .ref q165176), (1, .int p165177), (2, .int p165178)]) [0, 2, 3, 4, 5, 6] rfl ?_
                            exact ih20_187902 F188166 z188227 (gB_w bz188227 (by decide) (by decide)) hT188176 hs188175 (by omega)
                          · have r188228 : p187939.toInt = p165177.toInt := gC_eq hc188225
                            refine G_aload 0 dr_cX17_rename_132 rfl ?_
                            refine G_iload_n 6 dr_cX17_rename_134 rfl ?_
                            refine Gp_put 1 hm187936 he188174 dr_cX17_rename_135 (gk_X15 D I) (Nat.le_of_ble_eq_true rfl) wr_9_182 rfl rfl rfl (Nat.le_of_ble_eq_true rfl) (fun F188229 e188230 n188231 => ?_)
                            have he188232 : F188229 q165176 = .inr (18, [.ref q187066, .ref q187067, .int p187068, .int p187069]) := (n188231 q165176 (rn_oo he188169 he188174 (by decide))).trans he188169
                            have he188233 : F188229 q187066 = .inr (4, [.int p187096, .ref q187098, .int p187097]) := (n188231 q187066 (rn_oo he188170 he188174 (by decide))).trans he188170
                            have he188234 : F188229 q187098 = .inl (I (.object "java/lang/Object"), n187112, .inr (.inr (.inr (.inr f187113)))) := (n188231 q187098 (rn_ao he188171 he188174)).trans he188171
                            have he188235 : F188229 q187115 = .inr (17, [.ref q187124, .ref q187125, .int p187126, .int p187127]) := (n188231 q187115 (rn_oo he188172 he188174 (by decide))).trans he188172
                            have he188236 : F188229 q187124 = .inr (4, [.int p187912, .ref q187914, .int p187913]) := (n188231 q187124 (rn_oo he188173 he188174 (by decide))).trans he188173
                            have he188237 : F188229 q187125 = .inr (20, [.int p187938, .int p165178, .int p165178, .int p187941, .int p187942, .int p187943, .int p187944]) := e188230
                            have hs188238 : rStr γ [1] F165175 F188229 := rStr_pu2 hs188175 n188231 ht187130 (by decide)
                            obtain ⟨z188239, hz188239⟩ : ∃ z : Int32, z = g187899 + Int32.ofInt 1 := ⟨_, rfl⟩
                            have ez188239 : z188239.toInt = g187899.toInt + 1 := gI_inc hz188239 (by decide) bg187899' (by decide) (by decide)
                            have bz188239 : gB z188239 1 1000001 := ⟨by omega, by omega⟩
                            refine G_iinc (L' := [(5, .int z188239), (6, .ref q187125), (4, .ref q187115), (3, .int g187057), (0, .ref q165176), (1, .int p165177), (2, .int p165178)]) z188239 1 dr_cX17_rename_138 rfl hz188239.symm (Nat.le_of_ble_eq_true rfl) rfl ?_
                            refine G_goto 20 dr_cX17_rename_141 (by decide +kernel) ?_
                            have hT188240 : RS D I P165174 F188229 γ el := RS_set hT188176 n188231 ht187130 (by decide) ⟨p187938, p165178, p165178, p187941, p187942, p187943, p187944, he188237, bp187938, bp165178, bp187942, bp187943, bp187944, (by omega), (by omega), (by omega), (by omega)⟩
                            refine G_lv (L' := [(5, .int z188239), (4, .ref q187115), (3, .int g187057), (0, .ref q165176), (1, .int p165177), (2, .int p165178)]) [0, 2, 3, 4, 5, 6] rfl ?_
                            exact ih20_187902 F188229 z188239 (gB_w bz188239 (by decide) (by decide)) hT188240 hs188238 (by omega)
                      · have r188241 : p187941.toInt = p165177.toInt := gC_eq hc188213
                        have bp187941' : gB p187941 0 1999 := ⟨by omega, by omega⟩
                        refine G_aload 0 dr_cX17_rename_109 rfl ?_
                        refine G_iload_n 6 dr_cX17_rename_111 rfl ?_
                        refine Gp_put 3 hm187936 he188174 dr_cX17_rename_112 (gk_X15 D I) (Nat.le_of_ble_eq_true rfl) wr_9_190 rfl rfl rfl (Nat.le_of_ble_eq_true rfl) (fun F188242 e188243 n188244 => ?_)
                        have he188245 : F188242 q165176 = .inr (18, [.ref q187066, .ref q187067, .int p187068, .int p187069]) := (n188244 q165176 (rn_oo he188169 he188174 (by decide))).trans he188169
                        have he188246 : F188242 q187066 = .inr (4, [.int p187096, .ref q187098, .int p187097]) := (n188244 q187066 (rn_oo he188170 he188174 (by decide))).trans he188170
                        have he188247 : F188242 q187098 = .inl (I (.object "java/lang/Object"), n187112, .inr (.inr (.inr (.inr f187113)))) := (n188244 q187098 (rn_ao he188171 he188174)).trans he188171
                        have he188248 : F188242 q187115 = .inr (17, [.ref q187124, .ref q187125, .int p187126, .int p187127]) := (n188244 q187115 (rn_oo he188172 he188174 (by decide))).trans he188172
                        have he188249 : F188242 q187124 = .inr (4, [.int p187912, .ref q187914, .int p187913]) := (n188244 q187124 (rn_oo he188173 he188174 (by decide))).trans he188173
                        have he188250 : F188242 q187125 = .inr (20, [.int p187938, .int p187939, .int p165178, .int p165178, .int p187942, .int p187943, .int p187944]) := e188243
                        have hs188251 : rStr γ [1] F165175 F188242 := rStr_pu2 hs188175 n188244 ht187130 (by decide)
                        refine G_aload 0 dr_cX17_rename_115 rfl ?_
                        have hT188252 : RS D I P165174 F188242 γ el := RS_set hT188176 n188244 ht187130 (by decide) ⟨p187938, p187939, p165178, p165178, p187942, p187943, p187944, he188250, bp187938, bp187939, bp187942, bp187943, bp187944, (by omega), (by omega), (by omega), (by omega)⟩
                        refine Gw_callV (As := []) (gV_ok D I) (cp_1654_Row_sets l hl0 D I P165174 F188242 q187125 p187938 p187939 p165178 p165178 p187942 p187943 p187944 hm187936 he188250 bp187938 bp187939 bp187942 bp187943 bp187944) dr_cX17_rename_117 ⟨wr_10_181, wr_1_39, wr_10_184, by decide, rfl, (Nat.le_of_ble_eq_true rfl), (Nat.le_of_ble_eq_true rfl)⟩ wr_10_182 wr_10_183 hm187936 he188250 rfl (show 0 + 0 ≤ 0 by first | omega | decide) (show 0 + 0 ≤ 0 by first | omega | decide) (Nat.le_of_ble_eq_true rfl) (fun r188256 w188257 dc188253 ds188254 hp188255 => ?_) (fun _ _ _ _ _ z => z.elim)
                        obtain ⟨o188258, rfl, rfl, hdc, hds, bo188258⟩ := hp188255
                        change G _ _ _ _ _ _ _ (.int o188258 :: _) _ _ _
                        refine G_widen (cs' := 0) (sl' := 0) (by omega) (by omega) ?_
                        refine G_if_eq 138 dr_cX17_rename_120 (by decide +kernel) (fun hc188259 => ?_) (fun hc188259 => ?_)
                        · have r188260 : o188258.toInt = 0 := gj_eq hc188259 (show Int32.toInt 0 = 0 by decide)
                          have bo188258' : gB o188258 0 0 := ⟨by omega, by omega⟩
                          obtain ⟨z188261, hz188261⟩ : ∃ z : Int32, z = g187899 + Int32.ofInt 1 := ⟨_, rfl⟩
                          have ez188261 : z188261.toInt = g187899.toInt + 1 := gI_inc hz188261 (by decide) bg187899' (by decide) (by decide)
                          have bz188261 : gB z188261 1 1000001 := ⟨by omega, by omega⟩
                          refine G_iinc (L' := [(5, .int z188261), (6, .ref q187125), (4, .ref q187115), (3, .int g187057), (0, .ref q165176), (1, .int p165177), (2, .int p165178)]) z188261 1 dr_cX17_rename_138 rfl hz188261.symm (Nat.le_of_ble_eq_true rfl) rfl ?_
                          refine G_goto 20 dr_cX17_rename_141 (by decide +kernel) ?_
                          refine G_lv (L' := [(5, .int z188261), (4, .ref q187115), (3, .int g187057), (0, .ref q165176), (1, .int p165177), (2, .int p165178)]) [0, 2, 3, 4, 5, 6] rfl ?_
                          exact ih20_187902 F188242 z188261 (gB_w bz188261 (by decide) (by decide)) hT188252 hs188251 (by omega)
                        · have r188262 : o188258.toInt ≠ 0 := gj_neq hc188259 (show Int32.toInt 0 = 0 by decide)
                          have bo188258' : gB o188258 1 1 := ⟨by omega, by omega⟩
                          refine G_aload 0 dr_cX17_rename_123 rfl ?_
                          refine Gp_get 1 hm187936 he188250 dr_cX17_rename_125 (gk_X15 D I) (Nat.le_of_ble_eq_true rfl) wr_9_182 rfl ?_
                          refine G_iload_n 5 dr_cX17_rename_128 rfl ?_
                          refine G_icmp_ne 138 dr_cX17_rename_129 (by decide +kernel) (fun hc188263 => ?_) (fun hc188263 => ?_)
                          · have r188264 : p187939.toInt ≠ p165177.toInt := gC_ne hc188263
                            obtain ⟨z188265, hz188265⟩ : ∃ z : Int32, z = g187899 + Int32.ofInt 1 := ⟨_, rfl⟩
                            have ez188265 : z188265.toInt = g187899.toInt + 1 := gI_inc hz188265 (by decide) bg187899' (by decide) (by decide)
                            have bz188265 : gB z188265 1 1000001 := ⟨by omega, by omega⟩
                            refine G_iinc (L' := [(5, .int z188265), (6, .ref q187125), (4, .ref q187115), (3, .int g187057), (0, .ref q165176), (1, .int p165177), (2, .int p165178)]) z188265 1 dr_cX17_rename_138 rfl hz188265.symm (Nat.le_of_ble_eq_true rfl) rfl ?_
                            refine G_goto 20 dr_cX17_rename_141 (by decide +kernel) ?_
                            refine G_lv (L' := [(5, .int z188265), (4, .ref q187115), (3, .int g187057), (0, .ref q165176), (1, .int p165177), (2, .int p165178)]) [0, 2, 3, 4, 5, 6] rfl ?_
                            exact ih20_187902 F188242 z188265 (gB_w bz188265 (by decide) (by decide)) hT188252 hs188251 (by omega)
                          · have r188266 : p187939.toInt = p165177.toInt := gC_eq hc188263
                            refine G_aload 0 dr_cX17_rename_132 rfl ?_
                            refine G_iload_n 6 dr_cX17_rename_134 rfl ?_
                            refine Gp_put 1 hm187936 he188250 dr_cX17_rename_135 (gk_X15 D I) (Nat.le_of_ble_eq_true rfl) wr_9_182 rfl rfl rfl (Nat.le_of_ble_eq_true rfl) (fun F188267 e188268 n188269 => ?_)
                            have he188270 : F188267 q165176 = .inr (18, [.ref q187066, .ref q187067, .int p187068, .int p187069]) := (n188269 q165176 (rn_oo he188245 he188250 (by decide))).trans he188245
                            have he188271 : F188267 q187066 = .inr (4, [.int p187096, .ref q187098, .int p187097]) := (n188269 q187066 (rn_oo he188246 he188250 (by decide))).trans he188246
                            have he188272 : F188267 q187098 = .inl (I (.object "java/lang/Object"), n187112, .inr (.inr (.inr (.inr f187113)))) := (n188269 q187098 (rn_ao he188247 he188250)).trans he188247
                            have he188273 : F188267 q187115 = .inr (17, [.ref q187124, .ref q187125, .int p187126, .int p187127]) := (n188269 q187115 (rn_oo he188248 he188250 (by decide))).trans he188248
                            have he188274 : F188267 q187124 = .inr (4, [.int p187912, .ref q187914, .int p187913]) := (n188269 q187124 (rn_oo he188249 he188250 (by decide))).trans he188249
                            have he188275 : F188267 q187125 = .inr (20, [.int p187938, .int p165178, .int p165178, .int p165178, .int p187942, .int p187943, .int p187944]) := e188268
                            have hs188276 : rStr γ [1] F165175 F188267 := rStr_pu2 hs188251 n188269 ht187130 (by decide)
                            obtain ⟨z188277, hz188277⟩ : ∃ z : Int32, z = g187899 + Int32.ofInt 1 := ⟨_, rfl⟩
                            have ez188277 : z188277.toInt = g187899.toInt + 1 := gI_inc hz188277 (by decide) bg187899' (by decide) (by decide)
                            have bz188277 : gB z188277 1 1000001 := ⟨by omega, by omega⟩
                            refine G_iinc (L' := [(5, .int z188277), (6, .ref q187125), (4, .ref q187115), (3, .int g187057), (0, .ref q165176), (1, .int p165177), (2, .int p165178)]) z188277 1 dr_cX17_rename_138 rfl hz188277.symm (Nat.le_of_ble_eq_true rfl) rfl ?_
                            refine G_goto 20 dr_cX17_rename_141 (by decide +kernel) ?_
                            have hT188278 : RS D I P165174 F188267 γ el := RS_set hT188252 n188269 ht187130 (by decide) ⟨p187938, p165178, p165178, p165178, p187942, p187943, p187944, he188275, bp187938, bp165178, bp187942, bp187943, bp187944, (by omega), (by omega), (by omega), (by omega)⟩
                            refine G_lv (L' := [(5, .int z188277), (4, .ref q187115), (3, .int g187057), (0, .ref q165176), (1, .int p165177), (2, .int p165178)]) [0, 2, 3, 4, 5, 6] rfl ?_
                            exact ih20_187902 F188267 z188277 (gB_w bz188277 (by decide) (by decide)) hT188278 hs188276 (by omega)
              · have r188279 : g187899.toInt < p187913.toInt := gC_nle hc187934
                have bg187899'' : gB g187899 0 999999 := ⟨by omega, by omega⟩
                have bp187913' : gB p187913 1 1000000 := ⟨by omega, by omega⟩
                refine G_aload 1 dr_cX17_rename_46 rfl ?_
                refine Gp_get 0 hm187122 he187908 dr_cX17_rename_48 (gk_X12 D I) (Nat.le_of_ble_eq_true rfl) wr_9_220 rfl ?_
                refine G_iload 0 dr_cX17_rename_51 rfl ?_
                obtain ⟨r188280, r188281, n188288, f188289, r188282, r188283, r188284, r188285, r188286, r188287⟩ := rLC_n r187917 (by omega)
                have hm188290 : q187914 ∈ P165174 := RS_m hT187901 r188280 (by decide)
                obtain ⟨q188291, hx188292⟩ : ∃ x, x = el q187124 g187899.toInt.toNat := ⟨_, rfl⟩
                have hx188293 : f188289 g187899.toNatClampNeg = some q188291 := (r188286 _ (show g187899.toInt.toNat < γ 2 q187124 by omega)).trans (by rw [hx188292])
                have ht188294 : rKd γ q188291 1 := by rw [hx188292]; exact (r187918 _ (show g187899.toInt.toNat < γ 2 q187124 by omega)).1
                have ht188295 : rFm γ q188291 q187124 := by rw [hx188292]; exact (r187918 _ (show g187899.toInt.toNat < γ 2 q187124 by omega)).2.1
                refine Gw_callV (As := [.int g187899]) (gV_ok D I) (cp_22_ArrayList_get l hl0 D I P165174 F187900 q187124 q187914 g187899 p187912 p187913 f188289 n188288 q188291 hm187910 hm188290 he187911 r188282 (gB_w bg187899'' (by decide) (by decide)) (gB_w bp187913' (by decide) (by decide)) (by omega) (by omega) (by assumption) (by omega)) dr_cX17_rename_53 ⟨wr_10_201, wr_1_18, wr_10_65, by decide, rfl, (Nat.le_of_ble_eq_true rfl), (Nat.le_of_ble_eq_true rfl)⟩ wr_10_63 wr_10_64 hm187910 he187911 rfl (show 0 + 0 ≤ 0 by first | omega | decide) (show 0 + 0 ≤ 0 by first | omega | decide) (Nat.le_of_ble_eq_true rfl) (fun r188299 w188300 dc188296 ds188297 hp188298 => ?_) (fun _ _ _ _ _ z => z.elim)
                obtain ⟨rfl, rfl, hdc, hds⟩ := hp188298
                change G _ _ _ _ _ _ _ (.ref q188291 :: _) _ _ _
                refine G_widen (cs' := 0) (sl' := 0) (by omega) (by omega) ?_
                have hm188301 : q188291 ∈ P165174 := RS_m hT187901 ht188294 (by decide)
                obtain ⟨p188303, p188304, p188305, p188306, p188307, p188308, p188309, he188302, bp188303, bp188304, bp188307, bp188308, bp188309, r188310, r188311, r188312, r188313⟩ := show rk_1 γ q188291 (F187900 q188291) from RS_o hT187901 ht188294
                have bp188305 := gB_any p188305
                have bp188306 := gB_any p188306
                refine Gp_cast hm188301 he188302 rfl dr_cX17_rename_56 wr_10_202 (gr_cast 1 rfl) ?_
                refine G_goto 67 dr_cX17_rename_59 (by decide +kernel) ?_
                refine G_astore (L' := [(6, .ref q188291), (5, .int g187899), (4, .ref q187115), (3, .int g187057), (0, .ref q165176), (1, .int p165177), (2, .int p165178)]) dr_cX17_rename_67 (Nat.le_of_ble_eq_true rfl) rfl ?_
                refine G_aload 0 dr_cX17_rename_69 rfl ?_
                refine Gw_callV (As := []) (gV_ok D I) (cp_1669_Row_usesA l hl0 D I P165174 F187900 q188291 p188303 p188304 p188305 p188306 p188307 p188308 p188309 hm188301 he188302 bp188303 bp188304 bp188307 bp188308 bp188309) dr_cX17_rename_71 ⟨wr_10_192, wr_1_39, wr_10_195, by decide, rfl, (Nat.le_of_ble_eq_true rfl), (Nat.le_of_ble_eq_true rfl)⟩ wr_10_193 wr_10_194 hm188301 he188302 rfl (show 0 + 0 ≤ 0 by first | omega | decide) (show 0 + 0 ≤ 0 by first | omega | decide) (Nat.le_of_ble_eq_true rfl) (fun r188317 w188318 dc188314 ds188315 hp188316 => ?_) (fun _ _ _ _ _ z => z.elim)
                obtain ⟨o188319, rfl, rfl, hdc, hds, bo188319, x188320⟩ := hp188316
                change G _ _ _ _ _ _ _ (.int o188319 :: _) _ _ _
                refine G_widen (cs' := 0) (sl' := 0) (by omega) (by omega) ?_
                refine G_if_eq 92 dr_cX17_rename_74 (by decide +kernel) (fun hc188321 => ?_) (fun hc188321 => ?_)
                · have r188322 : o188319.toInt = 0 := gj_eq hc188321 (show Int32.toInt 0 = 0 by decide)
                  have bo188319' : gB o188319 0 0 := ⟨by omega, by omega⟩
                  refine G_aload 0 dr_cX17_rename_92 rfl ?_
                  refine Gw_callV (As := []) (gV_ok D I) (cp_1693_Row_usesB l hl0 D I P165174 F187900 q188291 p188303 p188304 p188305 p188306 p188307 p188308 p188309 hm188301 he188302 bp188303 bp188304 bp188307 bp188308 bp188309) dr_cX17_rename_94 ⟨wr_10_196, wr_1_39, wr_10_199, by decide, rfl, (Nat.le_of_ble_eq_true rfl), (Nat.le_of_ble_eq_true rfl)⟩ wr_10_197 wr_10_198 hm188301 he188302 rfl (show 0 + 0 ≤ 0 by first | omega | decide) (show 0 + 0 ≤ 0 by first | omega | decide) (Nat.le_of_ble_eq_true rfl) (fun r188326 w188327 dc188323 ds188324 hp188325 => ?_) (fun _ _ _ _ _ z => z.elim)
                  obtain ⟨o188328, rfl, rfl, hdc, hds, bo188328, x188329⟩ := hp188325
                  change G _ _ _ _ _ _ _ (.int o188328 :: _) _ _ _
                  refine G_widen (cs' := 0) (sl' := 0) (by omega) (by omega) ?_
                  refine G_if_eq 115 dr_cX17_rename_97 (by decide +kernel) (fun hc188330 => ?_) (fun hc188330 => ?_)
                  · have r188331 : o188328.toInt = 0 := gj_eq hc188330 (show Int32.toInt 0 = 0 by decide)
                    have bo188328' : gB o188328 0 0 := ⟨by omega, by omega⟩
                    refine G_aload 0 dr_cX17_rename_115 rfl ?_
                    refine Gw_callV (As := []) (gV_ok D I) (cp_1654_Row_sets l hl0 D I P165174 F187900 q188291 p188303 p188304 p188305 p188306 p188307 p188308 p188309 hm188301 he188302 bp188303 bp188304 bp188307 bp188308 bp188309) dr_cX17_rename_117 ⟨wr_10_181, wr_1_39, wr_10_184, by decide, rfl, (Nat.le_of_ble_eq_true rfl), (Nat.le_of_ble_eq_true rfl)⟩ wr_10_182 wr_10_183 hm188301 he188302 rfl (show 0 + 0 ≤ 0 by first | omega | decide) (show 0 + 0 ≤ 0 by first | omega | decide) (Nat.le_of_ble_eq_true rfl) (fun r188335 w188336 dc188332 ds188333 hp188334 => ?_) (fun _ _ _ _ _ z => z.elim)
                    obtain ⟨o188337, rfl, rfl, hdc, hds, bo188337⟩ := hp188334
                    change G _ _ _ _ _ _ _ (.int o188337 :: _) _ _ _
                    refine G_widen (cs' := 0) (sl' := 0) (by omega) (by omega) ?_
                    refine G_if_eq 138 dr_cX17_rename_120 (by decide +kernel) (fun hc188338 => ?_) (fun hc188338 => ?_)
                    · have r188339 : o188337.toInt = 0 := gj_eq hc188338 (show Int32.toInt 0 = 0 by decide)
                      have bo188337' : gB o188337 0 0 := ⟨by omega, by omega⟩
                      obtain ⟨z188340, hz188340⟩ : ∃ z : Int32, z = g187899 + Int32.ofInt 1 := ⟨_, rfl⟩
                      have ez188340 : z188340.toInt = g187899.toInt + 1 := gI_inc hz188340 (by decide) bg187899'' (by decide) (by decide)
                      have bz188340 : gB z188340 1 1000000 := ⟨by omega, by omega⟩
                      refine G_iinc (L' := [(5, .int z188340), (6, .ref q188291), (4, .ref q187115), (3, .int g187057), (0, .ref q165176), (1, .int p165177), (2, .int p165178)]) z188340 1 dr_cX17_rename_138 rfl hz188340.symm (Nat.le_of_ble_eq_true rfl) rfl ?_
                      refine G_goto 20 dr_cX17_rename_141 (by decide +kernel) ?_
                      refine G_lv (L' := [(5, .int z188340), (4, .ref q187115), (3, .int g187057), (0, .ref q165176), (1, .int p165177), (2, .int p165178)]) [0, 2, 3, 4, 5, 6] rfl ?_
                      exact ih20_187902 F187900 z188340 (gB_w bz188340 (by decide) (by decide)) hT187901 hs187902 (by omega)
                    · have r188341 : o188337.toInt ≠ 0 := gj_neq hc188338 (show Int32.toInt 0 = 0 by decide)
                      have bo188337' : gB o188337 1 1 := ⟨by omega, by omega⟩
                      refine G_aload 0 dr_cX17_rename_123 rfl ?_
                      refine Gp_get 1 hm188301 he188302 dr_cX17_rename_125 (gk_X15 D I) (Nat.le_of_ble_eq_true rfl) wr_9_182 rfl ?_
                      refine G_iload_n 5 dr_cX17_rename_128 rfl ?_
                      refine G_icmp_ne 138 dr_cX17_rename_129 (by decide +kernel) (fun hc188342 => ?_) (fun hc188342 => ?_)
                      · have r188343 : p188304.toInt ≠ p165177.toInt := gC_ne hc188342
                        obtain ⟨z188344, hz188344⟩ : ∃ z : Int32, z = g187899 + Int32.ofInt 1 := ⟨_, rfl⟩
                        have ez188344 : z188344.toInt = g187899.toInt + 1 := gI_inc hz188344 (by decide) bg187899'' (by decide) (by decide)
                        have bz188344 : gB z188344 1 1000000 := ⟨by omega, by omega⟩
                        refine G_iinc (L' := [(5, .int z188344), (6, .ref q188291), (4, .ref q187115), (3, .int g187057), (0, .ref q165176), (1, .int p165177), (2, .int p165178)]) z188344 1 dr_cX17_rename_138 rfl hz188344.symm (Nat.le_of_ble_eq_true rfl) rfl ?_
                        refine G_goto 20 dr_cX17_rename_141 (by decide +kernel) ?_
                        refine G_lv (L' := [(5, .int z188344), (4, .ref q187115), (3, .int g187057), (0, .ref q165176), (1, .int p165177), (2, .int p165178)]) [0, 2, 3, 4, 5, 6] rfl ?_
                        exact ih20_187902 F187900 z188344 (gB_w bz188344 (by decide) (by decide)) hT187901 hs187902 (by omega)
                      · have r188345 : p188304.toInt = p165177.toInt := gC_eq hc188342
                        refine G_aload 0 dr_cX17_rename_132 rfl ?_
                        refine G_iload_n 6 dr_cX17_rename_134 rfl ?_
                        refine Gp_put 1 hm188301 he188302 dr_cX17_rename_135 (gk_X15 D I) (Nat.le_of_ble_eq_true rfl) wr_9_182 rfl rfl rfl (Nat.le_of_ble_eq_true rfl) (fun F188346 e188347 n188348 => ?_)
                        have he188349 : F188346 q165176 = .inr (18, [.ref q187066, .ref q187067, .int p187068, .int p187069]) := (n188348 q165176 (rn_oo he187905 he188302 (by decide))).trans he187905
                        have he188350 : F188346 q187066 = .inr (4, [.int p187096, .ref q187098, .int p187097]) := (n188348 q187066 (rn_oo he187906 he188302 (by decide))).trans he187906
                        have he188351 : F188346 q187098 = .inl (I (.object "java/lang/Object"), n187112, .inr (.inr (.inr (.inr f187113)))) := (n188348 q187098 (rn_ao he187907 he188302)).trans he187907
                        have he188352 : F188346 q187115 = .inr (17, [.ref q187124, .ref q187125, .int p187126, .int p187127]) := (n188348 q187115 (rn_oo he187908 he188302 (by decide))).trans he187908
                        have he188353 : F188346 q187124 = .inr (4, [.int p187912, .ref q187914, .int p187913]) := (n188348 q187124 (rn_oo he187911 he188302 (by decide))).trans he187911
                        have he188354 : F188346 q187914 = .inl (I (.object "java/lang/Object"), n188288, .inr (.inr (.inr (.inr f188289)))) := (n188348 q187914 (rn_ao r188282 he188302)).trans r188282
                        have he188355 : F188346 q188291 = .inr (20, [.int p188303, .int p165178, .int p188305, .int p188306, .int p188307, .int p188308, .int p188309]) := e188347
                        have hs188356 : rStr γ [1] F165175 F188346 := rStr_pu2 hs187902 n188348 ht188294 (by decide)
                        obtain ⟨z188357, hz188357⟩ : ∃ z : Int32, z = g187899 + Int32.ofInt 1 := ⟨_, rfl⟩
                        have ez188357 : z188357.toInt = g187899.toInt + 1 := gI_inc hz188357 (by decide) bg187899'' (by decide) (by decide)
                        have bz188357 : gB z188357 1 1000000 := ⟨by omega, by omega⟩
                        refine G_iinc (L' := [(5, .int z188357), (6, .ref q188291), (4, .ref q187115), (3, .int g187057), (0, .ref q165176), (1, .int p165177), (2, .int p165178)]) z188357 1 dr_cX17_rename_138 rfl hz188357.symm (Nat.le_of_ble_eq_true rfl) rfl ?_
                        refine G_goto 20 dr_cX17_rename_141 (by decide +kernel) ?_
                        have hT188358 : RS D I P165174 F188346 γ el := RS_set hT187901 n188348 ht188294 (by decide) ⟨p188303, p165178, p188305, p188306, p188307, p188308, p188309, he188355, bp188303, bp165178, bp188307, bp188308, bp188309, (by omega), (by omega), (by omega), (by omega)⟩
                        refine G_lv (L' := [(5, .int z188357), (4, .ref q187115), (3, .int g187057), (0, .ref q165176), (1, .int p165177), (2, .int p165178)]) [0, 2, 3, 4, 5, 6] rfl ?_
                        exact ih20_187902 F188346 z188357 (gB_w bz188357 (by decide) (by decide)) hT188358 hs188356 (by omega)
                  · have r188359 : o188328.toInt ≠ 0 := gj_neq hc188330 (show Int32.toInt 0 = 0 by decide)
                    have bo188328' : gB o188328 1 1 := ⟨by omega, by omega⟩
                    refine G_aload 0 dr_cX17_rename_100 rfl ?_
                    refine Gp_get 3 hm188301 he188302 dr_cX17_rename_102 (gk_X15 D I) (Nat.le_of_ble_eq_true rfl) wr_9_190 rfl ?_
                    refine G_iload_n 5 dr_cX17_rename_105 rfl ?_
                    refine G_icmp_ne 115 dr_cX17_rename_106 (by decide +kernel) (fun hc188360 => ?_) (fun hc188360 => ?_)
                    · have r188361 : p188306.toInt ≠ p165177.toInt := gC_ne hc188360
                      refine G_aload 0 dr_cX17_rename_115 rfl ?_
                      refine Gw_callV (As := []) (gV_ok D I) (cp_1654_Row_sets l hl0 D I P165174 F187900 q188291 p188303 p188304 p188305 p188306 p188307 p188308 p188309 hm188301 he188302 bp188303 bp188304 bp188307 bp188308 bp188309) dr_cX17_rename_117 ⟨wr_10_181, wr_1_39, wr_10_184, by decide, rfl, (Nat.le_of_ble_eq_true rfl), (Nat.le_of_ble_eq_true rfl)⟩ wr_10_182 wr_10_183 hm188301 he188302 rfl (show 0 + 0 ≤ 0 by first | omega | decide) (show 0 + 0 ≤ 0 by first | omega | decide) (Nat.le_of_ble_eq_true rfl) (fun r188365 w188366 dc188362 ds188363 hp188364 => ?_) (fun _ _ _ _ _ z => z.elim)
                      obtain ⟨o188367, rfl, rfl, hdc, hds, bo188367⟩ := hp188364
                      change G _ _ _ _ _ _ _ (.int o188367 :: _) _ _ _
                      refine G_widen (cs' := 0) (sl' := 0) (by omega) (by omega) ?_
                      refine G_if_eq 138 dr_cX17_rename_120 (by decide +kernel) (fun hc188368 => ?_) (fun hc188368 => ?_)
                      · have r188369 : o188367.toInt = 0 := gj_eq hc188368 (show Int32.toInt 0 = 0 by decide)
                        have bo188367' : gB o188367 0 0 := ⟨by omega, by omega⟩
                        obtain ⟨z188370, hz188370⟩ : ∃ z : Int32, z = g187899 + Int32.ofInt 1 := ⟨_, rfl⟩
                        have ez188370 : z188370.toInt = g187899.toInt + 1 := gI_inc hz188370 (by decide) bg187899'' (by decide) (by decide)
                        have bz188370 : gB z188370 1 1000000 := ⟨by omega, by omega⟩
                        refine G_iinc (L' := [(5, .int z188370), (6, .ref q188291), (4, .ref q187115), (3, .int g187057), (0, .ref q165176), (1, .int p165177), (2, .int p165178)]) z188370 1 dr_cX17_rename_138 rfl hz188370.symm (Nat.le_of_ble_eq_true rfl) rfl ?_
                        refine G_goto 20 dr_cX17_rename_141 (by decide +kernel) ?_
                        refine G_lv (L' := [(5, .int z188370), (4, .ref q187115), (3, .int g187057), (0, .ref q165176), (1, .int p165177), (2, .int p165178)]) [0, 2, 3, 4, 5, 6] rfl ?_
                        exact ih20_187902 F187900 z188370 (gB_w bz188370 (by decide) (by decide)) hT187901 hs187902 (by omega)
                      · have r188371 : o188367.toInt ≠ 0 := gj_neq hc188368 (show Int32.toInt 0 = 0 by decide)
                        have bo188367' : gB o188367 1 1 := ⟨by omega, by omega⟩
                        refine G_aload 0 dr_cX17_rename_123 rfl ?_
                        refine Gp_get 1 hm188301 he188302 dr_cX17_rename_125 (gk_X15 D I) (Nat.le_of_ble_eq_true rfl) wr_9_182 rfl ?_
                        refine G_iload_n 5 dr_cX17_rename_128 rfl ?_
                        refine G_icmp_ne 138 dr_cX17_rename_129 (by decide +kernel) (fun hc188372 => ?_) (fun hc188372 => ?_)
                        · have r188373 : p188304.toInt ≠ p165177.toInt := gC_ne hc188372
                          obtain ⟨z188374, hz188374⟩ : ∃ z : Int32, z = g187899 + Int32.ofInt 1 := ⟨_, rfl⟩
                          have ez188374 : z188374.toInt = g187899.toInt + 1 := gI_inc hz188374 (by decide) bg187899'' (by decide) (by decide)
                          have bz188374 : gB z188374 1 1000000 := ⟨by omega, by omega⟩
                          refine G_iinc (L' := [(5, .int z188374), (6, .ref q188291), (4, .ref q187115), (3, .int g187057), (0, .ref q165176), (1, .int p165177), (2, .int p165178)]) z188374 1 dr_cX17_rename_138 rfl hz188374.symm (Nat.le_of_ble_eq_true rfl) rfl ?_
                          refine G_goto 20 dr_cX17_rename_141 (by decide +kernel) ?_
                          refine G_lv (L' := [(5, .int z188374), (4, .ref q187115), (3, .int g187057), (0, .ref q165176), (1, .int p165177), (2, .int p165178)]) [0, 2, 3, 4, 5, 6] rfl ?_
                          exact ih20_187902 F187900 z188374 (gB_w bz188374 (by decide) (by decide)) hT187901 hs187902 (by omega)
                        · have r188375 : p188304.toInt = p165177.toInt := gC_eq hc188372
                          refine G_aload 0 dr_cX17_rename_132 rfl ?_
                          refine G_iload_n 6 dr_cX17_rename_134 rfl ?_
                          refine Gp_put 1 hm188301 he188302 dr_cX17_rename_135 (gk_X15 D I) (Nat.le_of_ble_eq_true rfl) wr_9_182 rfl rfl rfl (Nat.le_of_ble_eq_true rfl) (fun F188376 e188377 n188378 => ?_)
                          have he188379 : F188376 q165176 = .inr (18, [.ref q187066, .ref q187067, .int p187068, .int p187069]) := (n188378 q165176 (rn_oo he187905 he188302 (by decide))).trans he187905
                          have he188380 : F188376 q187066 = .inr (4, [.int p187096, .ref q187098, .int p187097]) := (n188378 q187066 (rn_oo he187906 he188302 (by decide))).trans he187906
                          have he188381 : F188376 q187098 = .inl (I (.object "java/lang/Object"), n187112, .inr (.inr (.inr (.inr f187113)))) := (n188378 q187098 (rn_ao he187907 he188302)).trans he187907
                          have he188382 : F188376 q187115 = .inr (17, [.ref q187124, .ref q187125, .int p187126, .int p187127]) := (n188378 q187115 (rn_oo he187908 he188302 (by decide))).trans he187908
                          have he188383 : F188376 q187124 = .inr (4, [.int p187912, .ref q187914, .int p187913]) := (n188378 q187124 (rn_oo he187911 he188302 (by decide))).trans he187911
                          have he188384 : F188376 q187914 = .inl (I (.object "java/lang/Object"), n188288, .inr (.inr (.inr (.inr f188289)))) := (n188378 q187914 (rn_ao r188282 he188302)).trans r188282
                          have he188385 : F188376 q188291 = .inr (20, [.int p188303, .int p165178, .int p188305, .int p188306, .int p188307, .int p188308, .int p188309]) := e188377
                          have hs188386 : rStr γ [1] F165175 F188376 := rStr_pu2 hs187902 n188378 ht188294 (by decide)
                          obtain ⟨z188387, hz188387⟩ : ∃ z : Int32, z = g187899 + Int32.ofInt 1 := ⟨_, rfl⟩
                          have ez188387 : z188387.toInt = g187899.toInt + 1 := gI_inc hz188387 (by decide) bg187899'' (by decide) (by decide)
                          have bz188387 : gB z188387 1 1000000 := ⟨by omega, by omega⟩
                          refine G_iinc (L' := [(5, .int z188387), (6, .ref q188291), (4, .ref q187115), (3, .int g187057), (0, .ref q165176), (1, .int p165177), (2, .int p165178)]) z188387 1 dr_cX17_rename_138 rfl hz188387.symm (Nat.le_of_ble_eq_true rfl) rfl ?_
                          refine G_goto 20 dr_cX17_rename_141 (by decide +kernel) ?_
                          have hT188388 : RS D I P165174 F188376 γ el := RS_set hT187901 n188378 ht188294 (by decide) ⟨p188303, p165178, p188305, p188306, p188307, p188308, p188309, he188385, bp188303, bp165178, bp188307, bp188308, bp188309, (by omega), (by omega), (by omega), (by omega)⟩
                          refine G_lv (L' := [(5, .int z188387), (4, .ref q187115), (3, .int g187057), (0, .ref q165176), (1, .int p165177), (2, .int p165178)]) [0, 2, 3, 4, 5, 6] rfl ?_
                          exact ih20_187902 F188376 z188387 (gB_w bz188387 (by decide) (by decide)) hT188388 hs188386 (by omega)
                    · have r188389 : p188306.toInt = p165177.toInt := gC_eq hc188360
                      have bp188306' : gB p188306 0 1999 := ⟨by omega, by omega⟩
                      refine G_aload 0 dr_cX17_rename_109 rfl ?_
                      refine G_iload_n 6 dr_cX17_rename_111 rfl ?_
                      refine Gp_put 3 hm188301 he188302 dr_cX17_rename_112 (gk_X15 D I) (Nat.le_of_ble_eq_true rfl) wr_9_190 rfl rfl rfl (Nat.le_of_ble_eq_true rfl) (fun F188390 e188391 n188392 => ?_)
                      have he188393 : F188390 q165176 = .inr (18, [.ref q187066, .ref q187067, .int p187068, .int p187069]) := (n188392 q165176 (rn_oo he187905 he188302 (by decide))).trans he187905
                      have he188394 : F188390 q187066 = .inr (4, [.int p187096, .ref q187098, .int p187097]) := (n188392 q187066 (rn_oo he187906 he188302 (by decide))).trans he187906
                      have he188395 : F188390 q187098 = .inl (I (.object "java/lang/Object"), n187112, .inr (.inr (.inr (.inr f187113)))) := (n188392 q187098 (rn_ao he187907 he188302)).trans he187907
                      have he188396 : F188390 q187115 = .inr (17, [.ref q187124, .ref q187125, .int p187126, .int p187127]) := (n188392 q187115 (rn_oo he187908 he188302 (by decide))).trans he187908
                      have he188397 : F188390 q187124 = .inr (4, [.int p187912, .ref q187914, .int p187913]) := (n188392 q187124 (rn_oo he187911 he188302 (by decide))).trans he187911
                      have he188398 : F188390 q187914 = .inl (I (.object "java/lang/Object"), n188288, .inr (.inr (.inr (.inr f188289)))) := (n188392 q187914 (rn_ao r188282 he188302)).trans r188282
                      have he188399 : F188390 q188291 = .inr (20, [.int p188303, .int p188304, .int p188305, .int p165178, .int p188307, .int p188308, .int p188309]) := e188391
                      have hs188400 : rStr γ [1] F165175 F188390 := rStr_pu2 hs187902 n188392 ht188294 (by decide)
                      refine G_aload 0 dr_cX17_rename_115 rfl ?_
                      have hT188401 : RS D I P165174 F188390 γ el := RS_set hT187901 n188392 ht188294 (by decide) ⟨p188303, p188304, p188305, p165178, p188307, p188308, p188309, he188399, bp188303, bp188304, bp188307, bp188308, bp188309, (by omega), (by omega), (by omega), (by omega)⟩
                      refine Gw_callV (As := []) (gV_ok D I) (cp_1654_Row_sets l hl0 D I P165174 F188390 q188291 p188303 p188304 p188305 p165178 p188307 p188308 p188309 hm188301 he188399 bp188303 bp188304 bp188307 bp188308 bp188309) dr_cX17_rename_117 ⟨wr_10_181, wr_1_39, wr_10_184, by decide, rfl, (Nat.le_of_ble_eq_true rfl), (Nat.le_of_ble_eq_true rfl)⟩ wr_10_182 wr_10_183 hm188301 he188399 rfl (show 0 + 0 ≤ 0 by first | omega | decide) (show 0 + 0 ≤ 0 by first | omega | decide) (Nat.le_of_ble_eq_true rfl) (fun r188405 w188406 dc188402 ds188403 hp188404 => ?_) (fun _ _ _ _ _ z => z.elim)
                      obtain ⟨o188407, rfl, rfl, hdc, hds, bo188407⟩ := hp188404
                      change G _ _ _ _ _ _ _ (.int o188407 :: _) _ _ _
                      refine G_widen (cs' := 0) (sl' := 0) (by omega) (by omega) ?_
                      refine G_if_eq 138 dr_cX17_rename_120 (by decide +kernel) (fun hc188408 => ?_) (fun hc188408 => ?_)
                      · have r188409 : o188407.toInt = 0 := gj_eq hc188408 (show Int32.toInt 0 = 0 by decide)
                        have bo188407' : gB o188407 0 0 := ⟨by omega, by omega⟩
                        obtain ⟨z188410, hz188410⟩ : ∃ z : Int32, z = g187899 + Int32.ofInt 1 := ⟨_, rfl⟩
                        have ez188410 : z188410.toInt = g187899.toInt + 1 := gI_inc hz188410 (by decide) bg187899'' (by decide) (by decide)
                        have bz188410 : gB z188410 1 1000000 := ⟨by omega, by omega⟩
                        refine G_iinc (L' := [(5, .int z188410), (6, .ref q188291), (4, .ref q187115), (3, .int g187057), (0, .ref q165176), (1, .int p165177), (2, .int p165178)]) z188410 1 dr_cX17_rename_138 rfl hz188410.symm (Nat.le_of_ble_eq_true rfl) rfl ?_
                        refine G_goto 20 dr_cX17_rename_141 (by decide +kernel) ?_
                        refine G_lv (L' := [(5, .int z188410), (4, .ref q187115), (3, .int g187057), (0, .ref q165176), (1, .int p165177), (2, .int p165178)]) [0, 2, 3, 4, 5, 6] rfl ?_
                        exact ih20_187902 F188390 z188410 (gB_w bz188410 (by decide) (by decide)) hT188401 hs188400 (by omega)
                      · have r188411 : o188407.toInt ≠ 0 := gj_neq hc188408 (show Int32.toInt 0 = 0 by decide)
                        have bo188407' : gB o188407 1 1 := ⟨by omega, by omega⟩
                        refine G_aload 0 dr_cX17_rename_123 rfl ?_
                        refine Gp_get 1 hm188301 he188399 dr_cX17_rename_125 (gk_X15 D I) (Nat.le_of_ble_eq_true rfl) wr_9_182 rfl ?_
                        refine G_iload_n 5 dr_cX17_rename_128 rfl ?_
                        refine G_icmp_ne 138 dr_cX17_rename_129 (by decide +kernel) (fun hc188412 => ?_) (fun hc188412 => ?_)
                        · have r188413 : p188304.toInt ≠ p165177.toInt := gC_ne hc188412
                          obtain ⟨z188414, hz188414⟩ : ∃ z : Int32, z = g187899 + Int32.ofInt 1 := ⟨_, rfl⟩
                          have ez188414 : z188414.toInt = g187899.toInt + 1 := gI_inc hz188414 (by decide) bg187899'' (by decide) (by decide)
                          have bz188414 : gB z188414 1 1000000 := ⟨by omega, by omega⟩
                          refine G_iinc (L' := [(5, .int z188414), (6, .ref q188291), (4, .ref q187115), (3, .int g187057), (0, .ref q165176), (1, .int p165177), (2, .int p165178)]) z188414 1 dr_cX17_rename_138 rfl hz188414.symm (Nat.le_of_ble_eq_true rfl) rfl ?_
                          refine G_goto 20 dr_cX17_rename_141 (by decide +kernel) ?_
                          refine G_lv (L' := [(5, .int z188414), (4, .ref q187115), (3, .int g187057), (0, .ref q165176), (1, .int p165177), (2, .int p165178)]) [0, 2, 3, 4, 5, 6] rfl ?_
                          exact ih20_187902 F188390 z188414 (gB_w bz188414 (by decide) (by decide)) hT188401 hs188400 (by omega)
                        · have r188415 : p188304.toInt = p165177.toInt := gC_eq hc188412
                          refine G_aload 0 dr_cX17_rename_132 rfl ?_
                          refine G_iload_n 6 dr_cX17_rename_134 rfl ?_
                          refine Gp_put 1 hm188301 he188399 dr_cX17_rename_135 (gk_X15 D I) (Nat.le_of_ble_eq_true rfl) wr_9_182 rfl rfl rfl (Nat.le_of_ble_eq_true rfl) (fun F188416 e188417 n188418 => ?_)
                          have he188419 : F188416 q165176 = .inr (18, [.ref q187066, .ref q187067, .int p187068, .int p187069]) := (n188418 q165176 (rn_oo he188393 he188399 (by decide))).trans he188393
                          have he188420 : F188416 q187066 = .inr (4, [.int p187096, .ref q187098, .int p187097]) := (n188418 q187066 (rn_oo he188394 he188399 (by decide))).trans he188394
                          have he188421 : F188416 q187098 = .inl (I (.object "java/lang/Object"), n187112, .inr (.inr (.inr (.inr f187113)))) := (n188418 q187098 (rn_ao he188395 he188399)).trans he188395
                          have he188422 : F188416 q187115 = .inr (17, [.ref q187124, .ref q187125, .int p187126, .int p187127]) := (n188418 q187115 (rn_oo he188396 he188399 (by decide))).trans he188396
                          have he188423 : F188416 q187124 = .inr (4, [.int p187912, .ref q187914, .int p187913]) := (n188418 q187124 (rn_oo he188397 he188399 (by decide))).trans he188397
                          have he188424 : F188416 q187914 = .inl (I (.object "java/lang/Object"), n188288, .inr (.inr (.inr (.inr f188289)))) := (n188418 q187914 (rn_ao he188398 he188399)).trans he188398
                          have he188425 : F188416 q188291 = .inr (20, [.int p188303, .int p165178, .int p188305, .int p165178, .int p188307, .int p188308, .int p188309]) := e188417
                          have hs188426 : rStr γ [1] F165175 F188416 := rStr_pu2 hs188400 n188418 ht188294 (by decide)
                          obtain ⟨z188427, hz188427⟩ : ∃ z : Int32, z = g187899 + Int32.ofInt 1 := ⟨_, rfl⟩
                          have ez188427 : z188427.toInt = g187899.toInt + 1 := gI_inc hz188427 (by decide) bg187899'' (by decide) (by decide)
                          have bz188427 : gB z188427 1 1000000 := ⟨by omega, by omega⟩
                          refine G_iinc (L' := [(5, .int z188427), (6, .ref q188291), (4, .ref q187115), (3, .int g187057), (0, .ref q165176), (1, .int p165177), (2, .int p165178)]) z188427 1 dr_cX17_rename_138 rfl hz188427.symm (Nat.le_of_ble_eq_true rfl) rfl ?_
                          refine G_goto 20 dr_cX17_rename_141 (by decide +kernel) ?_
                          have hT188428 : RS D I P165174 F188416 γ el := RS_set hT188401 n188418 ht188294 (by decide) ⟨p188303, p165178, p188305, p165178, p188307, p188308, p188309, he188425, bp188303, bp165178, bp188307, bp188308, bp188309, (by omega), (by omega), (by omega), (by omega)⟩
                          refine G_lv (L' := [(5, .int z188427), (4, .ref q187115), (3, .int g187057), (0, .ref q165176), (1, .int p165177), (2, .int p165178)]) [0, 2, 3, 4, 5, 6] rfl ?_
                          exact ih20_187902 F188416 z188427 (gB_w bz188427 (by decide) (by decide)) hT188428 hs188426 (by omega)
                · have r188429 : o188319.toInt ≠ 0 := gj_neq hc188321 (show Int32.toInt 0 = 0 by decide)
                  have bo188319' : gB o188319 1 1 := ⟨by omega, by omega⟩
                  refine G_aload 0 dr_cX17_rename_77 rfl ?_
                  refine Gp_get 2 hm188301 he188302 dr_cX17_rename_79 (gk_X15 D I) (Nat.le_of_ble_eq_true rfl) wr_9_186 rfl ?_
                  refine G_iload_n 5 dr_cX17_rename_82 rfl ?_
                  refine G_icmp_ne 92 dr_cX17_rename_83 (by decide +kernel) (fun hc188430 => ?_) (fun hc188430 => ?_)
                  · have r188431 : p188305.toInt ≠ p165177.toInt := gC_ne hc188430
                    refine G_aload 0 dr_cX17_rename_92 rfl ?_
                    refine Gw_callV (As := []) (gV_ok D I) (cp_1693_Row_usesB l hl0 D I P165174 F187900 q188291 p188303 p188304 p188305 p188306 p188307 p188308 p188309 hm188301 he188302 bp188303 bp188304 bp188307 bp188308 bp188309) dr_cX17_rename_94 ⟨wr_10_196, wr_1_39, wr_10_199, by decide, rfl, (Nat.le_of_ble_eq_true rfl), (Nat.le_of_ble_eq_true rfl)⟩ wr_10_197 wr_10_198 hm188301 he188302 rfl (show 0 + 0 ≤ 0 by first | omega | decide) (show 0 + 0 ≤ 0 by first | omega | decide) (Nat.le_of_ble_eq_true rfl) (fun r188435 w188436 dc188432 ds188433 hp188434 => ?_) (fun _ _ _ _ _ z => z.elim)
                    obtain ⟨o188437, rfl, rfl, hdc, hds, bo188437, x188438⟩ := hp188434
                    change G _ _ _ _ _ _ _ (.int o188437 :: _) _ _ _
                    refine G_widen (cs' := 0) (sl' := 0) (by omega) (by omega) ?_
                    refine G_if_eq 115 dr_cX17_rename_97 (by decide +kernel) (fun hc188439 => ?_) (fun hc188439 => ?_)
                    · have r188440 : o188437.toInt = 0 := gj_eq hc188439 (show Int32.toInt 0 = 0 by decide)
                      have bo188437' : gB o188437 0 0 := ⟨by omega, by omega⟩
                      refine G_aload 0 dr_cX17_rename_115 rfl ?_
                      refine Gw_callV (As := []) (gV_ok D I) (cp_1654_Row_sets l hl0 D I P165174 F187900 q188291 p188303 p188304 p188305 p188306 p188307 p188308 p188309 hm188301 he188302 bp188303 bp188304 bp188307 bp188308 bp188309) dr_cX17_rename_117 ⟨wr_10_181, wr_1_39, wr_10_184, by decide, rfl, (Nat.le_of_ble_eq_true rfl), (Nat.le_of_ble_eq_true rfl)⟩ wr_10_182 wr_10_183 hm188301 he188302 rfl (show 0 + 0 ≤ 0 by first | omega | decide) (show 0 + 0 ≤ 0 by first | omega | decide) (Nat.le_of_ble_eq_true rfl) (fun r188444 w188445 dc188441 ds188442 hp188443 => ?_) (fun _ _ _ _ _ z => z.elim)
                      obtain ⟨o188446, rfl, rfl, hdc, hds, bo188446⟩ := hp188443
                      change G _ _ _ _ _ _ _ (.int o188446 :: _) _ _ _
                      refine G_widen (cs' := 0) (sl' := 0) (by omega) (by omega) ?_
                      refine G_if_eq 138 dr_cX17_rename_120 (by decide +kernel) (fun hc188447 => ?_) (fun hc188447 => ?_)
                      · have r188448 : o188446.toInt = 0 := gj_eq hc188447 (show Int32.toInt 0 = 0 by decide)
                        have bo188446' : gB o188446 0 0 := ⟨by omega, by omega⟩
                        obtain ⟨z188449, hz188449⟩ : ∃ z : Int32, z = g187899 + Int32.ofInt 1 := ⟨_, rfl⟩
                        have ez188449 : z188449.toInt = g187899.toInt + 1 := gI_inc hz188449 (by decide) bg187899'' (by decide) (by decide)
                        have bz188449 : gB z188449 1 1000000 := ⟨by omega, by omega⟩
                        refine G_iinc (L' := [(5, .int z188449), (6, .ref q188291), (4, .ref q187115), (3, .int g187057), (0, .ref q165176), (1, .int p165177), (2, .int p165178)]) z188449 1 dr_cX17_rename_138 rfl hz188449.symm (Nat.le_of_ble_eq_true rfl) rfl ?_
                        refine G_goto 20 dr_cX17_rename_141 (by decide +kernel) ?_
                        refine G_lv (L' := [(5, .int z188449), (4, .ref q187115), (3, .int g187057), (0, .ref q165176), (1, .int p165177), (2, .int p165178)]) [0, 2, 3, 4, 5, 6] rfl ?_
                        exact ih20_187902 F187900 z188449 (gB_w bz188449 (by decide) (by decide)) hT187901 hs187902 (by omega)
                      · have r188450 : o188446.toInt ≠ 0 := gj_neq hc188447 (show Int32.toInt 0 = 0 by decide)
                        have bo188446' : gB o188446 1 1 := ⟨by omega, by omega⟩
                        refine G_aload 0 dr_cX17_rename_123 rfl ?_
                        refine Gp_get 1 hm188301 he188302 dr_cX17_rename_125 (gk_X15 D I) (Nat.le_of_ble_eq_true rfl) wr_9_182 rfl ?_
                        refine G_iload_n 5 dr_cX17_rename_128 rfl ?_
                        refine G_icmp_ne 138 dr_cX17_rename_129 (by decide +kernel) (fun hc188451 => ?_) (fun hc188451 => ?_)
                        · have r188452 : p188304.toInt ≠ p165177.toInt := gC_ne hc188451
                          obtain ⟨z188453, hz188453⟩ : ∃ z : Int32, z = g187899 + Int32.ofInt 1 := ⟨_, rfl⟩
                          have ez188453 : z188453.toInt = g187899.toInt + 1 := gI_inc hz188453 (by decide) bg187899'' (by decide) (by decide)
                          have bz188453 : gB z188453 1 1000000 := ⟨by omega, by omega⟩
                          refine G_iinc (L' := [(5, .int z188453), (6, .ref q188291), (4, .ref q187115), (3, .int g187057), (0, .ref q165176), (1, .int p165177), (2, .int p165178)]) z188453 1 dr_cX17_rename_138 rfl hz188453.symm (Nat.le_of_ble_eq_true rfl) rfl ?_
                          refine G_goto 20 dr_cX17_rename_141 (by decide +kernel) ?_
                          refine G_lv (L' := [(5, .int z188453), (4, .ref q187115), (3, .int g187057), (0, .ref q165176), (1, .int p165177), (2, .int p165178)]) [0, 2, 3, 4, 5, 6] rfl ?_
                          exact ih20_187902 F187900 z188453 (gB_w bz188453 (by decide) (by decide)) hT187901 hs187902 (by omega)
                        · have r188454 : p188304.toInt = p165177.toInt := gC_eq hc188451
                          refine G_aload 0 dr_cX17_rename_132 rfl ?_
                          refine G_iload_n 6 dr_cX17_rename_134 rfl ?_
                          refine Gp_put 1 hm188301 he188302 dr_cX17_rename_135 (gk_X15 D I) (Nat.le_of_ble_eq_true rfl) wr_9_182 rfl rfl rfl (Nat.le_of_ble_eq_true rfl) (fun F188455 e188456 n188457 => ?_)
                          have he188458 : F188455 q165176 = .inr (18, [.ref q187066, .ref q187067, .int p187068, .int p187069]) := (n188457 q165176 (rn_oo he187905 he188302 (by decide))).trans he187905
                          have he188459 : F188455 q187066 = .inr (4, [.int p187096, .ref q187098, .int p187097]) := (n188457 q187066 (rn_oo he187906 he188302 (by decide))).trans he187906
                          have he188460 : F188455 q187098 = .inl (I (.object "java/lang/Object"), n187112, .inr (.inr (.inr (.inr f187113)))) := (n188457 q187098 (rn_ao he187907 he188302)).trans he187907
                          have he188461 : F188455 q187115 = .inr (17, [.ref q187124, .ref q187125, .int p187126, .int p187127]) := (n188457 q187115 (rn_oo he187908 he188302 (by decide))).trans he187908
                          have he188462 : F188455 q187124 = .inr (4, [.int p187912, .ref q187914, .int p187913]) := (n188457 q187124 (rn_oo he187911 he188302 (by decide))).trans he187911
                          have he188463 : F188455 q187914 = .inl (I (.object "java/lang/Object"), n188288, .inr (.inr (.inr (.inr f188289)))) := (n188457 q187914 (rn_ao r188282 he188302)).trans r188282
                          have he188464 : F188455 q188291 = .inr (20, [.int p188303, .int p165178, .int p188305, .int p188306, .int p188307, .int p188308, .int p188309]) := e188456
                          have hs188465 : rStr γ [1] F165175 F188455 := rStr_pu2 hs187902 n188457 ht188294 (by decide)
                          obtain ⟨z188466, hz188466⟩ : ∃ z : Int32, z = g187899 + Int32.ofInt 1 := ⟨_, rfl⟩
                          have ez188466 : z188466.toInt = g187899.toInt + 1 := gI_inc hz188466 (by decide) bg187899'' (by decide) (by decide)
                          have bz188466 : gB z188466 1 1000000 := ⟨by omega, by omega⟩
                          refine G_iinc (L' := [(5, .int z188466), (6, .ref q188291), (4, .ref q187115), (3, .int g187057), (0, .ref q165176), (1, .int p165177), (2, .int p165178)]) z188466 1 dr_cX17_rename_138 rfl hz188466.symm (Nat.le_of_ble_eq_true rfl) rfl ?_
                          refine G_goto 20 dr_cX17_rename_141 (by decide +kernel) ?_
                          have hT188467 : RS D I P165174 F188455 γ el := RS_set hT187901 n188457 ht188294 (by decide) ⟨p188303, p165178, p188305, p188306, p188307, p188308, p188309, he188464, bp188303, bp165178, bp188307, bp188308, bp188309, (by omega), (by omega), (by omega), (by omega)⟩
                          refine G_lv (L' := [(5, .int z188466), (4, .ref q187115), (3, .int g187057), (0, .ref q165176), (1, .int p165177), (2, .int p165178)]) [0, 2, 3, 4, 5, 6] rfl ?_
                          exact ih20_187902 F188455 z188466 (gB_w bz188466 (by decide) (by decide)) hT188467 hs188465 (by omega)
                    · have r188468 : o188437.toInt ≠ 0 := gj_neq hc188439 (show Int32.toInt 0 = 0 by decide)
                      have bo188437' : gB o188437 1 1 := ⟨by omega, by omega⟩
                      refine G_aload 0 dr_cX17_rename_100 rfl ?_
                      refine Gp_get 3 hm188301 he188302 dr_cX17_rename_102 (gk_X15 D I) (Nat.le_of_ble_eq_true rfl) wr_9_190 rfl ?_
                      refine G_iload_n 5 dr_cX17_rename_105 rfl ?_
                      refine G_icmp_ne 115 dr_cX17_rename_106 (by decide +kernel) (fun hc188469 => ?_) (fun hc188469 => ?_)
                      · have r188470 : p188306.toInt ≠ p165177.toInt := gC_ne hc188469
                        refine G_aload 0 dr_cX17_rename_115 rfl ?_
                        refine Gw_callV (As := []) (gV_ok D I) (cp_1654_Row_sets l hl0 D I P165174 F187900 q188291 p188303 p188304 p188305 p188306 p188307 p188308 p188309 hm188301 he188302 bp188303 bp188304 bp188307 bp188308 bp188309) dr_cX17_rename_117 ⟨wr_10_181, wr_1_39, wr_10_184, by decide, rfl, (Nat.le_of_ble_eq_true rfl), (Nat.le_of_ble_eq_true rfl)⟩ wr_10_182 wr_10_183 hm188301 he188302 rfl (show 0 + 0 ≤ 0 by first | omega | decide) (show 0 + 0 ≤ 0 by first | omega | decide) (Nat.le_of_ble_eq_true rfl) (fun r188474 w188475 dc188471 ds188472 hp188473 => ?_) (fun _ _ _ _ _ z => z.elim)
                        obtain ⟨o188476, rfl, rfl, hdc, hds, bo188476⟩ := hp188473
                        change G _ _ _ _ _ _ _ (.int o188476 :: _) _ _ _
                        refine G_widen (cs' := 0) (sl' := 0) (by omega) (by omega) ?_
                        refine G_if_eq 138 dr_cX17_rename_120 (by decide +kernel) (fun hc188477 => ?_) (fun hc188477 => ?_)
                        · have r188478 : o188476.toInt = 0 := gj_eq hc188477 (show Int32.toInt 0 = 0 by decide)
                          have bo188476' : gB o188476 0 0 := ⟨by omega, by omega⟩
                          obtain ⟨z188479, hz188479⟩ : ∃ z : Int32, z = g187899 + Int32.ofInt 1 := ⟨_, rfl⟩
                          have ez188479 : z188479.toInt = g187899.toInt + 1 := gI_inc hz188479 (by decide) bg187899'' (by decide) (by decide)
                          have bz188479 : gB z188479 1 1000000 := ⟨by omega, by omega⟩
                          refine G_iinc (L' := [(5, .int z188479), (6, .ref q188291), (4, .ref q187115), (3, .int g187057), (0, .ref q165176), (1, .int p165177), (2, .int p165178)]) z188479 1 dr_cX17_rename_138 rfl hz188479.symm (Nat.le_of_ble_eq_true rfl) rfl ?_
                          refine G_goto 20 dr_cX17_rename_141 (by decide +kernel) ?_
                          refine G_lv (L' := [(5, .int z188479), (4, .ref q187115), (3, .int g187057), (0, .ref q165176), (1, .int p165177), (2, .int p165178)]) [0, 2, 3, 4, 5, 6] rfl ?_
                          exact ih20_187902 F187900 z188479 (gB_w bz188479 (by decide) (by decide)) hT187901 hs187902 (by omega)
                        · have r188480 : o188476.toInt ≠ 0 := gj_neq hc188477 (show Int32.toInt 0 = 0 by decide)
                          have bo188476' : gB o188476 1 1 := ⟨by omega, by omega⟩
                          refine G_aload 0 dr_cX17_rename_123 rfl ?_
                          refine Gp_get 1 hm188301 he188302 dr_cX17_rename_125 (gk_X15 D I) (Nat.le_of_ble_eq_true rfl) wr_9_182 rfl ?_
                          refine G_iload_n 5 dr_cX17_rename_128 rfl ?_
                          refine G_icmp_ne 138 dr_cX17_rename_129 (by decide +kernel) (fun hc188481 => ?_) (fun hc188481 => ?_)
                          · have r188482 : p188304.toInt ≠ p165177.toInt := gC_ne hc188481
                            obtain ⟨z188483, hz188483⟩ : ∃ z : Int32, z = g187899 + Int32.ofInt 1 := ⟨_, rfl⟩
                            have ez188483 : z188483.toInt = g187899.toInt + 1 := gI_inc hz188483 (by decide) bg187899'' (by decide) (by decide)
                            have bz188483 : gB z188483 1 1000000 := ⟨by omega, by omega⟩
                            refine G_iinc (L' := [(5, .int z188483), (6, .ref q188291), (4, .ref q187115), (3, .int g187057), (0, .ref q165176), (1, .int p165177), (2, .int p165178)]) z188483 1 dr_cX17_rename_138 rfl hz188483.symm (Nat.le_of_ble_eq_true rfl) rfl ?_
                            refine G_goto 20 dr_cX17_rename_141 (by decide +kernel) ?_
                            refine G_lv (L' := [(5, .int z188483), (4, .ref q187115), (3, .int g187057), (0, .ref q165176), (1, .int p165177), (2, .int p165178)]) [0, 2, 3, 4, 5, 6] rfl ?_
                            exact ih20_187902 F187900 z188483 (gB_w bz188483 (by decide) (by decide)) hT187901 hs187902 (by omega)
                          · have r188484 : p188304.toInt = p165177.toInt := gC_eq hc188481
                            refine G_aload 0 dr_cX17_rename_132 rfl ?_
                            refine G_iload_n 6 dr_cX17_rename_134 rfl ?_
                            refine Gp_put 1 hm188301 he188302 dr_cX17_rename_135 (gk_X15 D I) (Nat.le_of_ble_eq_true rfl) wr_9_182 rfl rfl rfl (Nat.le_of_ble_eq_true rfl) (fun F188485 e188486 n188487 => ?_)
                            have he188488 : F188485 q165176 = .inr (18, [.ref q187066, .ref q187067, .int p187068, .int p187069]) := (n188487 q165176 (rn_oo he187905 he188302 (by decide))).trans he187905
                            have he188489 : F188485 q187066 = .inr (4, [.int p187096, .ref q187098, .int p187097]) := (n188487 q187066 (rn_oo he187906 he188302 (by decide))).trans he187906
                            have he188490 : F188485 q187098 = .inl (I (.object "java/lang/Object"), n187112, .inr (.inr (.inr (.inr f187113)))) := (n188487 q187098 (rn_ao he187907 he188302)).trans he187907
                            have he188491 : F188485 q187115 = .inr (17, [.ref q187124, .ref q187125, .int p187126, .int p187127]) := (n188487 q187115 (rn_oo he187908 he188302 (by decide))).trans he187908
                            have he188492 : F188485 q187124 = .inr (4, [.int p187912, .ref q187914, .int p187913]) := (n188487 q187124 (rn_oo he187911 he188302 (by decide))).trans he187911
                            have he188493 : F188485 q187914 = .inl (I (.object "java/lang/Object"), n188288, .inr (.inr (.inr (.inr f188289)))) := (n188487 q187914 (rn_ao r188282 he188302)).trans r188282
                            have he188494 : F188485 q188291 = .inr (20, [.int p188303, .int p165178, .int p188305, .int p188306, .int p188307, .int p188308, .int p188309]) := e188486
                            have hs188495 : rStr γ [1] F165175 F188485 := rStr_pu2 hs187902 n188487 ht188294 (by decide)
                            obtain ⟨z188496, hz188496⟩ : ∃ z : Int32, z = g187899 + Int32.ofInt 1 := ⟨_, rfl⟩
                            have ez188496 : z188496.toInt = g187899.toInt + 1 := gI_inc hz188496 (by decide) bg187899'' (by decide) (by decide)
                            have bz188496 : gB z188496 1 1000000 := ⟨by omega, by omega⟩
                            refine G_iinc (L' := [(5, .int z188496), (6, .ref q188291), (4, .ref q187115), (3, .int g187057), (0, .ref q165176), (1, .int p165177), (2, .int p165178)]) z188496 1 dr_cX17_rename_138 rfl hz188496.symm (Nat.le_of_ble_eq_true rfl) rfl ?_
                            refine G_goto 20 dr_cX17_rename_141 (by decide +kernel) ?_
                            have hT188497 : RS D I P165174 F188485 γ el := RS_set hT187901 n188487 ht188294 (by decide) ⟨p188303, p165178, p188305, p188306, p188307, p188308, p188309, he188494, bp188303, bp165178, bp188307, bp188308, bp188309, (by omega), (by omega), (by omega), (by omega)⟩
                            refine G_lv (L' := [(5, .int z188496), (4, .ref q187115), (3, .int g187057), (0, .ref q165176), (1, .int p165177), (2, .int p165178)]) [0, 2, 3, 4, 5, 6] rfl ?_
                            exact ih20_187902 F188485 z188496 (gB_w bz188496 (by decide) (by decide)) hT188497 hs188495 (by omega)
                      · have r188498 : p188306.toInt = p165177.toInt := gC_eq hc188469
                        have bp188306' : gB p188306 0 1999 := ⟨by omega, by omega⟩
                        refine G_aload 0 dr_cX17_rename_109 rfl ?_
                        refine G_iload_n 6 dr_cX17_rename_111 rfl ?_
                        refine Gp_put 3 hm188301 he188302 dr_cX17_rename_112 (gk_X15 D I) (Nat.le_of_ble_eq_true rfl) wr_9_190 rfl rfl rfl (Nat.le_of_ble_eq_true rfl) (fun F188499 e188500 n188501 => ?_)
                        have he188502 : F188499 q165176 = .inr (18, [.ref q187066, .ref q187067, .int p187068, .int p187069]) := (n188501 q165176 (rn_oo he187905 he188302 (by decide))).trans he187905
                        have he188503 : F188499 q187066 = .inr (4, [.int p187096, .ref q187098, .int p187097]) := (n188501 q187066 (rn_oo he187906 he188302 (by decide))).trans he187906
                        have he188504 : F188499 q187098 = .inl (I (.object "java/lang/Object"), n187112, .inr (.inr (.inr (.inr f187113)))) := (n188501 q187098 (rn_ao he187907 he188302)).trans he187907
                        have he188505 : F188499 q187115 = .inr (17, [.ref q187124, .ref q187125, .int p187126, .int p187127]) := (n188501 q187115 (rn_oo he187908 he188302 (by decide))).trans he187908
                        have he188506 : F188499 q187124 = .inr (4, [.int p187912, .ref q187914, .int p187913]) := (n188501 q187124 (rn_oo he187911 he188302 (by decide))).trans he187911
                        have he188507 : F188499 q187914 = .inl (I (.object "java/lang/Object"), n188288, .inr (.inr (.inr (.inr f188289)))) := (n188501 q187914 (rn_ao r188282 he188302)).trans r188282
                        have he188508 : F188499 q188291 = .inr (20, [.int p188303, .int p188304, .int p188305, .int p165178, .int p188307, .int p188308, .int p188309]) := e188500
                        have hs188509 : rStr γ [1] F165175 F188499 := rStr_pu2 hs187902 n188501 ht188294 (by decide)
                        refine G_aload 0 dr_cX17_rename_115 rfl ?_
                        have hT188510 : RS D I P165174 F188499 γ el := RS_set hT187901 n188501 ht188294 (by decide) ⟨p188303, p188304, p188305, p165178, p188307, p188308, p188309, he188508, bp188303, bp188304, bp188307, bp188308, bp188309, (by omega), (by omega), (by omega), (by omega)⟩
                        refine Gw_callV (As := []) (gV_ok D I) (cp_1654_Row_sets l hl0 D I P165174 F188499 q188291 p188303 p188304 p188305 p165178 p188307 p188308 p188309 hm188301 he188508 bp188303 bp188304 bp188307 bp188308 bp188309) dr_cX17_rename_117 ⟨wr_10_181, wr_1_39, wr_10_184, by decide, rfl, (Nat.le_of_ble_eq_true rfl), (Nat.le_of_ble_eq_true rfl)⟩ wr_10_182 wr_10_183 hm188301 he188508 rfl (show 0 + 0 ≤ 0 by first | omega | decide) (show 0 + 0 ≤ 0 by first | omega | decide) (Nat.le_of_ble_eq_true rfl) (fun r188514 w188515 dc188511 ds188512 hp188513 => ?_) (fun _ _ _ _ _ z => z.elim)
                        obtain ⟨o188516, rfl, rfl, hdc, hds, bo188516⟩ := hp188513
                        change G _ _ _ _ _ _ _ (.int o188516 :: _) _ _ _
                        refine G_widen (cs' := 0) (sl' := 0) (by omega) (by omega) ?_
                        refine G_if_eq 138 dr_cX17_rename_120 (by decide +kernel) (fun hc188517 => ?_) (fun hc188517 => ?_)
                        · have r188518 : o188516.toInt = 0 := gj_eq hc188517 (show Int32.toInt 0 = 0 by decide)
                          have bo188516' : gB o188516 0 0 := ⟨by omega, by omega⟩
                          obtain ⟨z188519, hz188519⟩ : ∃ z : Int32, z = g187899 + Int32.ofInt 1 := ⟨_, rfl⟩
                          have ez188519 : z188519.toInt = g187899.toInt + 1 := gI_inc hz188519 (by decide) bg187899'' (by decide) (by decide)
                          have bz188519 : gB z188519 1 1000000 := ⟨by omega, by omega⟩
                          refine G_iinc (L' := [(5, .int z188519), (6, .ref q188291), (4, .ref q187115), (3, .int g187057), (0, .ref q165176), (1, .int p165177), (2, .int p165178)]) z188519 1 dr_cX17_rename_138 rfl hz188519.symm (Nat.le_of_ble_eq_true rfl) rfl ?_
                          refine G_goto 20 dr_cX17_rename_141 (by decide +kernel) ?_
                          refine G_lv (L' := [(5, .int z188519), (4, .ref q187115), (3, .int g187057), (0, .ref q165176), (1, .int p165177), (2, .int p165178)]) [0, 2, 3, 4, 5, 6] rfl ?_
                          exact ih20_187902 F188499 z188519 (gB_w bz188519 (by decide) (by decide)) hT188510 hs188509 (by omega)
                        · have r188520 : o188516.toInt ≠ 0 := gj_neq hc188517 (show Int32.toInt 0 = 0 by decide)
                          have bo188516' : gB o188516 1 1 := ⟨by omega, by omega⟩
                          refine G_aload 0 dr_cX17_rename_123 rfl ?_
                          refine Gp_get 1 hm188301 he188508 dr_cX17_rename_125 (gk_X15 D I) (Nat.le_of_ble_eq_true rfl) wr_9_182 rfl ?_
                          refine G_iload_n 5 dr_cX17_rename_128 rfl ?_
                          refine G_icmp_ne 138 dr_cX17_rename_129 (by decide +kernel) (fun hc188521 => ?_) (fun hc188521 => ?_)
                          · have r188522 : p188304.toInt ≠ p165177.toInt := gC_ne hc188521
                            obtain ⟨z188523, hz188523⟩ : ∃ z : Int32, z = g187899 + Int32.ofInt 1 := ⟨_, rfl⟩
                            have ez188523 : z188523.toInt = g187899.toInt + 1 := gI_inc hz188523 (by decide) bg187899'' (by decide) (by decide)
                            have bz188523 : gB z188523 1 1000000 := ⟨by omega, by omega⟩
                            refine G_iinc (L' := [(5, .int z188523), (6, .ref q188291), (4, .ref q187115), (3, .int g187057), (0, .ref q165176), (1, .int p165177), (2, .int p165178)]) z188523 1 dr_cX17_rename_138 rfl hz188523.symm (Nat.le_of_ble_eq_true rfl) rfl ?_
                            refine G_goto 20 dr_cX17_rename_141 (by decide +kernel) ?_
                            refine G_lv (L' := [(5, .int z188523), (4, .ref q187115), (3, .int g187057), (0, .ref q165176), (1, .int p165177), (2, .int p165178)]) [0, 2, 3, 4, 5, 6] rfl ?_
                            exact ih20_187902 F188499 z188523 (gB_w bz188523 (by decide) (by decide)) hT188510 hs188509 (by omega)
                          · have r188524 : p188304.toInt = p165177.toInt := gC_eq hc188521
                            refine G_aload 0 dr_cX17_rename_132 rfl ?_
                            refine G_iload_n 6 dr_cX17_rename_134 rfl ?_
                            refine Gp_put 1 hm188301 he188508 dr_cX17_rename_135 (gk_X15 D I) (Nat.le_of_ble_eq_true rfl) wr_9_182 rfl rfl rfl (Nat.le_of_ble_eq_true rfl) (fun F188525 e188526 n188527 => ?_)
                            have he188528 : F188525 q165176 = .inr (18, [.ref q187066, .ref q187067, .int p187068, .int p187069]) := (n188527 q165176 (rn_oo he188502 he188508 (by decide))).trans he188502
                            have he188529 : F188525 q187066 = .inr (4, [.int p187096, .ref q187098, .int p187097]) := (n188527 q187066 (rn_oo he188503 he188508 (by decide))).trans he188503
                            have he188530 : F188525 q187098 = .inl (I (.object "java/lang/Object"), n187112, .inr (.inr (.inr (.inr f187113)))) := (n188527 q187098 (rn_ao he188504 he188508)).trans he188504
                            have he188531 : F188525 q187115 = .inr (17, [.ref q187124, .ref q187125, .int p187126, .int p187127]) := (n188527 q187115 (rn_oo he188505 he188508 (by decide))).trans he188505
                            have he188532 : F188525 q187124 = .inr (4, [.int p187912, .ref q187914, .int p187913]) := (n188527 q187124 (rn_oo he188506 he188508 (by decide))).trans he188506
                            have he188533 : F188525 q187914 = .inl (I (.object "java/lang/Object"), n188288, .inr (.inr (.inr (.inr f188289)))) := (n188527 q187914 (rn_ao he188507 he188508)).trans he188507
                            have he188534 : F188525 q188291 = .inr (20, [.int p188303, .int p165178, .int p188305, .int p165178, .int p188307, .int p188308, .int p188309]) := e188526
                            have hs188535 : rStr γ [1] F165175 F188525 := rStr_pu2 hs188509 n188527 ht188294 (by decide)
                            obtain ⟨z188536, hz188536⟩ : ∃ z : Int32, z = g187899 + Int32.ofInt 1 := ⟨_, rfl⟩
                            have ez188536 : z188536.toInt = g187899.toInt + 1 := gI_inc hz188536 (by decide) bg187899'' (by decide) (by decide)
                            have bz188536 : gB z188536 1 1000000 := ⟨by omega, by omega⟩
                            refine G_iinc (L' := [(5, .int z188536), (6, .ref q188291), (4, .ref q187115), (3, .int g187057), (0, .ref q165176), (1, .int p165177), (2, .int p165178)]) z188536 1 dr_cX17_rename_138 rfl hz188536.symm (Nat.le_of_ble_eq_true rfl) rfl ?_
                            refine G_goto 20 dr_cX17_rename_141 (by decide +kernel) ?_
                            have hT188537 : RS D I P165174 F188525 γ el := RS_set hT188510 n188527 ht188294 (by decide) ⟨p188303, p165178, p188305, p165178, p188307, p188308, p188309, he188534, bp188303, bp165178, bp188307, bp188308, bp188309, (by omega), (by omega), (by omega), (by omega)⟩
                            refine G_lv (L' := [(5, .int z188536), (4, .ref q187115), (3, .int g187057), (0, .ref q165176), (1, .int p165177), (2, .int p165178)]) [0, 2, 3, 4, 5, 6] rfl ?_
                            exact ih20_187902 F188525 z188536 (gB_w bz188536 (by decide) (by decide)) hT188537 hs188535 (by omega)
                  · have r188538 : p188305.toInt = p165177.toInt := gC_eq hc188430
                    have bp188305' : gB p188305 0 1999 := ⟨by omega, by omega⟩
                    refine G_aload 0 dr_cX17_rename_86 rfl ?_
                    refine G_iload_n 6 dr_cX17_rename_88 rfl ?_
                    refine Gp_put 2 hm188301 he188302 dr_cX17_rename_89 (gk_X15 D I) (Nat.le_of_ble_eq_true rfl) wr_9_186 rfl rfl rfl (Nat.le_of_ble_eq_true rfl) (fun F188539 e188540 n188541 => ?_)
                    have he188542 : F188539 q165176 = .inr (18, [.ref q187066, .ref q187067, .int p187068, .int p187069]) := (n188541 q165176 (rn_oo he187905 he188302 (by decide))).trans he187905
                    have he188543 : F188539 q187066 = .inr (4, [.int p187096, .ref q187098, .int p187097]) := (n188541 q187066 (rn_oo he187906 he188302 (by decide))).trans he187906
                    have he188544 : F188539 q187098 = .inl (I (.object "java/lang/Object"), n187112, .inr (.inr (.inr (.inr f187113)))) := (n188541 q187098 (rn_ao he187907 he188302)).trans he187907
                    have he188545 : F188539 q187115 = .inr (17, [.ref q187124, .ref q187125, .int p187126, .int p187127]) := (n188541 q187115 (rn_oo he187908 he188302 (by decide))).trans he187908
                    have he188546 : F188539 q187124 = .inr (4, [.int p187912, .ref q187914, .int p187913]) := (n188541 q187124 (rn_oo he187911 he188302 (by decide))).trans he187911
                    have he188547 : F188539 q187914 = .inl (I (.object "java/lang/Object"), n188288, .inr (.inr (.inr (.inr f188289)))) := (n188541 q187914 (rn_ao r188282 he188302)).trans r188282
                    have he188548 : F188539 q188291 = .inr (20, [.int p188303, .int p188304, .int p165178, .int p188306, .int p188307, .int p188308, .int p188309]) := e188540
                    have hs188549 : rStr γ [1] F165175 F188539 := rStr_pu2 hs187902 n188541 ht188294 (by decide)
                    refine G_aload 0 dr_cX17_rename_92 rfl ?_
                    have hT188550 : RS D I P165174 F188539 γ el := RS_set hT187901 n188541 ht188294 (by decide) ⟨p188303, p188304, p165178, p188306, p188307, p188308, p188309, he188548, bp188303, bp188304, bp188307, bp188308, bp188309, (by omega), (by omega), (by omega), (by omega)⟩
                    refine Gw_callV (As := []) (gV_ok D I) (cp_1693_Row_usesB l hl0 D I P165174 F188539 q188291 p188303 p188304 p165178 p188306 p188307 p188308 p188309 hm188301 he188548 bp188303 bp188304 bp188307 bp188308 bp188309) dr_cX17_rename_94 ⟨wr_10_196, wr_1_39, wr_10_199, by decide, rfl, (Nat.le_of_ble_eq_true rfl), (Nat.le_of_ble_eq_true rfl)⟩ wr_10_197 wr_10_198 hm188301 he188548 rfl (show 0 + 0 ≤ 0 by first | omega | decide) (show 0 + 0 ≤ 0 by first | omega | decide) (Nat.le_of_ble_eq_true rfl) (fun r188554 w188555 dc188551 ds188552 hp188553 => ?_) (fun _ _ _ _ _ z => z.elim)
                    obtain ⟨o188556, rfl, rfl, hdc, hds, bo188556, x188557⟩ := hp188553
                    change G _ _ _ _ _ _ _ (.int o188556 :: _) _ _ _
                    refine G_widen (cs' := 0) (sl' := 0) (by omega) (by omega) ?_
                    refine G_if_eq 115 dr_cX17_rename_97 (by decide +kernel) (fun hc188558 => ?_) (fun hc188558 => ?_)
                    · have r188559 : o188556.toInt = 0 := gj_eq hc188558 (show Int32.toInt 0 = 0 by decide)
                      have bo188556' : gB o188556 0 0 := ⟨by omega, by omega⟩
                      refine G_aload 0 dr_cX17_rename_115 rfl ?_
                      refine Gw_callV (As := []) (gV_ok D I) (cp_1654_Row_sets l hl0 D I P165174 F188539 q188291 p188303 p188304 p165178 p188306 p188307 p188308 p188309 hm188301 he188548 bp188303 bp188304 bp188307 bp188308 bp188309) dr_cX17_rename_117 ⟨wr_10_181, wr_1_39, wr_10_184, by decide, rfl, (Nat.le_of_ble_eq_true rfl), (Nat.le_of_ble_eq_true rfl)⟩ wr_10_182 wr_10_183 hm188301 he188548 rfl (show 0 + 0 ≤ 0 by first | omega | decide) (show 0 + 0 ≤ 0 by first | omega | decide) (Nat.le_of_ble_eq_true rfl) (fun r188563 w188564 dc188560 ds188561 hp188562 => ?_) (fun _ _ _ _ _ z => z.elim)
                      obtain ⟨o188565, rfl, rfl, hdc, hds, bo188565⟩ := hp188562
                      change G _ _ _ _ _ _ _ (.int o188565 :: _) _ _ _
                      refine G_widen (cs' := 0) (sl' := 0) (by omega) (by omega) ?_
                      refine G_if_eq 138 dr_cX17_rename_120 (by decide +kernel) (fun hc188566 => ?_) (fun hc188566 => ?_)
                      · have r188567 : o188565.toInt = 0 := gj_eq hc188566 (show Int32.toInt 0 = 0 by decide)
                        have bo188565' : gB o188565 0 0 := ⟨by omega, by omega⟩
                        obtain ⟨z188568, hz188568⟩ : ∃ z : Int32, z = g187899 + Int32.ofInt 1 := ⟨_, rfl⟩
                        have ez188568 : z188568.toInt = g187899.toInt + 1 := gI_inc hz188568 (by decide) bg187899'' (by decide) (by decide)
                        have bz188568 : gB z188568 1 1000000 := ⟨by omega, by omega⟩
                        refine G_iinc (L' := [(5, .int z188568), (6, .ref q188291), (4, .ref q187115), (3, .int g187057), (0, .ref q165176), (1, .int p165177), (2, .int p165178)]) z188568 1 dr_cX17_rename_138 rfl hz188568.symm (Nat.le_of_ble_eq_true rfl) rfl ?_
                        refine G_goto 20 dr_cX17_rename_141 (by decide +kernel) ?_
                        refine G_lv (L' := [(5, .int z188568), (4, .ref q187115), (3, .int g187057), (0, .ref q165176), (1, .int p165177), (2, .int p165178)]) [0, 2, 3, 4, 5, 6] rfl ?_
                        exact ih20_187902 F188539 z188568 (gB_w bz188568 (by decide) (by decide)) hT188550 hs188549 (by omega)
                      · have r188569 : o188565.toInt ≠ 0 := gj_neq hc188566 (show Int32.toInt 0 = 0 by decide)
                        have bo188565' : gB o188565 1 1 := ⟨by omega, by omega⟩
                        refine G_aload 0 dr_cX17_rename_123 rfl ?_
                        refine Gp_get 1 hm188301 he188548 dr_cX17_rename_125 (gk_X15 D I) (Nat.le_of_ble_eq_true rfl) wr_9_182 rfl ?_
                        refine G_iload_n 5 dr_cX17_rename_128 rfl ?_
                        refine G_icmp_ne 138 dr_cX17_rename_129 (by decide +kernel) (fun hc188570 => ?_) (fun hc188570 => ?_)
                        · have r188571 : p188304.toInt ≠ p165177.toInt := gC_ne hc188570
                          obtain ⟨z188572, hz188572⟩ : ∃ z : Int32, z = g187899 + Int32.ofInt 1 := ⟨_, rfl⟩
                          have ez188572 : z188572.toInt = g187899.toInt + 1 := gI_inc hz188572 (by decide) bg187899'' (by decide) (by decide)
                          have bz188572 : gB z188572 1 1000000 := ⟨by omega, by omega⟩
                          refine G_iinc (L' := [(5, .int z188572), (6, .ref q188291), (4, .ref q187115), (3, .int g187057), (0, .ref q165176), (1, .int p165177), (2, .int p165178)]) z188572 1 dr_cX17_rename_138 rfl hz188572.symm (Nat.le_of_ble_eq_true rfl) rfl ?_
                          refine G_goto 20 dr_cX17_rename_141 (by decide +kernel) ?_
                          refine G_lv (L' := [(5, .int z188572), (4, .ref q187115), (3, .int g187057), (0, .ref q165176), (1, .int p165177), (2, .int p165178)]) [0, 2, 3, 4, 5, 6] rfl ?_
                          exact ih20_187902 F188539 z188572 (gB_w bz188572 (by decide) (by decide)) hT188550 hs188549 (by omega)
                        · have r188573 : p188304.toInt = p165177.toInt := gC_eq hc188570
                          refine G_aload 0 dr_cX17_rename_132 rfl ?_
                          refine G_iload_n 6 dr_cX17_rename_134 rfl ?_
                          refine Gp_put 1 hm188301 he188548 dr_cX17_rename_135 (gk_X15 D I) (Nat.le_of_ble_eq_true rfl) wr_9_182 rfl rfl rfl (Nat.le_of_ble_eq_true rfl) (fun F188574 e188575 n188576 => ?_)
                          have he188577 : F188574 q165176 = .inr (18, [.ref q187066, .ref q187067, .int p187068, .int p187069]) := (n188576 q165176 (rn_oo he188542 he188548 (by decide))).trans he188542
                          have he188578 : F188574 q187066 = .inr (4, [.int p187096, .ref q187098, .int p187097]) := (n188576 q187066 (rn_oo he188543 he188548 (by decide))).trans he188543
                          have he188579 : F188574 q187098 = .inl (I (.object "java/lang/Object"), n187112, .inr (.inr (.inr (.inr f187113)))) := (n188576 q187098 (rn_ao he188544 he188548)).trans he188544
                          have he188580 : F188574 q187115 = .inr (17, [.ref q187124, .ref q187125, .int p187126, .int p187127]) := (n188576 q187115 (rn_oo he188545 he188548 (by decide))).trans he188545
                          have he188581 : F188574 q187124 = .inr (4, [.int p187912, .ref q187914, .int p187913]) := (n188576 q187124 (rn_oo he188546 he188548 (by decide))).trans he188546
                          have he188582 : F188574 q187914 = .inl (I (.object "java/lang/Object"), n188288, .inr (.inr (.inr (.inr f188289)))) := (n188576 q187914 (rn_ao he188547 he188548)).trans he188547
                          have he188583 : F188574 q188291 = .inr (20, [.int p188303, .int p165178, .int p165178, .int p188306, .int p188307, .int p188308, .int p188309]) := e188575
                          have hs188584 : rStr γ [1] F165175 F188574 := rStr_pu2 hs188549 n188576 ht188294 (by decide)
                          obtain ⟨z188585, hz188585⟩ : ∃ z : Int32, z = g187899 + Int32.ofInt 1 := ⟨_, rfl⟩
                          have ez188585 : z188585.toInt = g187899.toInt + 1 := gI_inc hz188585 (by decide) bg187899'' (by decide) (by decide)
                          have bz188585 : gB z188585 1 1000000 := ⟨by omega, by omega⟩
                          refine G_iinc (L' := [(5, .int z188585), (6, .ref q188291), (4, .ref q187115), (3, .int g187057), (0, .ref q165176), (1, .int p165177), (2, .int p165178)]) z188585 1 dr_cX17_rename_138 rfl hz188585.symm (Nat.le_of_ble_eq_true rfl) rfl ?_
                          refine G_goto 20 dr_cX17_rename_141 (by decide +kernel) ?_
                          have hT188586 : RS D I P165174 F188574 γ el := RS_set hT188550 n188576 ht188294 (by decide) ⟨p188303, p165178, p165178, p188306, p188307, p188308, p188309, he188583, bp188303, bp165178, bp188307, bp188308, bp188309, (by omega), (by omega), (by omega), (by omega)⟩
                          refine G_lv (L' := [(5, .int z188585), (4, .ref q187115), (3, .int g187057), (0, .ref q165176), (1, .int p165177), (2, .int p165178)]) [0, 2, 3, 4, 5, 6] rfl ?_
                          exact ih20_187902 F188574 z188585 (gB_w bz188585 (by decide) (by decide)) hT188586 hs188584 (by omega)
                    · have r188587 : o188556.toInt ≠ 0 := gj_neq hc188558 (show Int32.toInt 0 = 0 by decide)
                      have bo188556' : gB o188556 1 1 := ⟨by omega, by omega⟩
                      refine G_aload 0 dr_cX17_rename_100 rfl ?_
                      refine Gp_get 3 hm188301 he188548 dr_cX17_rename_102 (gk_X15 D I) (Nat.le_of_ble_eq_true rfl) wr_9_190 rfl ?_
                      refine G_iload_n 5 dr_cX17_rename_105 rfl ?_
                      refine G_icmp_ne 115 dr_cX17_rename_106 (by decide +kernel) (fun hc188588 => ?_) (fun hc188588 => ?_)
                      · have r188589 : p188306.toInt ≠ p165177.toInt := gC_ne hc188588
                        refine G_aload 0 dr_cX17_rename_115 rfl ?_
                        refine Gw_callV (As := []) (gV_ok D I) (cp_1654_Row_sets l hl0 D I P165174 F188539 q188291 p188303 p188304 p165178 p188306 p188307 p188308 p188309 hm188301 he188548 bp188303 bp188304 bp188307 bp188308 bp188309) dr_cX17_rename_117 ⟨wr_10_181, wr_1_39, wr_10_184, by decide, rfl, (Nat.le_of_ble_eq_true rfl), (Nat.le_of_ble_eq_true rfl)⟩ wr_10_182 wr_10_183 hm188301 he188548 rfl (show 0 + 0 ≤ 0 by first | omega | decide) (show 0 + 0 ≤ 0 by first | omega | decide) (Nat.le_of_ble_eq_true rfl) (fun r188593 w188594 dc188590 ds188591 hp188592 => ?_) (fun _ _ _ _ _ z => z.elim)
                        obtain ⟨o188595, rfl, rfl, hdc, hds, bo188595⟩ := hp188592
                        change G _ _ _ _ _ _ _ (.int o188595 :: _) _ _ _
                        refine G_widen (cs' := 0) (sl' := 0) (by omega) (by omega) ?_
                        refine G_if_eq 138 dr_cX17_rename_120 (by decide +kernel) (fun hc188596 => ?_) (fun hc188596 => ?_)
                        · have r188597 : o188595.toInt = 0 := gj_eq hc188596 (show Int32.toInt 0 = 0 by decide)
                          have bo188595' : gB o188595 0 0 := ⟨by omega, by omega⟩
                          obtain ⟨z188598, hz188598⟩ : ∃ z : Int32, z = g187899 + Int32.ofInt 1 := ⟨_, rfl⟩
                          have ez188598 : z188598.toInt = g187899.toInt + 1 := gI_inc hz188598 (by decide) bg187899'' (by decide) (by decide)
                          have bz188598 : gB z188598 1 1000000 := ⟨by omega, by omega⟩
                          refine G_iinc (L' := [(5, .int z188598), (6, .ref q188291), (4, .ref q187115), (3, .int g187057), (0, .ref q165176), (1, .int p165177), (2, .int p165178)]) z188598 1 dr_cX17_rename_138 rfl hz188598.symm (Nat.le_of_ble_eq_true rfl) rfl ?_
                          refine G_goto 20 dr_cX17_rename_141 (by decide +kernel) ?_
                          refine G_lv (L' := [(5, .int z188598), (4, .ref q187115), (3, .int g187057), (0, .ref q165176), (1, .int p165177), (2, .int p165178)]) [0, 2, 3, 4, 5, 6] rfl ?_
                          exact ih20_187902 F188539 z188598 (gB_w bz188598 (by decide) (by decide)) hT188550 hs188549 (by omega)
                        · have r188599 : o188595.toInt ≠ 0 := gj_neq hc188596 (show Int32.toInt 0 = 0 by decide)
                          have bo188595' : gB o188595 1 1 := ⟨by omega, by omega⟩
                          refine G_aload 0 dr_cX17_rename_123 rfl ?_
                          refine Gp_get 1 hm188301 he188548 dr_cX17_rename_125 (gk_X15 D I) (Nat.le_of_ble_eq_true rfl) wr_9_182 rfl ?_
                          refine G_iload_n 5 dr_cX17_rename_128 rfl ?_
                          refine G_icmp_ne 138 dr_cX17_rename_129 (by decide +kernel) (fun hc188600 => ?_) (fun hc188600 => ?_)
                          · have r188601 : p188304.toInt ≠ p165177.toInt := gC_ne hc188600
                            obtain ⟨z188602, hz188602⟩ : ∃ z : Int32, z = g187899 + Int32.ofInt 1 := ⟨_, rfl⟩
                            have ez188602 : z188602.toInt = g187899.toInt + 1 := gI_inc hz188602 (by decide) bg187899'' (by decide) (by decide)
                            have bz188602 : gB z188602 1 1000000 := ⟨by omega, by omega⟩
                            refine G_iinc (L' := [(5, .int z188602), (6, .ref q188291), (4, .ref q187115), (3, .int g187057), (0, .ref q165176), (1, .int p165177), (2, .int p165178)]) z188602 1 dr_cX17_rename_138 rfl hz188602.symm (Nat.le_of_ble_eq_true rfl) rfl ?_
                            refine G_goto 20 dr_cX17_rename_141 (by decide +kernel) ?_
                            refine G_lv (L' := [(5, .int z188602), (4, .ref q187115), (3, .int g187057), (0, .ref q165176), (1, .int p165177), (2, .int p165178)]) [0, 2, 3, 4, 5, 6] rfl ?_
                            exact ih20_187902 F188539 z188602 (gB_w bz188602 (by decide) (by decide)) hT188550 hs188549 (by omega)
                          · have r188603 : p188304.toInt = p165177.toInt := gC_eq hc188600
                            refine G_aload 0 dr_cX17_rename_132 rfl ?_
                            refine G_iload_n 6 dr_cX17_rename_134 rfl ?_
                            refine Gp_put 1 hm188301 he188548 dr_cX17_rename_135 (gk_X15 D I) (Nat.le_of_ble_eq_true rfl) wr_9_182 rfl rfl rfl (Nat.le_of_ble_eq_true rfl) (fun F188604 e188605 n188606 => ?_)
                            have he188607 : F188604 q165176 = .inr (18, [.ref q187066, .ref q187067, .int p187068, .int p187069]) := (n188606 q165176 (rn_oo he188542 he188548 (by decide))).trans he188542
                            have he188608 : F188604 q187066 = .inr (4, [.int p187096, .ref q187098, .int p187097]) := (n188606 q187066 (rn_oo he188543 he188548 (by decide))).trans he188543
                            have he188609 : F188604 q187098 = .inl (I (.object "java/lang/Object"), n187112, .inr (.inr (.inr (.inr f187113)))) := (n188606 q187098 (rn_ao he188544 he188548)).trans he188544
                            have he188610 : F188604 q187115 = .inr (17, [.ref q187124, .ref q187125, .int p187126, .int p187127]) := (n188606 q187115 (rn_oo he188545 he188548 (by decide))).trans he188545
                            have he188611 : F188604 q187124 = .inr (4, [.int p187912, .ref q187914, .int p187913]) := (n188606 q187124 (rn_oo he188546 he188548 (by decide))).trans he188546
                            have he188612 : F188604 q187914 = .inl (I (.object "java/lang/Object"), n188288, .inr (.inr (.inr (.inr f188289)))) := (n188606 q187914 (rn_ao he188547 he188548)).trans he188547
                            have he188613 : F188604 q188291 = .inr (20, [.int p188303, .int p165178, .int p165178, .int p188306, .int p188307, .int p188308, .int p188309]) := e188605
                            have hs188614 : rStr γ [1] F165175 F188604 := rStr_pu2 hs188549 n188606 ht188294 (by decide)
                            obtain ⟨z188615, hz188615⟩ : ∃ z : Int32, z = g187899 + Int32.ofInt 1 := ⟨_, rfl⟩
                            have ez188615 : z188615.toInt = g187899.toInt + 1 := gI_inc hz188615 (by decide) bg187899'' (by decide) (by decide)
                            have bz188615 : gB z188615 1 1000000 := ⟨by omega, by omega⟩
                            refine G_iinc (L' := [(5, .int z188615), (6, .ref q188291), (4, .ref q187115), (3, .int g187057), (0, .ref q165176), (1, .int p165177), (2, .int p165178)]) z188615 1 dr_cX17_rename_138 rfl hz188615.symm (Nat.le_of_ble_eq_true rfl) rfl ?_
                            refine G_goto 20 dr_cX17_rename_141 (by decide +kernel) ?_
                            have hT188616 : RS D I P165174 F188604 γ el := RS_set hT188550 n188606 ht188294 (by decide) ⟨p188303, p165178, p165178, p188306, p188307, p188308, p188309, he188613, bp188303, bp165178, bp188307, bp188308, bp188309, (by omega), (by omega), (by omega), (by omega)⟩
                            refine G_lv (L' := [(5, .int z188615), (4, .ref q187115), (3, .int g187057), (0, .ref q165176), (1, .int p165177), (2, .int p165178)]) [0, 2, 3, 4, 5, 6] rfl ?_
                            exact ih20_187902 F188604 z188615 (gB_w bz188615 (by decide) (by decide)) hT188616 hs188614 (by omega)
                      · have r188617 : p188306.toInt = p165177.toInt := gC_eq hc188588
                        have bp188306' : gB p188306 0 1999 := ⟨by omega, by omega⟩
                        refine G_aload 0 dr_cX17_rename_109 rfl ?_
                        refine G_iload_n 6 dr_cX17_rename_111 rfl ?_
                        refine Gp_put 3 hm188301 he188548 dr_cX17_rename_112 (gk_X15 D I) (Nat.le_of_ble_eq_true rfl) wr_9_190 rfl rfl rfl (Nat.le_of_ble_eq_true rfl) (fun F188618 e188619 n188620 => ?_)
                        have he188621 : F188618 q165176 = .inr (18, [.ref q187066, .ref q187067, .int p187068, .int p187069]) := (n188620 q165176 (rn_oo he188542 he188548 (by decide))).trans he188542
                        have he188622 : F188618 q187066 = .inr (4, [.int p187096, .ref q187098, .int p187097]) := (n188620 q187066 (rn_oo he188543 he188548 (by decide))).trans he188543
                        have he188623 : F188618 q187098 = .inl (I (.object "java/lang/Object"), n187112, .inr (.inr (.inr (.inr f187113)))) := (n188620 q187098 (rn_ao he188544 he188548)).trans he188544
                        have he188624 : F188618 q187115 = .inr (17, [.ref q187124, .ref q187125, .int p187126, .int p187127]) := (n188620 q187115 (rn_oo he188545 he188548 (by decide))).trans he188545
                        have he188625 : F188618 q187124 = .inr (4, [.int p187912, .ref q187914, .int p187913]) := (n188620 q187124 (rn_oo he188546 he188548 (by decide))).trans he188546
                        have he188626 : F188618 q187914 = .inl (I (.object "java/lang/Object"), n188288, .inr (.inr (.inr (.inr f188289)))) := (n188620 q187914 (rn_ao he188547 he188548)).trans he188547
                        have he188627 : F188618 q188291 = .inr (20, [.int p188303, .int p188304, .int p165178, .int p165178, .int p188307, .int p188308, .int p188309]) := e188619
                        have hs188628 : rStr γ [1] F165175 F188618 := rStr_pu2 hs188549 n188620 ht188294 (by decide)
                        refine G_aload 0 dr_cX17_rename_115 rfl ?_
                        have hT188629 : RS D I P165174 F188618 γ el := RS_set hT188550 n188620 ht188294 (by decide) ⟨p188303, p188304, p165178, p165178, p188307, p188308, p188309, he188627, bp188303, bp188304, bp188307, bp188308, bp188309, (by omega), (by omega), (by omega), (by omega)⟩
                        refine Gw_callV (As := []) (gV_ok D I) (cp_1654_Row_sets l hl0 D I P165174 F188618 q188291 p188303 p188304 p165178 p165178 p188307 p188308 p188309 hm188301 he188627 bp188303 bp188304 bp188307 bp188308 bp188309) dr_cX17_rename_117 ⟨wr_10_181, wr_1_39, wr_10_184, by decide, rfl, (Nat.le_of_ble_eq_true rfl), (Nat.le_of_ble_eq_true rfl)⟩ wr_10_182 wr_10_183 hm188301 he188627 rfl (show 0 + 0 ≤ 0 by first | omega | decide) (show 0 + 0 ≤ 0 by first | omega | decide) (Nat.le_of_ble_eq_true rfl) (fun r188633 w188634 dc188630 ds188631 hp188632 => ?_) (fun _ _ _ _ _ z => z.elim)
                        obtain ⟨o188635, rfl, rfl, hdc, hds, bo188635⟩ := hp188632
                        change G _ _ _ _ _ _ _ (.int o188635 :: _) _ _ _
                        refine G_widen (cs' := 0) (sl' := 0) (by omega) (by omega) ?_
                        refine G_if_eq 138 dr_cX17_rename_120 (by decide +kernel) (fun hc188636 => ?_) (fun hc188636 => ?_)
                        · have r188637 : o188635.toInt = 0 := gj_eq hc188636 (show Int32.toInt 0 = 0 by decide)
                          have bo188635' : gB o188635 0 0 := ⟨by omega, by omega⟩
                          obtain ⟨z188638, hz188638⟩ : ∃ z : Int32, z = g187899 + Int32.ofInt 1 := ⟨_, rfl⟩
                          have ez188638 : z188638.toInt = g187899.toInt + 1 := gI_inc hz188638 (by decide) bg187899'' (by decide) (by decide)
                          have bz188638 : gB z188638 1 1000000 := ⟨by omega, by omega⟩
                          refine G_iinc (L' := [(5, .int z188638), (6, .ref q188291), (4, .ref q187115), (3, .int g187057), (0, .ref q165176), (1, .int p165177), (2, .int p165178)]) z188638 1 dr_cX17_rename_138 rfl hz188638.symm (Nat.le_of_ble_eq_true rfl) rfl ?_
                          refine G_goto 20 dr_cX17_rename_141 (by decide +kernel) ?_
                          refine G_lv (L' := [(5, .int z188638), (4, .ref q187115), (3, .int g187057), (0, .ref q165176), (1, .int p165177), (2, .int p165178)]) [0, 2, 3, 4, 5, 6] rfl ?_
                          exact ih20_187902 F188618 z188638 (gB_w bz188638 (by decide) (by decide)) hT188629 hs188628 (by omega)
                        · have r188639 : o188635.toInt ≠ 0 := gj_neq hc188636 (show Int32.toInt 0 = 0 by decide)
                          have bo188635' : gB o188635 1 1 := ⟨by omega, by omega⟩
                          refine G_aload 0 dr_cX17_rename_123 rfl ?_
                          refine Gp_get 1 hm188301 he188627 dr_cX17_rename_125 (gk_X15 D I) (Nat.le_of_ble_eq_true rfl) wr_9_182 rfl ?_
                          refine G_iload_n 5 dr_cX17_rename_128 rfl ?_
                          refine G_icmp_ne 138 dr_cX17_rename_129 (by decide +kernel) (fun hc188640 => ?_) (fun hc188640 => ?_)
                          · have r188641 : p188304.toInt ≠ p165177.toInt := gC_ne hc188640
                            obtain ⟨z188642, hz188642⟩ : ∃ z : Int32, z = g187899 + Int32.ofInt 1 := ⟨_, rfl⟩
                            have ez188642 : z188642.toInt = g187899.toInt + 1 := gI_inc hz188642 (by decide) bg187899'' (by decide) (by decide)
                            have bz188642 : gB z188642 1 1000000 := ⟨by omega, by omega⟩
                            refine G_iinc (L' := [(5, .int z188642), (6, .ref q188291), (4, .ref q187115), (3, .int g187057), (0, .ref q165176), (1, .int p165177), (2, .int p165178)]) z188642 1 dr_cX17_rename_138 rfl hz188642.symm (Nat.le_of_ble_eq_true rfl) rfl ?_
                            refine G_goto 20 dr_cX17_rename_141 (by decide +kernel) ?_
                            refine G_lv (L' := [(5, .int z188642), (4, .ref q187115), (3, .int g187057), (0, .ref q165176), (1, .int p165177), (2, .int p165178)]) [0, 2, 3, 4, 5, 6] rfl ?_
                            exact ih20_187902 F188618 z188642 (gB_w bz188642 (by decide) (by decide)) hT188629 hs188628 (by omega)
                          · have r188643 : p188304.toInt = p165177.toInt := gC_eq hc188640
                            refine G_aload 0 dr_cX17_rename_132 rfl ?_
                            refine G_iload_n 6 dr_cX17_rename_134 rfl ?_
                            refine Gp_put 1 hm188301 he188627 dr_cX17_rename_135 (gk_X15 D I) (Nat.le_of_ble_eq_true rfl) wr_9_182 rfl rfl rfl (Nat.le_of_ble_eq_true rfl) (fun F188644 e188645 n188646 => ?_)
                            have he188647 : F188644 q165176 = .inr (18, [.ref q187066, .ref q187067, .int p187068, .int p187069]) := (n188646 q165176 (rn_oo he188621 he188627 (by decide))).trans he188621
                            have he188648 : F188644 q187066 = .inr (4, [.int p187096, .ref q187098, .int p187097]) := (n188646 q187066 (rn_oo he188622 he188627 (by decide))).trans he188622
                            have he188649 : F188644 q187098 = .inl (I (.object "java/lang/Object"), n187112, .inr (.inr (.inr (.inr f187113)))) := (n188646 q187098 (rn_ao he188623 he188627)).trans he188623
                            have he188650 : F188644 q187115 = .inr (17, [.ref q187124, .ref q187125, .int p187126, .int p187127]) := (n188646 q187115 (rn_oo he188624 he188627 (by decide))).trans he188624
                            have he188651 : F188644 q187124 = .inr (4, [.int p187912, .ref q187914, .int p187913]) := (n188646 q187124 (rn_oo he188625 he188627 (by decide))).trans he188625
                            have he188652 : F188644 q187914 = .inl (I (.object "java/lang/Object"), n188288, .inr (.inr (.inr (.inr f188289)))) := (n188646 q187914 (rn_ao he188626 he188627)).trans he188626
                            have he188653 : F188644 q188291 = .inr (20, [.int p188303, .int p165178, .int p165178, .int p165178, .int p188307, .int p188308, .int p188309]) := e188645
                            have hs188654 : rStr γ [1] F165175 F188644 := rStr_pu2 hs188628 n188646 ht188294 (by decide)
                            obtain ⟨z188655, hz188655⟩ : ∃ z : Int32, z = g187899 + Int32.ofInt 1 := ⟨_, rfl⟩
                            have ez188655 : z188655.toInt = g187899.toInt + 1 := gI_inc hz188655 (by decide) bg187899'' (by decide) (by decide)
                            have bz188655 : gB z188655 1 1000000 := ⟨by omega, by omega⟩
                            refine G_iinc (L' := [(5, .int z188655), (6, .ref q188291), (4, .ref q187115), (3, .int g187057), (0, .ref q165176), (1, .int p165177), (2, .int p165178)]) z188655 1 dr_cX17_rename_138 rfl hz188655.symm (Nat.le_of_ble_eq_true rfl) rfl ?_
                            refine G_goto 20 dr_cX17_rename_141 (by decide +kernel) ?_
                            have hT188656 : RS D I P165174 F188644 γ el := RS_set hT188629 n188646 ht188294 (by decide) ⟨p188303, p165178, p165178, p165178, p188307, p188308, p188309, he188653, bp188303, bp165178, bp188307, bp188308, bp188309, (by omega), (by omega), (by omega), (by omega)⟩
                            refine G_lv (L' := [(5, .int z188655), (4, .ref q187115), (3, .int g187057), (0, .ref q165176), (1, .int p165177), (2, .int p165178)]) [0, 2, 3, 4, 5, 6] rfl ?_
                            exact ih20_187902 F188644 z188655 (gB_w bz188655 (by decide) (by decide)) hT188656 hs188654 (by omega)
        exact hlp20_187902 (((1000002 : Int) - 0).toNat + 1) F187058 0 (gB_w (gBl (show Int32.toInt 0 = 0 by decide)) (by decide) (by decide)) hT187059 hs187060 (Nat.lt_succ_self _)
  exact hlp2_187060 (((1000001 : Int) - 0).toNat + 1) F165175 0 (gB_w (gBl (show Int32.toInt 0 = 0 by decide)) (by decide) (by decide)) hT (rStr_rf (γ := γ) (W := [1]) (F := F165175)) (Nat.lt_succ_self _)
