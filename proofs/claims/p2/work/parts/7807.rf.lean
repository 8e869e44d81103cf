theorem dr_cX17_run_0 : decode cX17_run 0 = .ok (.iconst 0, 1) := by decide +kernel
theorem dr_cX17_run_1 : decode cX17_run 1 = .ok (.istore_n 3, 1) := by decide +kernel
theorem dr_cX17_run_2 : decode cX17_run 2 = .ok (.iload_n 3, 1) := by decide +kernel
theorem dr_cX17_run_3 : decode cX17_run 3 = .ok (.sipush 2000, 3) := by decide +kernel
theorem dr_cX17_run_6 : decode cX17_run 6 = .ok (.if_icmp .ge 23, 3) := by decide +kernel
theorem dr_cX17_run_29 : decode cX17_run 29 = .ok (.aload_n 0, 1) := by decide +kernel
theorem dr_cX17_run_30 : decode cX17_run 30 = .ok (.iconst 0, 1) := by decide +kernel
theorem dr_cX17_run_31 : decode cX17_run 31 = .ok (.putfield 277, 3) := by decide +kernel
theorem dr_cX17_run_34 : decode cX17_run 34 = .ok (.aload_n 0, 1) := by decide +kernel
theorem dr_cX17_run_35 : decode cX17_run 35 = .ok (.iconst 0, 1) := by decide +kernel
theorem dr_cX17_run_36 : decode cX17_run 36 = .ok (.putfield 280, 3) := by decide +kernel
theorem dr_cX17_run_39 : decode cX17_run 39 = .ok (.aload_n 0, 1) := by decide +kernel
theorem dr_cX17_run_40 : decode cX17_run 40 = .ok (.iconst 0, 1) := by decide +kernel
theorem dr_cX17_run_41 : decode cX17_run 41 = .ok (.putfield 283, 3) := by decide +kernel
theorem dr_cX17_run_44 : decode cX17_run 44 = .ok (.aload_n 0, 1) := by decide +kernel
theorem dr_cX17_run_45 : decode cX17_run 45 = .ok (.iconst 0, 1) := by decide +kernel
theorem dr_cX17_run_46 : decode cX17_run 46 = .ok (.putfield 286, 3) := by decide +kernel
theorem dr_cX17_run_49 : decode cX17_run 49 = .ok (.iconst 0, 1) := by decide +kernel
theorem dr_cX17_run_50 : decode cX17_run 50 = .ok (.istore_n 3, 1) := by decide +kernel
theorem dr_cX17_run_51 : decode cX17_run 51 = .ok (.iconst 0, 1) := by decide +kernel
theorem dr_cX17_run_52 : decode cX17_run 52 = .ok (.istore 4, 2) := by decide +kernel
theorem dr_cX17_run_54 : decode cX17_run 54 = .ok (.aload_n 1, 1) := by decide +kernel
theorem dr_cX17_run_55 : decode cX17_run 55 = .ok (.iload_n 3, 1) := by decide +kernel
theorem dr_cX17_run_56 : decode cX17_run 56 = .ok (.invokevirtual 101, 3) := by decide +kernel
theorem dr_cX17_run_59 : decode cX17_run 59 = .ok (.astore 5, 2) := by decide +kernel
theorem dr_cX17_run_61 : decode cX17_run 61 = .ok (.aload_n 0, 1) := by decide +kernel
theorem dr_cX17_run_62 : decode cX17_run 62 = .ok (.getfield 283, 3) := by decide +kernel
theorem dr_cX17_run_65 : decode cX17_run 65 = .ok (.iload_n 2, 1) := by decide +kernel
theorem dr_cX17_run_66 : decode cX17_run 66 = .ok (.if_icmp .ne 5, 3) := by decide +kernel
theorem dr_cX17_run_71 : decode cX17_run 71 = .ok (.aload_n 0, 1) := by decide +kernel
theorem dr_cX17_run_72 : decode cX17_run 72 = .ok (.dup, 1) := by decide +kernel
theorem dr_cX17_run_73 : decode cX17_run 73 = .ok (.getfield 283, 3) := by decide +kernel
theorem dr_cX17_run_76 : decode cX17_run 76 = .ok (.iconst 1, 1) := by decide +kernel
theorem dr_cX17_run_77 : decode cX17_run 77 = .ok (.iadd, 1) := by decide +kernel
theorem dr_cX17_run_78 : decode cX17_run 78 = .ok (.putfield 283, 3) := by decide +kernel
theorem dr_cX17_run_81 : decode cX17_run 81 = .ok (.iload 4, 2) := by decide +kernel
theorem dr_cX17_run_83 : decode cX17_run 83 = .ok (.aload 5, 2) := by decide +kernel
theorem dr_cX17_run_85 : decode cX17_run 85 = .ok (.getfield 117, 3) := by decide +kernel
theorem wr_9_220 : (Jvm.Cond.fieldLink "SpillForgeModel" (117 : Nat) "SpillForgeModel$Block" "rows" "Ljava/util/ArrayList;") ∈ gw := gw_9 220 rfl rfl
theorem dr_cX17_run_88 : decode cX17_run 88 = .ok (.invokevirtual 121, 3) := by decide +kernel
theorem wr_10_200 : (Jvm.Cond.methodLink "SpillForgeModel" (121 : Nat) ({ cls := "java/util/ArrayList", name := "size", desc := "()I" } : Jvm.MethodName)) ∈ gw := gw_10 200 rfl rfl
theorem dr_cX17_run_91 : decode cX17_run 91 = .ok (.if_icmp .ge 36, 3) := by decide +kernel
theorem dr_cX17_run_127 : decode cX17_run 127 = .ok (.aload 5, 2) := by decide +kernel
theorem dr_cX17_run_129 : decode cX17_run 129 = .ok (.getfield 109, 3) := by decide +kernel
theorem wr_9_223 : (Jvm.Cond.fieldLink "SpillForgeModel" (109 : Nat) "SpillForgeModel$Block" "end" "LSpillForgeModel$Row;") ∈ gw := gw_9 223 rfl rfl
theorem dr_cX17_run_132 : decode cX17_run 132 = .ok (.astore 6, 2) := by decide +kernel
theorem dr_cX17_run_134 : decode cX17_run 134 = .ok (.aload 6, 2) := by decide +kernel
theorem dr_cX17_run_136 : decode cX17_run 136 = .ok (.getfield 39, 3) := by decide +kernel
theorem dr_cX17_run_139 : decode cX17_run 139 = .ok (.bipush 32, 2) := by decide +kernel
theorem dr_cX17_run_141 : decode cX17_run 141 = .ok (.if_icmp .ne 23, 3) := by decide +kernel
theorem dr_cX17_run_164 : decode cX17_run 164 = .ok (.aload 6, 2) := by decide +kernel
theorem dr_cX17_run_166 : decode cX17_run 166 = .ok (.getfield 39, 3) := by decide +kernel
theorem dr_cX17_run_169 : decode cX17_run 169 = .ok (.bipush 30, 2) := by decide +kernel
theorem dr_cX17_run_171 : decode cX17_run 171 = .ok (.if_icmp .eq 20, 3) := by decide +kernel
theorem dr_cX17_run_191 : decode cX17_run 191 = .ok (.aload 5, 2) := by decide +kernel
theorem dr_cX17_run_193 : decode cX17_run 193 = .ok (.getfield 297, 3) := by decide +kernel
theorem wr_9_229 : (Jvm.Cond.fieldLink "SpillForgeModel" (297 : Nat) "SpillForgeModel$Block" "first" "I") ∈ gw := gw_9 229 rfl rfl
theorem dr_cX17_run_196 : decode cX17_run 196 = .ok (.goto 8, 3) := by decide +kernel
theorem dr_cX17_run_204 : decode cX17_run 204 = .ok (.istore_n 3, 1) := by decide +kernel
theorem dr_cX17_run_205 : decode cX17_run 205 = .ok (.iconst 0, 1) := by decide +kernel
theorem dr_cX17_run_206 : decode cX17_run 206 = .ok (.istore 4, 2) := by decide +kernel
theorem dr_cX17_run_208 : decode cX17_run 208 = .ok (.goto (-154), 3) := by decide +kernel
theorem dr_cX17_run_174 : decode cX17_run 174 = .ok (.aload_n 0, 1) := by decide +kernel
theorem dr_cX17_run_175 : decode cX17_run 175 = .ok (.aload 6, 2) := by decide +kernel
theorem dr_cX17_run_177 : decode cX17_run 177 = .ok (.getfield 141, 3) := by decide +kernel
theorem dr_cX17_run_180 : decode cX17_run 180 = .ok (.aload 6, 2) := by decide +kernel
theorem dr_cX17_run_182 : decode cX17_run 182 = .ok (.getfield 73, 3) := by decide +kernel
theorem dr_cX17_run_185 : decode cX17_run 185 = .ok (.invokevirtual 293, 3) := by decide +kernel
theorem dr_cX17_run_188 : decode cX17_run 188 = .ok (.ifCond .eq 11, 3) := by decide +kernel
theorem dr_cX17_run_199 : decode cX17_run 199 = .ok (.aload 5, 2) := by decide +kernel
theorem dr_cX17_run_201 : decode cX17_run 201 = .ok (.getfield 300, 3) := by decide +kernel
theorem wr_9_233 : (Jvm.Cond.fieldLink "SpillForgeModel" (300 : Nat) "SpillForgeModel$Block" "second" "I") ∈ gw := gw_9 233 rfl rfl
theorem dr_cX17_run_144 : decode cX17_run 144 = .ok (.aload_n 0, 1) := by decide +kernel
theorem dr_cX17_run_145 : decode cX17_run 145 = .ok (.aload_n 0, 1) := by decide +kernel
theorem dr_cX17_run_146 : decode cX17_run 146 = .ok (.aload 6, 2) := by decide +kernel
theorem dr_cX17_run_148 : decode cX17_run 148 = .ok (.getfield 141, 3) := by decide +kernel
theorem dr_cX17_run_151 : decode cX17_run 151 = .ok (.aload 6, 2) := by decide +kernel
theorem dr_cX17_run_153 : decode cX17_run 153 = .ok (.getfield 73, 3) := by decide +kernel
theorem dr_cX17_run_156 : decode cX17_run 156 = .ok (.invokevirtual 293, 3) := by decide +kernel
theorem dr_cX17_run_159 : decode cX17_run 159 = .ok (.putfield 277, 3) := by decide +kernel
theorem dr_cX17_run_162 : decode cX17_run 162 = .ok (.iconst 0, 1) := by decide +kernel
theorem dr_cX17_run_163 : decode cX17_run 163 = .ok (.ireturn, 1) := by decide +kernel
theorem dr_cX17_run_94 : decode cX17_run 94 = .ok (.aload_n 0, 1) := by decide +kernel
theorem dr_cX17_run_95 : decode cX17_run 95 = .ok (.aload 5, 2) := by decide +kernel
theorem dr_cX17_run_97 : decode cX17_run 97 = .ok (.getfield 117, 3) := by decide +kernel
theorem dr_cX17_run_100 : decode cX17_run 100 = .ok (.iload 4, 2) := by decide +kernel
theorem dr_cX17_run_102 : decode cX17_run 102 = .ok (.invokevirtual 124, 3) := by decide +kernel
theorem wr_10_201 : (Jvm.Cond.methodLink "SpillForgeModel" (124 : Nat) ({ cls := "java/util/ArrayList", name := "get", desc := "(I)Ljava/lang/Object;" } : Jvm.MethodName)) ∈ gw := gw_10 201 rfl rfl
theorem dr_cX17_run_105 : decode cX17_run 105 = .ok (.checkcast 40, 3) := by decide +kernel
theorem wr_10_202 : (Jvm.Cond.classLink "SpillForgeModel" (40 : Nat) "SpillForgeModel$Row") ∈ gw := gw_10 202 rfl rfl
theorem dr_cX17_run_108 : decode cX17_run 108 = .ok (.invokevirtual 289, 3) := by decide +kernel
theorem wr_11_96 : (Jvm.Cond.methodLink "SpillForgeModel" (289 : Nat) ({ cls := "SpillForgeModel", name := "step", desc := "(LSpillForgeModel$Row;)I" } : Jvm.MethodName)) ∈ gw := gw_11 96 rfl rfl
theorem wr_11_99 : (Jvm.Cond.code ({ cls := "SpillForgeModel", name := "step", desc := "(LSpillForgeModel$Row;)I" } : Jvm.MethodName) prog_14_method_30_code (4 : Nat) (Option.some Jvm.ClassFile.FieldType.int)) ∈ gw := gw_11 99 rfl rfl
theorem wr_11_98 : (Jvm.Cond.instanceMethod ({ cls := "SpillForgeModel", name := "step", desc := "(LSpillForgeModel$Row;)I" } : Jvm.MethodName)) ∈ gw := gw_11 98 rfl rfl
theorem wr_p_114 : Cond.selects "SpillForgeModel" ⟨"SpillForgeModel", "step", "(LSpillForgeModel$Row;)I"⟩ ⟨"SpillForgeModel", "step", "(LSpillForgeModel$Row;)I"⟩ ∈ gw := gw_p _ 114 rfl rfl rfl
theorem dr_cX17_run_111 : decode cX17_run 111 = .ok (.istore 6, 2) := by decide +kernel
theorem dr_cX17_run_113 : decode cX17_run 113 = .ok (.iload 6, 2) := by decide +kernel
theorem dr_cX17_run_115 : decode cX17_run 115 = .ok (.ifCond .lt 6, 3) := by decide +kernel
theorem dr_cX17_run_121 : decode cX17_run 121 = .ok (.iinc 4 1, 3) := by decide +kernel
theorem dr_cX17_run_124 : decode cX17_run 124 = .ok (.goto (-70), 3) := by decide +kernel
theorem dr_cX17_run_118 : decode cX17_run 118 = .ok (.iload 6, 2) := by decide +kernel
theorem dr_cX17_run_120 : decode cX17_run 120 = .ok (.ireturn, 1) := by decide +kernel
theorem dr_cX17_run_69 : decode cX17_run 69 = .ok (.iconst 4, 1) := by decide +kernel
theorem dr_cX17_run_70 : decode cX17_run 70 = .ok (.ireturn, 1) := by decide +kernel
theorem dr_cX17_run_9 : decode cX17_run 9 = .ok (.aload_n 0, 1) := by decide +kernel
theorem dr_cX17_run_10 : decode cX17_run 10 = .ok (.getfield 271, 3) := by decide +kernel
theorem dr_cX17_run_13 : decode cX17_run 13 = .ok (.iload_n 3, 1) := by decide +kernel
theorem dr_cX17_run_14 : decode cX17_run 14 = .ok (.iconst 0, 1) := by decide +kernel
theorem dr_cX17_run_15 : decode cX17_run 15 = .ok (.iastore, 1) := by decide +kernel
theorem dr_cX17_run_16 : decode cX17_run 16 = .ok (.aload_n 0, 1) := by decide +kernel
theorem dr_cX17_run_17 : decode cX17_run 17 = .ok (.getfield 274, 3) := by decide +kernel
theorem dr_cX17_run_20 : decode cX17_run 20 = .ok (.iload_n 3, 1) := by decide +kernel
theorem dr_cX17_run_21 : decode cX17_run 21 = .ok (.iconst 0, 1) := by decide +kernel
theorem dr_cX17_run_22 : decode cX17_run 22 = .ok (.iastore, 1) := by decide +kernel
theorem dr_cX17_run_23 : decode cX17_run 23 = .ok (.iinc 3 1, 3) := by decide +kernel
theorem dr_cX17_run_26 : decode cX17_run 26 = .ok (.goto (-24), 3) := by decide +kernel
theorem dr_cX17_rename_0 : decode cX17_rename 0 = .ok (.iconst 0, 1) := by decide +kernel
theorem dr_cX17_rename_1 : decode cX17_rename 1 = .ok (.istore_n 3, 1) := by decide +kernel
theorem dr_cX17_rename_2 : decode cX17_rename 2 = .ok (.iload_n 3, 1) := by decide +kernel
theorem dr_cX17_rename_3 : decode cX17_rename 3 = .ok (.aload_n 0, 1) := by decide +kernel
theorem dr_cX17_rename_4 : decode cX17_rename 4 = .ok (.invokevirtual 96, 3) := by decide +kernel
theorem dr_cX17_rename_7 : decode cX17_rename 7 = .ok (.if_icmp .ge 143, 3) := by decide +kernel
theorem dr_cX17_rename_150 : decode cX17_rename 150 = .ok (.return_, 1) := by decide +kernel
theorem dr_cX17_rename_10 : decode cX17_rename 10 = .ok (.aload_n 0, 1) := by decide +kernel
theorem dr_cX17_rename_11 : decode cX17_rename 11 = .ok (.iload_n 3, 1) := by decide +kernel
theorem dr_cX17_rename_12 : decode cX17_rename 12 = .ok (.invokevirtual 101, 3) := by decide +kernel
theorem dr_cX17_rename_15 : decode cX17_rename 15 = .ok (.astore 4, 2) := by decide +kernel
theorem dr_cX17_rename_17 : decode cX17_rename 17 = .ok (.iconst 0, 1) := by decide +kernel
theorem dr_cX17_rename_18 : decode cX17_rename 18 = .ok (.istore 5, 2) := by decide +kernel
theorem dr_cX17_rename_20 : decode cX17_rename 20 = .ok (.iload 5, 2) := by decide +kernel
theorem dr_cX17_rename_22 : decode cX17_rename 22 = .ok (.aload 4, 2) := by decide +kernel
theorem dr_cX17_rename_24 : decode cX17_rename 24 = .ok (.getfield 117, 3) := by decide +kernel
theorem dr_cX17_rename_27 : decode cX17_rename 27 = .ok (.invokevirtual 121, 3) := by decide +kernel
theorem dr_cX17_rename_30 : decode cX17_rename 30 = .ok (.if_icmp .gt 114, 3) := by decide +kernel
theorem dr_cX17_rename_144 : decode cX17_rename 144 = .ok (.iinc 3 1, 3) := by decide +kernel
theorem dr_cX17_rename_147 : decode cX17_rename 147 = .ok (.goto (-145), 3) := by decide +kernel
theorem dr_cX17_rename_33 : decode cX17_rename 33 = .ok (.iload 5, 2) := by decide +kernel
theorem dr_cX17_rename_35 : decode cX17_rename 35 = .ok (.aload 4, 2) := by decide +kernel
theorem dr_cX17_rename_37 : decode cX17_rename 37 = .ok (.getfield 117, 3) := by decide +kernel
theorem dr_cX17_rename_40 : decode cX17_rename 40 = .ok (.invokevirtual 121, 3) := by decide +kernel
theorem dr_cX17_rename_43 : decode cX17_rename 43 = .ok (.if_icmp .ge 19, 3) := by decide +kernel
theorem dr_cX17_rename_62 : decode cX17_rename 62 = .ok (.aload 4, 2) := by decide +kernel
theorem dr_cX17_rename_64 : decode cX17_rename 64 = .ok (.getfield 109, 3) := by decide +kernel
theorem dr_cX17_rename_67 : decode cX17_rename 67 = .ok (.astore 6, 2) := by decide +kernel
theorem dr_cX17_rename_69 : decode cX17_rename 69 = .ok (.aload 6, 2) := by decide +kernel
theorem dr_cX17_rename_71 : decode cX17_rename 71 = .ok (.invokevirtual 70, 3) := by decide +kernel
theorem dr_cX17_rename_74 : decode cX17_rename 74 = .ok (.ifCond .eq 18, 3) := by decide +kernel
theorem dr_cX17_rename_92 : decode cX17_rename 92 = .ok (.aload 6, 2) := by decide +kernel
theorem dr_cX17_rename_94 : decode cX17_rename 94 = .ok (.invokevirtual 76, 3) := by decide +kernel
theorem dr_cX17_rename_97 : decode cX17_rename 97 = .ok (.ifCond .eq 18, 3) := by decide +kernel
theorem dr_cX17_rename_115 : decode cX17_rename 115 = .ok (.aload 6, 2) := by decide +kernel
theorem dr_cX17_rename_117 : decode cX17_rename 117 = .ok (.invokevirtual 48, 3) := by decide +kernel
theorem dr_cX17_rename_120 : decode cX17_rename 120 = .ok (.ifCond .eq 18, 3) := by decide +kernel
theorem dr_cX17_rename_138 : decode cX17_rename 138 = .ok (.iinc 5 1, 3) := by decide +kernel
theorem dr_cX17_rename_141 : decode cX17_rename 141 = .ok (.goto (-121), 3) := by decide +kernel
theorem dr_cX17_rename_123 : decode cX17_rename 123 = .ok (.aload 6, 2) := by decide +kernel
theorem dr_cX17_rename_125 : decode cX17_rename 125 = .ok (.getfield 52, 3) := by decide +kernel
theorem dr_cX17_rename_128 : decode cX17_rename 128 = .ok (.iload_n 1, 1) := by decide +kernel
theorem dr_cX17_rename_129 : decode cX17_rename 129 = .ok (.if_icmp .ne 9, 3) := by decide +kernel
theorem dr_cX17_rename_132 : decode cX17_rename 132 = .ok (.aload 6, 2) := by decide +kernel
theorem dr_cX17_rename_134 : decode cX17_rename 134 = .ok (.iload_n 2, 1) := by decide +kernel
theorem dr_cX17_rename_135 : decode cX17_rename 135 = .ok (.putfield 52, 3) := by decide +kernel
theorem dr_cX17_rename_100 : decode cX17_rename 100 = .ok (.aload 6, 2) := by decide +kernel
theorem dr_cX17_rename_102 : decode cX17_rename 102 = .ok (.getfield 79, 3) := by decide +kernel
theorem dr_cX17_rename_105 : decode cX17_rename 105 = .ok (.iload_n 1, 1) := by decide +kernel
theorem dr_cX17_rename_106 : decode cX17_rename 106 = .ok (.if_icmp .ne 9, 3) := by decide +kernel
theorem dr_cX17_rename_109 : decode cX17_rename 109 = .ok (.aload 6, 2) := by decide +kernel
theorem dr_cX17_rename_111 : decode cX17_rename 111 = .ok (.iload_n 2, 1) := by decide +kernel
theorem dr_cX17_rename_112 : decode cX17_rename 112 = .ok (.putfield 79, 3) := by decide +kernel
theorem dr_cX17_rename_77 : decode cX17_rename 77 = .ok (.aload 6, 2) := by decide +kernel
theorem dr_cX17_rename_79 : decode cX17_rename 79 = .ok (.getfield 73, 3) := by decide +kernel
theorem dr_cX17_rename_82 : decode cX17_rename 82 = .ok (.iload_n 1, 1) := by decide +kernel
theorem dr_cX17_rename_83 : decode cX17_rename 83 = .ok (.if_icmp .ne 9, 3) := by decide +kernel
theorem dr_cX17_rename_86 : decode cX17_rename 86 = .ok (.aload 6, 2) := by decide +kernel
theorem dr_cX17_rename_88 : decode cX17_rename 88 = .ok (.iload_n 2, 1) := by decide +kernel
theorem dr_cX17_rename_89 : decode cX17_rename 89 = .ok (.putfield 73, 3) := by decide +kernel
theorem dr_cX17_rename_46 : decode cX17_rename 46 = .ok (.aload 4, 2) := by decide +kernel
theorem dr_cX17_rename_48 : decode cX17_rename 48 = .ok (.getfield 117, 3) := by decide +kernel
theorem dr_cX17_rename_51 : decode cX17_rename 51 = .ok (.iload 5, 2) := by decide +kernel
theorem dr_cX17_rename_53 : decode cX17_rename 53 = .ok (.invokevirtual 124, 3) := by decide +kernel
theorem dr_cX17_rename_56 : decode cX17_rename 56 = .ok (.checkcast 40, 3) := by decide +kernel
theorem dr_cX17_rename_59 : decode cX17_rename 59 = .ok (.goto 8, 3) := by decide +kernel
abbrev ky_162029_SpillForgeModel_run : gKey := (cX17_run, 7, "SpillForgeModel", (some FieldType.int), [], "run", fun _ _ => True)
def pt_162029_SpillForgeModel_run (D : va_G) (I : FieldType → ClassId) (γ el : Nat → Nat → Nat) (P162023 : List Nat) (F162024 : Nat → va_E) (q162025 : Nat) (q162026 : Nat) (p162027 : Int32) : Option Value → va_W → Nat → Nat → Prop := fun r w dc ds => ∃ (F165991 : Nat → va_E) (o165990 : Int32), r = some (.int o165990) ∧ w = va_pl P162023 F165991 ∧ RS D I P162023 F165991 γ el ∧ rStr γ [] F162024 F165991 ∧ dc ≤ 0 ∧ ds ≤ 0 ∧ gB o165990 0 5
set_option maxRecDepth 100000 in
set_option maxHeartbeats 4000000 in
theorem ct_162029_SpillForgeModel_run (l : Launch) (hl0 : l.stackTraces = false) (D : va_G) (I : FieldType → ClassId) (γ el : Nat → Nat → Nat) (P162023 : List Nat) (F162024 : Nat → va_E) (q162025 : Nat) (q162026 : Nat) (p162027 : Int32) (hT : RS D I P162023 F162024 γ el) (htq162025 : rKd γ q162025 10) (htq162026 : rKd γ q162026 9) (bp162027 : gB p162027 1 100000) (x162028 : 0 < γ 6 (γ 1 q162026)) : CtA (gV D I) l yX17_run cX17_run 7 (some FieldType.int) 4 85 0 0 [.ref q162025, .ref q162026, .int p162027] (va_pl P162023 F162024) (pt_162029_SpillForgeModel_run D I γ el P162023 F162024 q162025 q162026 p162027) gNA := by
  refine CtA_of hl0 (by decide) (Nat.le_of_ble_eq_true rfl) ?_
  refine G_iconst 0 dr_cX17_run_0 (by decide +kernel) ?_
  refine G_istore_n (L' := [(3, .int 0), (0, .ref q162025), (1, .ref q162026), (2, .int p162027)]) dr_cX17_run_1 (Nat.le_of_ble_eq_true rfl) rfl ?_
  have hlp2_165250 : ∀ (n2_165250 : Nat) (F165248 : Nat → va_E) (g165247 : Int32), gB g165247 0 2000 → RS D I P162023 F165248 γ el → rStr γ [] F162024 F165248 → ((2001 : Int) - g165247.toInt).toNat < n2_165250 → G (gV D I) l (gRm 4 85 0 0) (gMA (gV D I) (pt_162029_SpillForgeModel_run D I γ el P162023 F162024 q162025 q162026 p162027) gNA 0 0) ky_162029_SpillForgeModel_run 2 [(3, .int g165247), (0, .ref q162025), (1, .ref q162026), (2, .int p162027)] [] (va_pl P162023 F165248) 0 0 := by
    intro n2_165250
    induction n2_165250 with
    | zero => intro F165248 g165247 bg165247 hT165249 hs165250 hm2_165250; exact absurd hm2_165250 (Nat.not_lt_zero _)
    | succ n2_165250 ih2_165250 =>
      intro F165248 g165247 bg165247 hT165249 hs165250 hm2_165250
      have hs165252 : rStr γ [] F162024 F165248 := fun b h0 hb hw => (hs165250 b h0 hb hw).trans ((rStr_rf (γ := γ) (W := []) (F := F162024)) b h0 hb hw).symm
      have hs165253 : rStr γ [] F162024 F165248 := rStr_tr (rStr_rf (γ := γ) (W := []) (F := F162024)) hs165252
      have hm165254 : q162025 ∈ P162023 := RS_m hT165249 htq162025 (by decide)
      obtain ⟨q165256, q165257, p165258, p165259, p165260, p165261, p165262, p165263, p165264, p165265, p165266, p165267, p165268, p165269, p165270, p165271, p165272, he165255, hB165299, ht165273, ht165274, ht165275, ht165276, ht165277, ht165278, ht165279, ht165280, ht165281, ht165282, ht165283, ht165284, ht165285, ht165286, ht165287, ht165288, ht165289, ht165290, ht165291, ht165292, ht165293, ht165294, ht165295, ht165296, hB165300⟩ := show rk_10 γ (F165248 q162025) from RS_o hT165249 htq162025
      have ac165301 : (fI (F165248 q162025) 26).toInt = p165267.toInt := by rw [he165255]; rfl
      have bp165267 : gB p165267 0 100000 := (hB165299.2.2.2.2.2.1)
      have ac165302 : (fI (F165248 q162025) 26).toInt = p165267.toInt := by rw [he165255]; rfl
      refine G_iload_n 0 dr_cX17_run_2 rfl ?_
      refine G_sipush 2000 dr_cX17_run_3 (by decide +kernel) ?_
      refine G_icmp_ge 29 dr_cX17_run_6 (by decide +kernel) (fun hc165303 => ?_) (fun hc165303 => ?_)
      · have r165304 : 2000 ≤ g165247.toInt := gj_leL hc165303 (show Int32.toInt 2000 = 2000 by decide)
        have bg165247' : gB g165247 2000 2000 := ⟨by omega, by omega⟩
        refine G_aload_n 1 dr_cX17_run_29 rfl ?_
        refine G_iconst 0 dr_cX17_run_30 (by decide +kernel) ?_
        refine Gp_put 24 hm165254 he165255 dr_cX17_run_31 (gk_X17 D I) (Nat.le_of_ble_eq_true rfl) wr_7_98 rfl rfl rfl (Nat.le_of_ble_eq_true rfl) (fun F165305 e165306 n165307 => ?_)
        have he165308 : F165305 q162025 = .inr (22, [.ref (γ 9 0), .ref (γ 9 1), .ref (γ 9 2), .ref (γ 9 3), .ref (γ 9 4), .ref (γ 9 5), .ref (γ 9 6), .ref (γ 9 7), .ref (γ 9 8), .int p165258, .int p165259, .int p165260, .int p165261, .int p165262, .int p165263, .ref (γ 9 15), .ref (γ 9 16), .ref (γ 9 17), .ref (γ 9 18), .ref (γ 9 19), .ref (γ 9 20), .ref (γ 9 21), .ref (γ 9 22), .int p165264, .int 0, .int p165266, .int p165267, .int p165268, .ref q165256, .ref (γ 9 29), .int p165269, .ref (γ 9 31), .int p165270, .int p165271, .int p165272, .ref q165257]) := e165306
        have hs165309 : rStr γ [] F162024 F165305 := rStr_put hs165250 n165307 htq162025 (by decide)
        refine G_aload_n 1 dr_cX17_run_34 rfl ?_
        refine G_iconst 0 dr_cX17_run_35 (by decide +kernel) ?_
        refine Gp_put 25 hm165254 he165308 dr_cX17_run_36 (gk_X17 D I) (Nat.le_of_ble_eq_true rfl) wr_7_99 rfl rfl rfl (Nat.le_of_ble_eq_true rfl) (fun F165310 e165311 n165312 => ?_)
        have he165313 : F165310 q162025 = .inr (22, [.ref (γ 9 0), .ref (γ 9 1), .ref (γ 9 2), .ref (γ 9 3), .ref (γ 9 4), .ref (γ 9 5), .ref (γ 9 6), .ref (γ 9 7), .ref (γ 9 8), .int p165258, .int p165259, .int p165260, .int p165261, .int p165262, .int p165263, .ref (γ 9 15), .ref (γ 9 16), .ref (γ 9 17), .ref (γ 9 18), .ref (γ 9 19), .ref (γ 9 20), .ref (γ 9 21), .ref (γ 9 22), .int p165264, .int 0, .int 0, .int p165267, .int p165268, .ref q165256, .ref (γ 9 29), .int p165269, .ref (γ 9 31), .int p165270, .int p165271, .int p165272, .ref q165257]) := e165311
        have hs165314 : rStr γ [] F162024 F165310 := rStr_put hs165309 n165312 htq162025 (by decide)
        have n165315 : ∀ b, b ≠ q162025 → F165310 b = F165248 b := fun b hb => (n165312 b hb).trans (n165307 b hb)
        refine G_aload_n 1 dr_cX17_run_39 rfl ?_
        refine G_iconst 0 dr_cX17_run_40 (by decide +kernel) ?_
        refine Gp_put 26 hm165254 he165313 dr_cX17_run_41 (gk_X17 D I) (Nat.le_of_ble_eq_true rfl) wr_7_100 rfl rfl rfl (Nat.le_of_ble_eq_true rfl) (fun F165316 e165317 n165318 => ?_)
        have he165319 : F165316 q162025 = .inr (22, [.ref (γ 9 0), .ref (γ 9 1), .ref (γ 9 2), .ref (γ 9 3), .ref (γ 9 4), .ref (γ 9 5), .ref (γ 9 6), .ref (γ 9 7), .ref (γ 9 8), .int p165258, .int p165259, .int p165260, .int p165261, .int p165262, .int p165263, .ref (γ 9 15), .ref (γ 9 16), .ref (γ 9 17), .ref (γ 9 18), .ref (γ 9 19), .ref (γ 9 20), .ref (γ 9 21), .ref (γ 9 22), .int p165264, .int 0, .int 0, .int 0, .int p165268, .ref q165256, .ref (γ 9 29), .int p165269, .ref (γ 9 31), .int p165270, .int p165271, .int p165272, .ref q165257]) := e165317
        have hs165320 : rStr γ [] F162024 F165316 := rStr_put hs165314 n165318 htq162025 (by decide)
        have n165321 : ∀ b, b ≠ q162025 → F165316 b = F165248 b := fun b hb => (n165318 b hb).trans (n165315 b hb)
        refine G_aload_n 1 dr_cX17_run_44 rfl ?_
        refine G_iconst 0 dr_cX17_run_45 (by decide +kernel) ?_
        refine Gp_put 27 hm165254 he165319 dr_cX17_run_46 (gk_X17 D I) (Nat.le_of_ble_eq_true rfl) wr_7_101 rfl rfl rfl (Nat.le_of_ble_eq_true rfl) (fun F165322 e165323 n165324 => ?_)
        have he165325 : F165322 q162025 = .inr (22, [.ref (γ 9 0), .ref (γ 9 1), .ref (γ 9 2), .ref (γ 9 3), .ref (γ 9 4), .ref (γ 9 5), .ref (γ 9 6), .ref (γ 9 7), .ref (γ 9 8), .int p165258, .int p165259, .int p165260, .int p165261, .int p165262, .int p165263, .ref (γ 9 15), .ref (γ 9 16), .ref (γ 9 17), .ref (γ 9 18), .ref (γ 9 19), .ref (γ 9 20), .ref (γ 9 21), .ref (γ 9 22), .int p165264, .int 0, .int 0, .int 0, .int 0, .ref q165256, .ref (γ 9 29), .int p165269, .ref (γ 9 31), .int p165270, .int p165271, .int p165272, .ref q165257]) := e165323
        have hs165326 : rStr γ [] F162024 F165322 := rStr_put hs165320 n165324 htq162025 (by decide)
        have n165327 : ∀ b, b ≠ q162025 → F165322 b = F165248 b := fun b hb => (n165324 b hb).trans (n165321 b hb)
        refine G_iconst 0 dr_cX17_run_49 (by decide +kernel) ?_
        refine G_istore_n (L' := [(3, .int 0), (0, .ref q162025), (1, .ref q162026), (2, .int p162027)]) dr_cX17_run_50 (Nat.le_of_ble_eq_true rfl) rfl ?_
        refine G_iconst 0 dr_cX17_run_51 (by decide +kernel) ?_
        refine G_istore (L' := [(4, .int 0), (3, .int 0), (0, .ref q162025), (1, .ref q162026), (2, .int p162027)]) dr_cX17_run_52 (Nat.le_of_ble_eq_true rfl) rfl ?_
        have hT165328 : RS D I P162023 F165322 γ el := RS_set hT165249 n165327 htq162025 (by decide) ⟨q165256, q165257, p165258, p165259, p165260, p165261, p165262, p165263, p165264, 0, 0, 0, 0, p165269, p165270, p165271, p165272, he165325, ⟨(hB165299.1), (hB165299.2.1), (hB165299.2.2.1), (hB165299.2.2.2.1), (gB_w (gBl (show Int32.toInt 0 = 0 by decide)) (by decide) (by decide)), (gB_w (gBl (show Int32.toInt 0 = 0 by decide)) (by decide) (by decide)), (gB_w (gBl (show Int32.toInt 0 = 0 by decide)) (by decide) (by decide)), (hB165299.2.2.2.2.2.2.2.1), (hB165299.2.2.2.2.2.2.2.2)⟩, ht165273, ht165274, ht165275, ht165276, ht165277, ht165278, ht165279, ht165280, ht165281, ht165282, ht165283, ht165284, ht165285, ht165286, ht165287, ht165288, ht165289, ht165290, ht165291, ht165292, ht165293, ht165294, ht165295, ht165296, hB165300⟩
        have hlp54_165600 : ∀ (n54_165600 : Nat) (F165596 : Nat → va_E) (g165594 : Int32) (g165595 : Int32), gB g165594 0 39 → gB g165595 0 1000000 → RS D I P162023 F165596 γ el → rStr γ [] F162024 F165596 → g165594.toInt < γ 6 (γ 1 q162026) → (fI (F165596 q162025) 26).toInt ≤ p162027.toInt → (p162027.toInt - (fI (F165596 q162025) 26).toInt).toNat < n54_165600 → G (gV D I) l (gRm 4 85 0 0) (gMA (gV D I) (pt_162029_SpillForgeModel_run D I γ el P162023 F162024 q162025 q162026 p162027) gNA 0 0) ky_162029_SpillForgeModel_run 54 [(4, .int g165595), (3, .int g165594), (0, .ref q162025), (1, .ref q162026), (2, .int p162027)] [] (va_pl P162023 F165596) 0 0 := by
          intro n54_165600
          induction n54_165600 with
          | zero => intro F165596 g165594 g165595 bg165594 bg165595 hT165597 hs165598 x165599 x165600 hm54_165600; exact absurd hm54_165600 (Nat.not_lt_zero _)
          | succ n54_165600 ih54_165600 =>
            intro F165596 g165594 g165595 bg165594 bg165595 hT165597 hs165598 x165599 x165600 hm54_165600
            have hs165602 : rStr γ [] F165322 F165596 := fun b h0 hb hw => (hs165598 b h0 hb hw).trans (hs165326 b h0 hb hw).symm
            have hs165603 : rStr γ [] F162024 F165596 := rStr_tr hs165326 hs165602
            have hm165604 : q162025 ∈ P162023 := RS_m hT165597 htq162025 (by decide)
            obtain ⟨q165606, q165607, p165608, p165609, p165610, p165611, p165612, p165613, p165614, p165615, p165616, p165617, p165618, p165619, p165620, p165621, p165622, he165605, hB165649, ht165623, ht165624, ht165625, ht165626, ht165627, ht165628, ht165629, ht165630, ht165631, ht165632, ht165633, ht165634, ht165635, ht165636, ht165637, ht165638, ht165639, ht165640, ht165641, ht165642, ht165643, ht165644, ht165645, ht165646, hB165650⟩ := show rk_10 γ (F165596 q162025) from RS_o hT165597 htq162025
            have ac165651 : (fI (F165596 q162025) 26).toInt = p165617.toInt := by rw [he165605]; rfl
            have bp165617 : gB p165617 0 100000 := (hB165649.2.2.2.2.2.1)
            have ac165652 : (fI (F165596 q162025) 26).toInt = p165617.toInt := by rw [he165605]; rfl
            refine G_aload_n 3 dr_cX17_run_54 rfl ?_
            refine G_iload_n 1 dr_cX17_run_55 rfl ?_
            have hm165653 : q162026 ∈ P162023 := RS_m hT165597 htq162026 (by decide)
            obtain ⟨q165655, q165656, p165657, p165658, he165654, ht165674, ht165659, ht165660, ht165661, ht165662, r165663, r165664, r165665, r165666, r165667, r165668, r165669, r165670, r165671, r165672, r165673⟩ := show rk_9 γ el q162026 (F165596 q162026) from RS_o hT165597 htq162026
            have bp165657 : gB p165657 0 1000000 := ⟨by omega, by omega⟩
            have bp165658 : gB p165658 0 1000000 := ⟨by omega, by omega⟩
            have hm165675 : q165655 ∈ P162023 := RS_m hT165597 ht165659 (by decide)
            obtain ⟨⟨p165677, p165678, q165679, he165676, r165680, r165681, r165682, r165684⟩, r165683⟩ := show rk_4 D I γ el F165596 q165655 from RS_o hT165597 ht165659
            have bp165677 := gB_any p165677
            have bp165678 : gB p165678 0 1000000 := ⟨by omega, by omega⟩
            obtain ⟨r165685, r165686, n165693, f165694, r165687, r165688, r165689, r165690, r165691, r165692⟩ := rLC_n r165682 (by omega)
            have hm165695 : q165679 ∈ P162023 := RS_m hT165597 r165685 (by decide)
            obtain ⟨q165696, hx165697⟩ : ∃ x, x = el q165655 g165594.toInt.toNat := ⟨_, rfl⟩
            have hx165698 : f165694 g165594.toNatClampNeg = some q165696 := (r165691 _ (show g165594.toInt.toNat < γ 2 q165655 by omega)).trans (by rw [hx165697])
            have ht165701 : rKd γ q165696 2 := by rw [hx165697]; exact (r165670 _ (by omega)).resolve_right (fun z => absurd z.1 (by omega))
            have ht165702 : rFm γ q165696 q165655 := by rw [hx165697]; exact (r165683 _ (show g165594.toInt.toNat < γ 2 q165655 by omega)).2.1
            have hm165703 : q165696 ∈ P162023 := RS_m hT165597 ht165701 (by decide)
            obtain ⟨q165705, q165706, p165707, p165708, he165704, ht165715, ht165709, ht165710, ht165711, ht165712, ht165713, bp165707, bp165708, r165714, r165716, r165717⟩ := show rk_2 γ q165696 (F165596 q165696) from RS_o hT165597 ht165701
            have fm165718 : γ 6 (γ 1 q165696) = γ 6 (γ 1 q162026) := by rw [show γ 1 q165696 = γ 1 q165655 from ht165702, show γ 1 q165655 = γ 1 q162026 from ht165660]
            refine Gw_callV (As := [.int g165594]) (gV_ok D I) (cp_7737_Code_get l hl0 D I P162023 F165596 q162026 q165655 q165679 g165594 q165656 p165657 p165658 p165677 p165678 f165694 n165693 q165696 q165705 q165706 p165707 p165708 hm165653 hm165675 hm165695 hm165703 he165654 he165676 r165687 he165704 (gB_w bg165594 (by decide) (by decide)) (gB_w bp165678 (by decide) (by decide)) (by omega) (by omega) (by assumption) (by omega)) dr_cX17_run_56 ⟨wr_10_161, wr_1_15, wr_10_141, by decide, rfl, (Nat.le_of_ble_eq_true rfl), (Nat.le_of_ble_eq_true rfl)⟩ wr_10_139 wr_10_140 hm165653 he165654 rfl (show 0 + 0 ≤ 0 by first | omega | decide) (show 0 + 0 ≤ 0 by first | omega | decide) (Nat.le_of_ble_eq_true rfl) (fun r165722 w165723 dc165719 ds165720 hp165721 => ?_) (fun _ _ _ _ _ z => z.elim)
            obtain ⟨rfl, rfl, hdc, hds⟩ := hp165721
            change G _ _ _ _ _ _ _ (.ref q165696 :: _) _ _ _
            refine G_widen (cs' := 0) (sl' := 0) (by omega) (by omega) ?_
            refine G_astore (L' := [(5, .ref q165696), (4, .int g165595), (3, .int g165594), (0, .ref q162025), (1, .ref q162026), (2, .int p162027)]) dr_cX17_run_59 (Nat.le_of_ble_eq_true rfl) rfl ?_
            refine G_aload_n 3 dr_cX17_run_61 rfl ?_
            refine Gp_get 26 hm165604 he165605 dr_cX17_run_62 (gk_X17 D I) (Nat.le_of_ble_eq_true rfl) wr_7_100 rfl ?_
            refine G_iload_n 5 dr_cX17_run_65 rfl ?_
            refine G_icmp_ne 71 dr_cX17_run_66 (by decide +kernel) (fun hc165724 => ?_) (fun hc165724 => ?_)
            · have r165725 : p165617.toInt ≠ p162027.toInt := gC_ne hc165724
              refine G_aload_n 3 dr_cX17_run_71 rfl ?_
              refine G_dup dr_cX17_run_72 rfl ?_
              refine Gp_get 26 hm165604 he165605 dr_cX17_run_73 (gk_X17 D I) (Nat.le_of_ble_eq_true rfl) wr_7_100 rfl ?_
              refine G_iconst 1 dr_cX17_run_76 (by decide +kernel) ?_
              refine G_iadd dr_cX17_run_77 (G_nam fun z165726 hz165726 => ?_)
              have ez165726 : z165726.toInt = p165617.toInt + 1 := by rw [gI_add hz165726 bp165617 (gBl (show Int32.toInt 1 = 1 by decide)) (by decide) (by decide), show Int32.toInt 1 = 1 from by decide]
              have bz165726 : gB z165726 1 100001 := gB_add (gI_add hz165726 bp165617 (gBl (show Int32.toInt 1 = 1 by decide)) (by decide) (by decide)) bp165617 (gBl (show Int32.toInt 1 = 1 by decide)) (by decide) (by decide)
              refine Gp_put 26 hm165604 he165605 dr_cX17_run_78 (gk_X17 D I) (Nat.le_of_ble_eq_true rfl) wr_7_100 rfl rfl rfl (Nat.le_of_ble_eq_true rfl) (fun F165727 e165728 n165729 => ?_)
              have he165730 : F165727 q162026 = .inr (18, [.ref q165655, .ref q165656, .int p165657, .int p165658]) := (n165729 q162026 (rn_oo he165654 he165605 (by decide))).trans he165654
              have he165731 : F165727 q165655 = .inr (4, [.int p165677, .ref q165679, .int p165678]) := (n165729 q165655 (rn_oo he165676 he165605 (by decide))).trans he165676
              have he165732 : F165727 q165679 = .inl (I (.object "java/lang/Object"), n165693, .inr (.inr (.inr (.inr f165694)))) := (n165729 q165679 (rn_ao r165687 he165605)).trans r165687
              have he165733 : F165727 q165696 = .inr (17, [.ref q165705, .ref q165706, .int p165707, .int p165708]) := (n165729 q165696 (rn_oo he165704 he165605 (by decide))).trans he165704
              have he165734 : F165727 q162025 = .inr (22, [.ref (γ 9 0), .ref (γ 9 1), .ref (γ 9 2), .ref (γ 9 3), .ref (γ 9 4), .ref (γ 9 5), .ref (γ 9 6), .ref (γ 9 7), .ref (γ 9 8), .int p165608, .int p165609, .int p165610, .int p165611, .int p165612, .int p165613, .ref (γ 9 15), .ref (γ 9 16), .ref (γ 9 17), .ref (γ 9 18), .ref (γ 9 19), .ref (γ 9 20), .ref (γ 9 21), .ref (γ 9 22), .int p165614, .int p165615, .int p165616, .int z165726, .int p165618, .ref q165606, .ref (γ 9 29), .int p165619, .ref (γ 9 31), .int p165620, .int p165621, .int p165622, .ref q165607]) := e165728
              have hs165735 : rStr γ [] F162024 F165727 := rStr_put hs165598 n165729 htq162025 (by decide)
              refine G_iload 1 dr_cX17_run_81 rfl ?_
              refine G_aload 0 dr_cX17_run_83 rfl ?_
              refine Gp_get 0 hm165703 he165733 dr_cX17_run_85 (gk_X12 D I) (Nat.le_of_ble_eq_true rfl) wr_9_220 rfl ?_
              have hT165736 : RS D I P162023 F165727 γ el := RS_set hT165597 n165729 htq162025 (by decide) ⟨q165606, q165607, p165608, p165609, p165610, p165611, p165612, p165613, p165614, p165615, p165616, z165726, p165618, p165619, p165620, p165621, p165622, he165734, ⟨(hB165649.1), (hB165649.2.1), (hB165649.2.2.1), (hB165649.2.2.2.1), (hB165649.2.2.2.2.1), ⟨by omega, by omega⟩, (hB165649.2.2.2.2.2.2.1), (hB165649.2.2.2.2.2.2.2.1), (hB165649.2.2.2.2.2.2.2.2)⟩, ht165623, ht165624, ht165625, ht165626, ht165627, ht165628, ht165629, ht165630, ht165631, ht165632, ht165633, ht165634, ht165635, ht165636, ht165637, ht165638, ht165639, ht165640, ht165641, ht165642, ht165643, ht165644, ht165645, ht165646, hB165650⟩
              have hm165737 : q165705 ∈ P162023 := RS_m hT165736 ht165709 (by decide)
              obtain ⟨⟨p165739, p165740, q165741, he165738, r165742, r165743, r165744, r165746⟩, r165745⟩ := show rk_3 D I γ el F165727 q165705 from RS_o hT165736 ht165709
              have bp165739 := gB_any p165739
              have bp165740 : gB p165740 0 1000000 := ⟨by omega, by omega⟩
              refine Gw_callV (As := []) (gV_ok D I) (cp_7_ArrayList_size l hl0 D I P162023 F165727 q165705 p165739 q165741 p165740 hm165737 he165738 (gB_w bp165740 (by decide) (by decide))) dr_cX17_run_88 ⟨wr_10_200, wr_1_18, wr_9_160, by decide, rfl, (Nat.le_of_ble_eq_true rfl), (Nat.le_of_ble_eq_true rfl)⟩ wr_9_158 wr_9_159 hm165737 he165738 rfl (show 0 + 0 ≤ 0 by first | omega | decide) (show 0 + 0 ≤ 0 by first | omega | decide) (Nat.le_of_ble_eq_true rfl) (fun r165750 w165751 dc165747 ds165748 hp165749 => ?_) (fun _ _ _ _ _ z => z.elim)
              obtain ⟨rfl, rfl, hdc, hds⟩ := hp165749
              change G _ _ _ _ _ _ _ (.int p165740 :: _) _ _ _
              refine G_widen (cs' := 0) (sl' := 0) (by omega) (by omega) ?_
              refine G_icmp_ge 127 dr_cX17_run_91 (by decide +kernel) (fun hc165752 => ?_) (fun hc165752 => ?_)
              · have r165753 : p165740.toInt ≤ g165595.toInt := gC_le hc165752
                refine G_aload 0 dr_cX17_run_127 rfl ?_
                refine Gp_get 1 hm165703 he165733 dr_cX17_run_129 (gk_X12 D I) (Nat.le_of_ble_eq_true rfl) wr_9_223 rfl ?_
                refine G_astore (L' := [(6, .ref q165706), (5, .ref q165696), (4, .int g165595), (3, .int g165594), (0, .ref q162025), (1, .ref q162026), (2, .int p162027)]) dr_cX17_run_132 (Nat.le_of_ble_eq_true rfl) rfl ?_
                refine G_aload 0 dr_cX17_run_134 rfl ?_
                have hm165754 : q165706 ∈ P162023 := RS_m hT165736 ht165711 (by decide)
                obtain ⟨p165756, p165757, p165758, p165759, p165760, p165761, p165762, he165755, bp165756, bp165757, bp165760, bp165761, bp165762, r165763, r165764, r165765, r165766, r165767⟩ := show rk_1 γ q165706 (F165727 q165706) from RS_o hT165736 ht165711
                have bp165758 := gB_any p165758
                have bp165759 := gB_any p165759
                refine Gp_get 0 hm165754 he165755 dr_cX17_run_136 (gk_X15 D I) (Nat.le_of_ble_eq_true rfl) wr_9_177 rfl ?_
                refine G_bipush 32 dr_cX17_run_139 (by decide +kernel) ?_
                refine G_icmp_ne 164 dr_cX17_run_141 (by decide +kernel) (fun hc165768 => ?_) (fun hc165768 => ?_)
                · have r165769 : p165756.toInt ≠ 32 := gj_neq hc165768 (show Int32.toInt 32 = 32 by decide)
                  have bp165756' : gB p165756 0 31 := ⟨by omega, by omega⟩
                  refine G_aload 0 dr_cX17_run_164 rfl ?_
                  refine Gp_get 0 hm165754 he165755 dr_cX17_run_166 (gk_X15 D I) (Nat.le_of_ble_eq_true rfl) wr_9_177 rfl ?_
                  refine G_bipush 30 dr_cX17_run_169 (by decide +kernel) ?_
                  refine G_icmp_eq 191 dr_cX17_run_171 (by decide +kernel) (fun hc165770 => ?_) (fun hc165770 => ?_)
                  · have r165771 : p165756.toInt = 30 := gj_eq hc165770 (show Int32.toInt 30 = 30 by decide)
                    have bp165756'' : gB p165756 30 30 := ⟨by omega, by omega⟩
                    refine G_aload 1 dr_cX17_run_191 rfl ?_
                    refine Gp_get 2 hm165703 he165733 dr_cX17_run_193 (gk_X12 D I) (Nat.le_of_ble_eq_true rfl) wr_9_229 rfl ?_
                    refine G_goto 204 dr_cX17_run_196 (by decide +kernel) ?_
                    refine G_istore_n (L' := [(3, .int p165707), (6, .ref q165706), (5, .ref q165696), (4, .int g165595), (0, .ref q162025), (1, .ref q162026), (2, .int p162027)]) dr_cX17_run_204 (Nat.le_of_ble_eq_true rfl) rfl ?_
                    refine G_iconst 0 dr_cX17_run_205 (by decide +kernel) ?_
                    refine G_istore (L' := [(4, .int 0), (3, .int p165707), (6, .ref q165706), (5, .ref q165696), (0, .ref q162025), (1, .ref q162026), (2, .int p162027)]) dr_cX17_run_206 (Nat.le_of_ble_eq_true rfl) rfl ?_
                    refine G_goto 54 dr_cX17_run_208 (by decide +kernel) ?_
                    refine G_lv (L' := [(4, .int 0), (3, .int p165707), (0, .ref q162025), (1, .ref q162026), (2, .int p162027)]) [0, 1, 4, 5, 6] rfl ?_
                    have ac165772 : (fI (F165727 q162025) 26).toInt = z165726.toInt := by rw [he165734]; rfl
                    exact ih54_165600 F165727 p165707 0 bp165707 (gB_w (gBl (show Int32.toInt 0 = 0 by decide)) (by decide) (by decide)) hT165736 hs165735 (by have qa0 : Int32.toInt 0 = 0 := (by decide); omega) (by omega) (by have qa0 : Int32.toInt 0 = 0 := (by decide); omega)
                  · have r165773 : p165756.toInt ≠ 30 := gj_neq hc165770 (show Int32.toInt 30 = 30 by decide)
                    refine G_aload_n 4 dr_cX17_run_174 rfl ?_
                    refine G_aload 0 dr_cX17_run_175 rfl ?_
                    refine Gp_get 5 hm165754 he165755 dr_cX17_run_177 (gk_X15 D I) (Nat.le_of_ble_eq_true rfl) wr_9_197 rfl ?_
                    refine G_aload 0 dr_cX17_run_180 rfl ?_
                    refine Gp_get 2 hm165754 he165755 dr_cX17_run_182 (gk_X15 D I) (Nat.le_of_ble_eq_true rfl) wr_9_186 rfl ?_
                    refine Gw_callV (As := [.int p165761, .int p165758]) (gV_ok D I) (ct_7383_SpillForgeModel_value l hl0 D I γ el P162023 F165727 q162025 p165761 p165758 hT165736 htq162025 bp165761 (by omega)) dr_cX17_run_185 ⟨wr_11_100, wr_1_14, wr_11_103, by decide, rfl, (Nat.le_of_ble_eq_true rfl), (Nat.le_of_ble_eq_true rfl)⟩ wr_11_102 wr_p_115 hm165604 he165734 rfl (show 0 + 0 ≤ 0 by first | omega | decide) (show 0 + 0 ≤ 0 by first | omega | decide) (Nat.le_of_ble_eq_true rfl) (fun r165777 w165778 dc165774 ds165775 hp165776 => ?_) (fun _ _ _ _ _ z => z.elim)
                    obtain ⟨o165779, rfl, rfl, hdc, hds⟩ := hp165776
                    have bo165779 := gB_any o165779
                    change G _ _ _ _ _ _ _ (.int o165779 :: _) _ _ _
                    refine G_widen (cs' := 0) (sl' := 0) (by omega) (by omega) ?_
                    refine G_if_eq 199 dr_cX17_run_188 (by decide +kernel) (fun hc165780 => ?_) (fun hc165780 => ?_)
                    · have r165781 : o165779.toInt = 0 := gj_eq hc165780 (show Int32.toInt 0 = 0 by decide)
                      have bo165779' : gB o165779 0 0 := ⟨by omega, by omega⟩
                      refine G_aload 1 dr_cX17_run_199 rfl ?_
                      refine Gp_get 3 hm165703 he165733 dr_cX17_run_201 (gk_X12 D I) (Nat.le_of_ble_eq_true rfl) wr_9_233 rfl ?_
                      refine G_istore_n (L' := [(3, .int p165708), (6, .ref q165706), (5, .ref q165696), (4, .int g165595), (0, .ref q162025), (1, .ref q162026), (2, .int p162027)]) dr_cX17_run_204 (Nat.le_of_ble_eq_true rfl) rfl ?_
                      refine G_iconst 0 dr_cX17_run_205 (by decide +kernel) ?_
                      refine G_istore (L' := [(4, .int 0), (3, .int p165708), (6, .ref q165706), (5, .ref q165696), (0, .ref q162025), (1, .ref q162026), (2, .int p162027)]) dr_cX17_run_206 (Nat.le_of_ble_eq_true rfl) rfl ?_
                      refine G_goto 54 dr_cX17_run_208 (by decide +kernel) ?_
                      refine G_lv (L' := [(4, .int 0), (3, .int p165708), (0, .ref q162025), (1, .ref q162026), (2, .int p162027)]) [0, 1, 4, 5, 6] rfl ?_
                      have ac165782 : (fI (F165727 q162025) 26).toInt = z165726.toInt := by rw [he165734]; rfl
                      exact ih54_165600 F165727 p165708 0 bp165708 (gB_w (gBl (show Int32.toInt 0 = 0 by decide)) (by decide) (by decide)) hT165736 hs165735 (by have qa0 : Int32.toInt 0 = 0 := (by decide); omega) (by omega) (by have qa0 : Int32.toInt 0 = 0 := (by decide); omega)
                    · have r165783 : o165779.toInt ≠ 0 := gj_neq hc165780 (show Int32.toInt 0 = 0 by decide)
                      refine G_aload 1 dr_cX17_run_191 rfl ?_
                      refine Gp_get 2 hm165703 he165733 dr_cX17_run_193 (gk_X12 D I) (Nat.le_of_ble_eq_true rfl) wr_9_229 rfl ?_
                      refine G_goto 204 dr_cX17_run_196 (by decide +kernel) ?_
                      refine G_istore_n (L' := [(3, .int p165707), (6, .ref q165706), (5, .ref q165696), (4, .int g165595), (0, .ref q162025), (1, .ref q162026), (2, .int p162027)]) dr_cX17_run_204 (Nat.le_of_ble_eq_true rfl) rfl ?_
                      refine G_iconst 0 dr_cX17_run_205 (by decide +kernel) ?_
                      refine G_istore (L' := [(4, .int 0), (3, .int p165707), (6, .ref q165706), (5, .ref q165696), (0, .ref q162025), (1, .ref q162026), (2, .int p162027)]) dr_cX17_run_206 (Nat.le_of_ble_eq_true rfl) rfl ?_
                      refine G_goto 54 dr_cX17_run_208 (by decide +kernel) ?_
                      refine G_lv (L' := [(4, .int 0), (3, .int p165707), (0, .ref q162025), (1, .ref q162026), (2, .int p162027)]) [0, 1, 4, 5, 6] rfl ?_
                      have ac165784 : (fI (F165727 q162025) 26).toInt = z165726.toInt := by rw [he165734]; rfl
                      exact ih54_165600 F165727 p165707 0 bp165707 (gB_w (gBl (show Int32.toInt 0 = 0 by decide)) (by decide) (by decide)) hT165736 hs165735 (by have qa0 : Int32.toInt 0 = 0 := (by decide); omega) (by omega) (by have qa0 : Int32.toInt 0 = 0 := (by decide); omega)
                · have r165785 : p165756.toInt = 32 := gj_eq hc165768 (show Int32.toInt 32 = 32 by decide)
                  have bp165756' : gB p165756 32 32 := ⟨by omega, by omega⟩
                  refine G_aload_n 4 dr_cX17_run_144 rfl ?_
                  refine G_aload_n 4 dr_cX17_run_145 rfl ?_
                  refine G_aload 0 dr_cX17_run_146 rfl ?_
                  refine Gp_get 5 hm165754 he165755 dr_cX17_run_148 (gk_X15 D I) (Nat.le_of_ble_eq_true rfl) wr_9_197 rfl ?_
                  refine G_aload 0 dr_cX17_run_151 rfl ?_
                  refine Gp_get 2 hm165754 he165755 dr_cX17_run_153 (gk_X15 D I) (Nat.le_of_ble_eq_true rfl) wr_9_186 rfl ?_
                  refine Gw_callV (As := [.int p165761, .int p165758]) (gV_ok D I) (ct_7383_SpillForgeModel_value l hl0 D I γ el P162023 F165727 q162025 p165761 p165758 hT165736 htq162025 bp165761 (by omega)) dr_cX17_run_156 ⟨wr_11_100, wr_1_14, wr_11_103, by decide, rfl, (Nat.le_of_ble_eq_true rfl), (Nat.le_of_ble_eq_true rfl)⟩ wr_11_102 wr_p_115 hm165604 he165734 rfl (show 0 + 0 ≤ 0 by first | omega | decide) (show 0 + 0 ≤ 0 by first | omega | decide) (Nat.le_of_ble_eq_true rfl) (fun r165789 w165790 dc165786 ds165787 hp165788 => ?_) (fun _ _ _ _ _ z => z.elim)
                  obtain ⟨o165791, rfl, rfl, hdc, hds⟩ := hp165788
                  have bo165791 := gB_any o165791
                  change G _ _ _ _ _ _ _ (.int o165791 :: _) _ _ _
                  refine G_widen (cs' := 0) (sl' := 0) (by omega) (by omega) ?_
                  refine Gp_put 24 hm165604 he165734 dr_cX17_run_159 (gk_X17 D I) (Nat.le_of_ble_eq_true rfl) wr_7_98 rfl rfl rfl (Nat.le_of_ble_eq_true rfl) (fun F165792 e165793 n165794 => ?_)
                  have he165795 : F165792 q162026 = .inr (18, [.ref q165655, .ref q165656, .int p165657, .int p165658]) := (n165794 q162026 (rn_oo he165730 he165734 (by decide))).trans he165730
                  have he165796 : F165792 q165655 = .inr (4, [.int p165677, .ref q165679, .int p165678]) := (n165794 q165655 (rn_oo he165731 he165734 (by decide))).trans he165731
                  have he165797 : F165792 q165679 = .inl (I (.object "java/lang/Object"), n165693, .inr (.inr (.inr (.inr f165694)))) := (n165794 q165679 (rn_ao he165732 he165734)).trans he165732
                  have he165798 : F165792 q165696 = .inr (17, [.ref q165705, .ref q165706, .int p165707, .int p165708]) := (n165794 q165696 (rn_oo he165733 he165734 (by decide))).trans he165733
                  have he165799 : F165792 q165705 = .inr (4, [.int p165739, .ref q165741, .int p165740]) := (n165794 q165705 (rn_oo he165738 he165734 (by decide))).trans he165738
                  have he165800 : F165792 q165706 = .inr (20, [.int p165756, .int p165757, .int p165758, .int p165759, .int p165760, .int p165761, .int p165762]) := (n165794 q165706 (rn_oo he165755 he165734 (by decide))).trans he165755
                  have he165801 : F165792 q162025 = .inr (22, [.ref (γ 9 0), .ref (γ 9 1), .ref (γ 9 2), .ref (γ 9 3), .ref (γ 9 4), .ref (γ 9 5), .ref (γ 9 6), .ref (γ 9 7), .ref (γ 9 8), .int p165608, .int p165609, .int p165610, .int p165611, .int p165612, .int p165613, .ref (γ 9 15), .ref (γ 9 16), .ref (γ 9 17), .ref (γ 9 18), .ref (γ 9 19), .ref (γ 9 20), .ref (γ 9 21), .ref (γ 9 22), .int p165614, .int o165791, .int p165616, .int z165726, .int p165618, .ref q165606, .ref (γ 9 29), .int p165619, .ref (γ 9 31), .int p165620, .int p165621, .int p165622, .ref q165607]) := e165793
                  have hs165802 : rStr γ [] F162024 F165792 := rStr_put hs165735 n165794 htq162025 (by decide)
                  refine G_iconst 0 dr_cX17_run_162 (by decide +kernel) ?_
                  have hT165803 : RS D I P162023 F165792 γ el := RS_set hT165736 n165794 htq162025 (by decide) ⟨q165606, q165607, p165608, p165609, p165610, p165611, p165612, p165613, p165614, o165791, p165616, z165726, p165618, p165619, p165620, p165621, p165622, he165801, ⟨(hB165649.1), (hB165649.2.1), (hB165649.2.2.1), (hB165649.2.2.2.1), (hB165649.2.2.2.2.1), ⟨by omega, by omega⟩, (hB165649.2.2.2.2.2.2.1), (hB165649.2.2.2.2.2.2.2.1), (hB165649.2.2.2.2.2.2.2.2)⟩, ht165623, ht165624, ht165625, ht165626, ht165627, ht165628, ht165629, ht165630, ht165631, ht165632, ht165633, ht165634, ht165635, ht165636, ht165637, ht165638, ht165639, ht165640, ht165641, ht165642, ht165643, ht165644, ht165645, ht165646, hB165650⟩
                  exact G_iretA dr_cX17_run_163 rfl (Nat.le_of_ble_eq_true rfl) (Nat.le_of_ble_eq_true rfl) ⟨F165792, 0, rfl, rfl, hT165803, hs165802, (Nat.le_of_ble_eq_true rfl), (Nat.le_of_ble_eq_true rfl), (gB_w (gBl (show Int32.toInt 0 = 0 by decide)) (by decide) (by decide))⟩
              · have r165804 : g165595.toInt < p165740.toInt := gC_nle hc165752
                have bg165595' : gB g165595 0 999999 := ⟨by omega, by omega⟩
                have bp165740' : gB p165740 1 1000000 := ⟨by omega, by omega⟩
                refine G_aload_n 3 dr_cX17_run_94 rfl ?_
                refine G_aload 0 dr_cX17_run_95 rfl ?_
                refine Gp_get 0 hm165703 he165733 dr_cX17_run_97 (gk_X12 D I) (Nat.le_of_ble_eq_true rfl) wr_9_220 rfl ?_
                refine G_iload 1 dr_cX17_run_100 rfl ?_
                obtain ⟨r165805, r165806, n165813, f165814, r165807, r165808, r165809, r165810, r165811, r165812⟩ := rLC_n r165744 (by omega)
                have hm165815 : q165741 ∈ P162023 := RS_m hT165736 r165805 (by decide)
                obtain ⟨q165816, hx165817⟩ : ∃ x, x = el q165705 g165595.toInt.toNat := ⟨_, rfl⟩
                have hx165818 : f165814 g165595.toNatClampNeg = some q165816 := (r165811 _ (show g165595.toInt.toNat < γ 2 q165705 by omega)).trans (by rw [hx165817])
                have ht165819 : rKd γ q165816 1 := by rw [hx165817]; exact (r165745 _ (show g165595.toInt.toNat < γ 2 q165705 by omega)).1
                have ht165820 : rFm γ q165816 q165705 := by rw [hx165817]; exact (r165745 _ (show g165595.toInt.toNat < γ 2 q165705 by omega)).2.1
                refine Gw_callV (As := [.int g165595]) (gV_ok D I) (cp_22_ArrayList_get l hl0 D I P162023 F165727 q165705 q165741 g165595 p165739 p165740 f165814 n165813 q165816 hm165737 hm165815 he165738 r165807 (gB_w bg165595' (by decide) (by decide)) (gB_w bp165740' (by decide) (by decide)) (by omega) (by omega) (by assumption) (by omega)) dr_cX17_run_102 ⟨wr_10_201, wr_1_18, wr_10_65, by decide, rfl, (Nat.le_of_ble_eq_true rfl), (Nat.le_of_ble_eq_true rfl)⟩ wr_10_63 wr_10_64 hm165737 he165738 rfl (show 0 + 0 ≤ 0 by first | omega | decide) (show 0 + 0 ≤ 0 by first | omega | decide) (Nat.le_of_ble_eq_true rfl) (fun r165824 w165825 dc165821 ds165822 hp165823 => ?_) (fun _ _ _ _ _ z => z.elim)
                obtain ⟨rfl, rfl, hdc, hds⟩ := hp165823
                change G _ _ _ _ _ _ _ (.ref q165816 :: _) _ _ _
                refine G_widen (cs' := 0) (sl' := 0) (by omega) (by omega) ?_
                have hm165826 : q165816 ∈ P162023 := RS_m hT165736 ht165819 (by decide)
                obtain ⟨p165828, p165829, p165830, p165831, p165832, p165833, p165834, he165827, bp165828, bp165829, bp165832, bp165833, bp165834, r165835, r165836, r165837, r165838, r165839⟩ := show rk_1 γ q165816 (F165727 q165816) from RS_o hT165736 ht165819
                have bp165830 := gB_any p165830
                have bp165831 := gB_any p165831
                refine Gp_cast hm165826 he165827 rfl dr_cX17_run_105 wr_10_202 (gr_cast 1 rfl) ?_
                have ac165840 : (fI (F165727 q162025) 26).toInt = z165726.toInt := by rw [he165734]; rfl
                refine Gw_callV (As := [.ref q165816]) (gV_ok D I) (ct_160201_SpillForgeModel_step l hl0 D I γ el P162023 F165727 q162025 q165816 hT165736 htq162025 ht165819) dr_cX17_run_108 ⟨wr_11_96, wr_1_14, wr_11_99, by decide, rfl, (Nat.le_of_ble_eq_true rfl), (Nat.le_of_ble_eq_true rfl)⟩ wr_11_98 wr_p_114 hm165604 he165734 rfl (show 0 + 0 ≤ 0 by first | omega | decide) (show 0 + 0 ≤ 0 by first | omega | decide) (Nat.le_of_ble_eq_true rfl) (fun r165844 w165845 dc165841 ds165842 hp165843 => ?_) (fun _ _ _ _ _ z => z.elim)
                obtain ⟨F165849, o165846, rfl, rfl, hT165850, hs165851, hdc, hds, bo165846, x165847, x165848⟩ := hp165843
                have he165852 : F165849 q162026 = .inr (18, [.ref q165655, .ref q165656, .int p165657, .int p165658]) := (hs165851 q162026 (rT0 htq162026 (by decide)) (rT1 htq162026 (by decide)) (rT2 htq162026 (by decide))).trans he165730
                have he165853 : F165849 q165655 = .inr (4, [.int p165677, .ref q165679, .int p165678]) := (hs165851 q165655 (rT0 ht165659 (by decide)) (rT1 ht165659 (by decide)) (rT2 ht165659 (by decide))).trans he165731
                have he165854 : F165849 q165679 = .inl (I (.object "java/lang/Object"), n165693, .inr (.inr (.inr (.inr f165694)))) := (hs165851 q165679 (rT0 r165685 (by decide)) (rT1 r165685 (by decide)) (rT2 r165685 (by decide))).trans he165732
                have he165855 : F165849 q165696 = .inr (17, [.ref q165705, .ref q165706, .int p165707, .int p165708]) := (hs165851 q165696 (rT0 ht165701 (by decide)) (rT1 ht165701 (by decide)) (rT2 ht165701 (by decide))).trans he165733
                have he165856 : F165849 q165705 = .inr (4, [.int p165739, .ref q165741, .int p165740]) := (hs165851 q165705 (rT0 ht165709 (by decide)) (rT1 ht165709 (by decide)) (rT2 ht165709 (by decide))).trans he165738
                have he165857 : F165849 q165741 = .inl (I (.object "java/lang/Object"), n165813, .inr (.inr (.inr (.inr f165814)))) := (hs165851 q165741 (rT0 r165805 (by decide)) (rT1 r165805 (by decide)) (rT2 r165805 (by decide))).trans r165807
                have he165858 : F165849 q165816 = .inr (20, [.int p165828, .int p165829, .int p165830, .int p165831, .int p165832, .int p165833, .int p165834]) := (hs165851 q165816 (rT0 ht165819 (by decide)) (rT1 ht165819 (by decide)) (rT2 ht165819 (by decide))).trans he165827
                have hs165859 : rStr γ [] F162024 F165849 := rStr_tr hs165735 hs165851
                change G _ _ _ _ _ _ _ (.int o165846 :: _) _ _ _
                refine G_widen (cs' := 0) (sl' := 0) (by omega) (by omega) ?_
                refine G_istore (L' := [(6, .int o165846), (5, .ref q165696), (4, .int g165595), (3, .int g165594), (0, .ref q162025), (1, .ref q162026), (2, .int p162027)]) dr_cX17_run_111 (Nat.le_of_ble_eq_true rfl) rfl ?_
                refine G_iload 0 dr_cX17_run_113 rfl ?_
                refine G_if_lt 121 dr_cX17_run_115 (by decide +kernel) (fun hc165860 => ?_) (fun hc165860 => ?_)
                · have r165861 : o165846.toInt < 0 := gj_lt hc165860 (show Int32.toInt 0 = 0 by decide)
                  have bo165846' : gB o165846 (-1) (-1) := ⟨by omega, by omega⟩
                  obtain ⟨z165862, hz165862⟩ : ∃ z : Int32, z = g165595 + Int32.ofInt 1 := ⟨_, rfl⟩
                  have ez165862 : z165862.toInt = g165595.toInt + 1 := gI_inc hz165862 (by decide) bg165595' (by decide) (by decide)
                  have bz165862 : gB z165862 1 1000000 := ⟨by omega, by omega⟩
                  refine G_iinc (L' := [(4, .int z165862), (6, .int o165846), (5, .ref q165696), (3, .int g165594), (0, .ref q162025), (1, .ref q162026), (2, .int p162027)]) z165862 2 dr_cX17_run_121 rfl hz165862.symm (Nat.le_of_ble_eq_true rfl) rfl ?_
                  refine G_goto 54 dr_cX17_run_124 (by decide +kernel) ?_
                  refine G_lv (L' := [(4, .int z165862), (3, .int g165594), (0, .ref q162025), (1, .ref q162026), (2, .int p162027)]) [0, 3, 4, 5, 6] rfl ?_
                  have hm165863 : q162025 ∈ P162023 := RS_m hT165850 htq162025 (by decide)
                  obtain ⟨q165865, q165866, p165867, p165868, p165869, p165870, p165871, p165872, p165873, p165874, p165875, p165876, p165877, p165878, p165879, p165880, p165881, he165864, hB165908, ht165882, ht165883, ht165884, ht165885, ht165886, ht165887, ht165888, ht165889, ht165890, ht165891, ht165892, ht165893, ht165894, ht165895, ht165896, ht165897, ht165898, ht165899, ht165900, ht165901, ht165902, ht165903, ht165904, ht165905, hB165909⟩ := show rk_10 γ (F165849 q162025) from RS_o hT165850 htq162025
                  have ac165910 : (fI (F165849 q162025) 26).toInt = p165876.toInt := by rw [he165864]; rfl
                  have bp165876 : gB p165876 0 100000 := (hB165908.2.2.2.2.2.1)
                  have ac165911 : (fI (F165849 q162025) 26).toInt = p165876.toInt := by rw [he165864]; rfl
                  exact ih54_165600 F165849 g165594 z165862 bg165594 (gB_w bz165862 (by decide) (by decide)) hT165850 hs165859 (by omega) (by omega) (by omega)
                · have r165912 : 0 ≤ o165846.toInt := gj_nlt hc165860 (show Int32.toInt 0 = 0 by decide)
                  have bo165846' : gB o165846 0 5 := ⟨by omega, by omega⟩
                  refine G_iload 0 dr_cX17_run_118 rfl ?_
                  exact G_iretA dr_cX17_run_120 rfl (Nat.le_of_ble_eq_true rfl) (Nat.le_of_ble_eq_true rfl) ⟨F165849, o165846, rfl, rfl, hT165850, hs165859, (Nat.le_of_ble_eq_true rfl), (Nat.le_of_ble_eq_true rfl), bo165846'⟩
            · have r165913 : p165617.toInt = p162027.toInt := gC_eq hc165724
              have bp165617' : gB p165617 1 100000 := ⟨by omega, by omega⟩
              refine G_iconst 4 dr_cX17_run_69 (by decide +kernel) ?_
              exact G_iretA dr_cX17_run_70 rfl (Nat.le_of_ble_eq_true rfl) (Nat.le_of_ble_eq_true rfl) ⟨F165596, 4, rfl, rfl, hT165597, hs165598, (Nat.le_of_ble_eq_true rfl), (Nat.le_of_ble_eq_true rfl), (gB_w (gBl (show Int32.toInt 4 = 4 by decide)) (by decide) (by decide))⟩
        have ac165914 : (fI (F165322 q162025) 26).toInt = 0 := by rw [he165325]; show Int32.toInt 0 = 0; decide
        exact hlp54_165600 ((p162027.toInt - (fI (F165322 q162025) 26).toInt).toNat + 1) F165322 0 0 (gB_w (gBl (show Int32.toInt 0 = 0 by decide)) (by decide) (by decide)) (gB_w (gBl (show Int32.toInt 0 = 0 by decide)) (by decide) (by decide)) hT165328 hs165326 (by have qa0 : Int32.toInt 0 = 0 := (by decide); omega) (by omega) (Nat.lt_succ_self _)
      · have r165915 : g165247.toInt < 2000 := gj_nleL hc165303 (show Int32.toInt 2000 = 2000 by decide)
        have bg165247' : gB g165247 0 1999 := ⟨by omega, by omega⟩
        refine G_aload_n 1 dr_cX17_run_9 rfl ?_
        refine Gp_get 20 hm165254 he165255 dr_cX17_run_10 (gk_X17 D I) (Nat.le_of_ble_eq_true rfl) wr_7_94 rfl ?_
        refine G_iload_n 0 dr_cX17_run_13 rfl ?_
        refine G_iconst 0 dr_cX17_run_14 (by decide +kernel) ?_
        have hm165916 : (γ 9 20) ∈ P162023 := RS_m hT165249 ht165289 (by decide)
        obtain ⟨f165918, he165917⟩ := show rk_22 I (F165248 (γ 9 20)) from RS_o hT165249 ht165289
        refine Gp_iast 0 hm165916 he165917 dr_cX17_run_15 rfl (gB_in bg165247' (by decide) (by decide)) (fun F165919 e165920 n165921 => ?_)
        obtain ⟨f165922, hf165922⟩ : ∃ z, z = upd f165918 g165247.toNatClampNeg 0 := ⟨_, rfl⟩
        rw [← hf165922] at e165920
        have he165923 : F165919 q162025 = .inr (22, [.ref (γ 9 0), .ref (γ 9 1), .ref (γ 9 2), .ref (γ 9 3), .ref (γ 9 4), .ref (γ 9 5), .ref (γ 9 6), .ref (γ 9 7), .ref (γ 9 8), .int p165258, .int p165259, .int p165260, .int p165261, .int p165262, .int p165263, .ref (γ 9 15), .ref (γ 9 16), .ref (γ 9 17), .ref (γ 9 18), .ref (γ 9 19), .ref (γ 9 20), .ref (γ 9 21), .ref (γ 9 22), .int p165264, .int p165265, .int p165266, .int p165267, .int p165268, .ref q165256, .ref (γ 9 29), .int p165269, .ref (γ 9 31), .int p165270, .int p165271, .int p165272, .ref q165257]) := (n165921 q162025 (rn_oa he165255 he165917)).trans he165255
        have he165924 : F165919 (γ 9 20) = .inl (I .int, 2000, .inl f165922) := e165920
        have hs165925 : rStr γ [] F162024 F165919 := rStr_put hs165250 n165921 ht165289 (by decide)
        refine G_aload_n 1 dr_cX17_run_16 rfl ?_
        refine Gp_get 21 hm165254 he165923 dr_cX17_run_17 (gk_X17 D I) (Nat.le_of_ble_eq_true rfl) wr_7_95 rfl ?_
        refine G_iload_n 0 dr_cX17_run_20 rfl ?_
        refine G_iconst 0 dr_cX17_run_21 (by decide +kernel) ?_
        have hT165926 : RS D I P162023 F165919 γ el := RS_set hT165249 n165921 ht165289 (by decide) ⟨f165922, he165924⟩
        have hm165927 : (γ 9 21) ∈ P162023 := RS_m hT165926 ht165290 (by decide)
        obtain ⟨f165929, he165928⟩ := show rk_23 I (F165919 (γ 9 21)) from RS_o hT165926 ht165290
        refine Gp_iast 0 hm165927 he165928 dr_cX17_run_22 rfl (gB_in bg165247' (by decide) (by decide)) (fun F165930 e165931 n165932 => ?_)
        obtain ⟨f165933, hf165933⟩ : ∃ z, z = upd f165929 g165247.toNatClampNeg 0 := ⟨_, rfl⟩
        rw [← hf165933] at e165931
        have he165934 : F165930 q162025 = .inr (22, [.ref (γ 9 0), .ref (γ 9 1), .ref (γ 9 2), .ref (γ 9 3), .ref (γ 9 4), .ref (γ 9 5), .ref (γ 9 6), .ref (γ 9 7), .ref (γ 9 8), .int p165258, .int p165259, .int p165260, .int p165261, .int p165262, .int p165263, .ref (γ 9 15), .ref (γ 9 16), .ref (γ 9 17), .ref (γ 9 18), .ref (γ 9 19), .ref (γ 9 20), .ref (γ 9 21), .ref (γ 9 22), .int p165264, .int p165265, .int p165266, .int p165267, .int p165268, .ref q165256, .ref (γ 9 29), .int p165269, .ref (γ 9 31), .int p165270, .int p165271, .int p165272, .ref q165257]) := (n165932 q162025 (rn_oa he165923 he165928)).trans he165923
        have he165935 : F165930 (γ 9 20) = .inl (I .int, 2000, .inl f165922) := (n165932 (γ 9 20) (rn_ty ht165289 ht165290 (by decide))).trans he165924
        have he165936 : F165930 (γ 9 21) = .inl (I .int, 2000, .inl f165933) := e165931
        have hs165937 : rStr γ [] F162024 F165930 := rStr_put hs165925 n165932 ht165290 (by decide)
        obtain ⟨z165938, hz165938⟩ : ∃ z : Int32, z = g165247 + Int32.ofInt 1 := ⟨_, rfl⟩
        have ez165938 : z165938.toInt = g165247.toInt + 1 := gI_inc hz165938 (by decide) bg165247' (by decide) (by decide)
        have bz165938 : gB z165938 1 2000 := ⟨by omega, by omega⟩
        refine G_iinc (L' := [(3, .int z165938), (0, .ref q162025), (1, .ref q162026), (2, .int p162027)]) z165938 0 dr_cX17_run_23 rfl hz165938.symm (Nat.le_of_ble_eq_true rfl) rfl ?_
        refine G_goto 2 dr_cX17_run_26 (by decide +kernel) ?_
        have hT165939 : RS D I P162023 F165930 γ el := RS_set hT165926 n165932 ht165290 (by decide) ⟨f165933, he165936⟩
        have ac165940 : (fI (F165930 q162025) 26).toInt = p165267.toInt := by rw [he165934]; rfl
        exact ih2_165250 F165930 z165938 (gB_w bz165938 (by decide) (by decide)) hT165939 hs165937 (by omega)
  have hm165941 : q162025 ∈ P162023 := RS_m hT htq162025 (by decide)
  obtain ⟨q165943, q165944, p165945, p165946, p165947, p165948, p165949, p165950, p165951, p165952, p165953, p165954, p165955, p165956, p165957, p165958, p165959, he165942, hB165986, ht165960, ht165961, ht165962, ht165963, ht165964, ht165965, ht165966, ht165967, ht165968, ht165969, ht165970, ht165971, ht165972, ht165973, ht165974, ht165975, ht165976, ht165977, ht165978, ht165979, ht165980, ht165981, ht165982, ht165983, hB165987⟩ := show rk_10 γ (F162024 q162025) from RS_o hT htq162025
  have ac165988 : (fI (F162024 q162025) 26).toInt = p165954.toInt := by rw [he165942]; rfl
  have bp165954 : gB p165954 0 100000 := (hB165986.2.2.2.2.2.1)
  have ac165989 : (fI (F162024 q162025) 26).toInt = p165954.toInt := by rw [he165942]; rfl
  exact hlp2_165250 (((2001 : Int) - 0).toNat + 1) F162024 0 (gB_w (gBl (show Int32.toInt 0 = 0 by decide)) (by decide) (by decide)) hT (rStr_rf (γ := γ) (W := []) (F := F162024)) (Nat.lt_succ_self _)
abbrev ky_165998_SpillForgeModel_rename : gKey := (cX17_rename, 7, "SpillForgeModel", none, [], "rename", fun _ _ => True)
def pt_165998_SpillForgeModel_rename (D : va_G) (I : FieldType → ClassId) (γ el : Nat → Nat → Nat) (P165992 : List Nat) (F165993 : Nat → va_E) (q165994 : Nat) (p165995 : Int32) (p165996 : Int32) : Option Value → va_W → Nat → Nat → Prop := fun r w dc ds => ∃ (F189535 : Nat → va_E), r = none ∧ w = va_pl P165992 F189535 ∧ RS D I P165992 F189535 γ el ∧ rStr γ [1] F165993 F189535 ∧ dc ≤ 0 ∧ ds ≤ 0
set_option maxRecDepth 100000 in
set_option maxHeartbeats 4000000 in
theorem ct_165998_SpillForgeModel_rename (l : Launch) (hl0 : l.stackTraces = false) (D : va_G) (I : FieldType → ClassId) (γ el : Nat → Nat → Nat) (P165992 : List Nat) (F165993 : Nat → va_E) (q165994 : Nat) (p165995 : Int32) (p165996 : Int32) (hT : RS D I P165992 F165993 γ el) (htq165994 : rKd γ q165994 9) (bp165995 : gB p165995 0 1999) (bp165996 : gB p165996 0 1999) (x165997 : 0 < γ 6 (γ 1 q165994)) : CtA (gV D I) l yX17_rename cX17_rename 7 none 4 85 0 0 [.ref q165994, .int p165995, .int p165996] (va_pl P165992 F165993) (pt_165998_SpillForgeModel_rename D I γ el P165992 F165993 q165994 p165995 p165996) gNA := by
  refine CtA_of hl0 (by decide) (Nat.le_of_ble_eq_true rfl) ?_
  refine G_iconst 0 dr_cX17_rename_0 (by decide +kernel) ?_
  refine G_istore_n (L' := [(3, .int 0), (0, .ref q165994), (1, .int p165995), (2, .int p165996)]) dr_cX17_rename_1 (Nat.le_of_ble_eq_true rfl) rfl ?_
  have hlp2_187934 : ∀ (n2_187934 : Nat) (F187932 : Nat → va_E) (g187931 : Int32), gB g187931 0 1000000 → RS D I P165992 F187932 γ el → rStr γ [1] F165993 F187932 → ((1000001 : Int) - g187931.toInt).toNat < n2_187934 → G (gV D I) l (gRm 4 85 0 0) (gMA (gV D I) (pt_165998_SpillForgeModel_rename D I γ el P165992 F165993 q165994 p165995 p165996) gNA 0 0) ky_165998_SpillForgeModel_rename 2 [(3, .int g187931), (0, .ref q165994), (1, .int p165995), (2, .int p165996)] [] (va_pl P165992 F187932) 0 0 := by
    intro n2_187934
    induction n2_187934 with
    | zero => intro F187932 g187931 bg187931 hT187933 hs187934 hm2_187934; exact absurd hm2_187934 (Nat.not_lt_zero _)
    | succ n2_187934 ih2_187934 =>
      intro F187932 g187931 bg187931 hT187933 hs187934 hm2_187934
      have hs187936 : rStr γ [1] F165993 F187932 := fun b h0 hb hw => (hs187934 b h0 hb hw).trans ((rStr_rf (γ := γ) (W := [1]) (F := F165993)) b h0 hb hw).symm
      have hs187937 : rStr γ [1] F165993 F187932 := rStr_tr (rStr_rf (γ := γ) (W := [1]) (F := F165993)) hs187936
      refine G_iload_n 0 dr_cX17_rename_2 rfl ?_
      refine G_aload_n 1 dr_cX17_rename_3 rfl ?_
      have hm187938 : q165994 ∈ P165992 := RS_m hT187933 htq165994 (by decide)
      obtain ⟨q187940, q187941, p187942, p187943, he187939, ht187959, ht187944, ht187945, ht187946, ht187947, r187948, r187949, r187950, r187951, r187952, r187953, r187954, r187955, r187956, r187957, r187958⟩ := show rk_9 γ el q165994 (F187932 q165994) from RS_o hT187933 htq165994
      have bp187942 : gB p187942 0 1000000 := ⟨by omega, by omega⟩
      have bp187943 : gB p187943 0 1000000 := ⟨by omega, by omega⟩
      refine Gw_callV (As := []) (gV_ok D I) (cp_12496_Code_size l hl0 D I P165992 F187932 q165994 q187940 q187941 p187942 p187943 hm187938 he187939) dr_cX17_rename_4 ⟨wr_10_160, wr_1_15, wr_9_131, by decide, rfl, (Nat.le_of_ble_eq_true rfl), (Nat.le_of_ble_eq_true rfl)⟩ wr_9_129 wr_9_130 hm187938 he187939 rfl (show 0 + 0 ≤ 0 by first | omega | decide) (show 0 + 0 ≤ 0 by first | omega | decide) (Nat.le_of_ble_eq_true rfl) (fun r187963 w187964 dc187960 ds187961 hp187962 => ?_) (fun _ _ _ _ _ z => z.elim)
      obtain ⟨rfl, rfl, hdc, hds⟩ := hp187962
      change G _ _ _ _ _ _ _ (.int p187943 :: _) _ _ _
      refine G_widen (cs' := 0) (sl' := 0) (by omega) (by omega) ?_
      refine G_icmp_ge 150 dr_cX17_rename_7 (by decide +kernel) (fun hc187965 => ?_) (fun hc187965 => ?_)
      · have r187966 : p187943.toInt ≤ g187931.toInt := gC_le hc187965
        exact G_vretA dr_cX17_rename_150 rfl (Nat.le_of_ble_eq_true rfl) (Nat.le_of_ble_eq_true rfl) ⟨F187932, rfl, rfl, hT187933, hs187934, (Nat.le_of_ble_eq_true rfl), (Nat.le_of_ble_eq_true rfl)⟩
      · have r187967 : g187931.toInt < p187943.toInt := gC_nle hc187965
        have bg187931' : gB g187931 0 999999 := ⟨by omega, by omega⟩
        have bp187943' : gB p187943 1 1000000 := ⟨by omega, by omega⟩
        refine G_aload_n 1 dr_cX17_rename_10 rfl ?_
        refine G_iload_n 0 dr_cX17_rename_11 rfl ?_
        have hm187968 : q187940 ∈ P165992 := RS_m hT187933 ht187944 (by decide)
        obtain ⟨⟨p187970, p187971, q187972, he187969, r187973, r187974, r187975, r187977⟩, r187976⟩ := show rk_4 D I γ el F187932 q187940 from RS_o hT187933 ht187944
        have bp187970 := gB_any p187970
        have bp187971 : gB p187971 0 1000000 := ⟨by omega, by omega⟩
        obtain ⟨r187978, r187979, n187986, f187987, r187980, r187981, r187982, r187983, r187984, r187985⟩ := rLC_n r187975 (by omega)
        have hm187988 : q187972 ∈ P165992 := RS_m hT187933 r187978 (by decide)
        obtain ⟨q187989, hx187990⟩ : ∃ x, x = el q187940 g187931.toInt.toNat := ⟨_, rfl⟩
        have hx187991 : f187987 g187931.toNatClampNeg = some q187989 := (r187984 _ (show g187931.toInt.toNat < γ 2 q187940 by omega)).trans (by rw [hx187990])
        have ht187994 : rKd γ q187989 2 := by rw [hx187990]; exact (r187955 _ (by omega)).resolve_right (fun z => absurd z.1 (by omega))
        have ht187995 : rFm γ q187989 q187940 := by rw [hx187990]; exact (r187976 _ (show g187931.toInt.toNat < γ 2 q187940 by omega)).2.1
        have hm187996 : q187989 ∈ P165992 := RS_m hT187933 ht187994 (by decide)
        obtain ⟨q187998, q187999, p188000, p188001, he187997, ht188008, ht188002, ht188003, ht188004, ht188005, ht188006, bp188000, bp188001, r188007, r188009, r188010⟩ := show rk_2 γ q187989 (F187932 q187989) from RS_o hT187933 ht187994
        refine Gw_callV (As := [.int g187931]) (gV_ok D I) (cp_7737_Code_get l hl0 D I P165992 F187932 q165994 q187940 q187972 g187931 q187941 p187942 p187943 p187970 p187971 f187987 n187986 q187989 q187998 q187999 p188000 p188001 hm187938 hm187968 hm187988 hm187996 he187939 he187969 r187980 he187997 (gB_w bg187931' (by decide) (by decide)) (gB_w bp187971 (by decide) (by decide)) (by omega) (by omega) (by assumption) (by omega)) dr_cX17_rename_12 ⟨wr_10_161, wr_1_15, wr_10_141, by decide, rfl, (Nat.le_of_ble_eq_true rfl), (Nat.le_of_ble_eq_true rfl)⟩ wr_10_139 wr_10_140 hm187938 he187939 rfl (show 0 + 0 ≤ 0 by first | omega | decide) (show 0 + 0 ≤ 0 by first | omega | decide) (Nat.le_of_ble_eq_true rfl) (fun r188014 w188015 dc188011 ds188012 hp188013 => ?_) (fun _ _ _ _ _ z => z.elim)
        obtain ⟨rfl, rfl, hdc, hds⟩ := hp188013
        change G _ _ _ _ _ _ _ (.ref q187989 :: _) _ _ _
        refine G_widen (cs' := 0) (sl' := 0) (by omega) (by omega) ?_
        refine G_astore (L' := [(4, .ref q187989), (3, .int g187931), (0, .ref q165994), (1, .int p165995), (2, .int p165996)]) dr_cX17_rename_15 (Nat.le_of_ble_eq_true rfl) rfl ?_
        refine G_iconst 0 dr_cX17_rename_17 (by decide +kernel) ?_
        refine G_istore (L' := [(5, .int 0), (4, .ref q187989), (3, .int g187931), (0, .ref q165994), (1, .int p165995), (2, .int p165996)]) dr_cX17_rename_18 (Nat.le_of_ble_eq_true rfl) rfl ?_
        have hlp20_188778 : ∀ (n20_188778 : Nat) (F188776 : Nat → va_E) (g188775 : Int32), gB g188775 0 1000001 → RS D I P165992 F188776 γ el → rStr γ [1] F165993 F188776 → ((1000002 : Int) - g188775.toInt).toNat < n20_188778 → G (gV D I) l (gRm 4 85 0 0) (gMA (gV D I) (pt_165998_SpillForgeModel_rename D I γ el P165992 F165993 q165994 p165995 p165996) gNA 0 0) ky_165998_SpillForgeModel_rename 20 [(5, .int g188775), (4, .ref q187989), (3, .int g187931), (0, .ref q165994), (1, .int p165995), (2, .int p165996)] [] (va_pl P165992 F188776) 0 0 := by
          intro n20_188778
          induction n20_188778 with
          | zero => intro F188776 g188775 bg188775 hT188777 hs188778 hm20_188778; exact absurd hm20_188778 (Nat.not_lt_zero _)
          | succ n20_188778 ih20_188778 =>
            intro F188776 g188775 bg188775 hT188777 hs188778 hm20_188778
            have hs188780 : rStr γ [1] F187932 F188776 := fun b h0 hb hw => (hs188778 b h0 hb hw).trans (hs187934 b h0 hb hw).symm
            have he188781 : F188776 q165994 = .inr (18, [.ref q187940, .ref q187941, .int p187942, .int p187943]) := (hs188780 q165994 (rT0 htq165994 (by decide)) (rT1 htq165994 (by decide)) (rT2 htq165994 (by decide))).trans he187939
            have he188782 : F188776 q187940 = .inr (4, [.int p187970, .ref q187972, .int p187971]) := (hs188780 q187940 (rT0 ht187944 (by decide)) (rT1 ht187944 (by decide)) (rT2 ht187944 (by decide))).trans he187969
            have he188783 : F188776 q187972 = .inl (I (.object "java/lang/Object"), n187986, .inr (.inr (.inr (.inr f187987)))) := (hs188780 q187972 (rT0 r187978 (by decide)) (rT1 r187978 (by decide)) (rT2 r187978 (by decide))).trans r187980
            have he188784 : F188776 q187989 = .inr (17, [.ref q187998, .ref q187999, .int p188000, .int p188001]) := (hs188780 q187989 (rT0 ht187994 (by decide)) (rT1 ht187994 (by decide)) (rT2 ht187994 (by decide))).trans he187997
            have hs188785 : rStr γ [1] F165993 F188776 := rStr_tr hs187934 hs188780
            refine G_iload 0 dr_cX17_rename_20 rfl ?_
            refine G_aload 1 dr_cX17_rename_22 rfl ?_
            refine Gp_get 0 hm187996 he188784 dr_cX17_rename_24 (gk_X12 D I) (Nat.le_of_ble_eq_true rfl) wr_9_220 rfl ?_
            have hm188786 : q187998 ∈ P165992 := RS_m hT188777 ht188002 (by decide)
            obtain ⟨⟨p188788, p188789, q188790, he188787, r188791, r188792, r188793, r188795⟩, r188794⟩ := show rk_3 D I γ el F188776 q187998 from RS_o hT188777 ht188002
            have bp188788 := gB_any p188788
            have bp188789 : gB p188789 0 1000000 := ⟨by omega, by omega⟩
            refine Gw_callV (As := []) (gV_ok D I) (cp_7_ArrayList_size l hl0 D I P165992 F188776 q187998 p188788 q188790 p188789 hm188786 he188787 (gB_w bp188789 (by decide) (by decide))) dr_cX17_rename_27 ⟨wr_10_200, wr_1_18, wr_9_160, by decide, rfl, (Nat.le_of_ble_eq_true rfl), (Nat.le_of_ble_eq_true rfl)⟩ wr_9_158 wr_9_159 hm188786 he188787 rfl (show 0 + 0 ≤ 0 by first | omega | decide) (show 0 + 0 ≤ 0 by first | omega | decide) (Nat.le_of_ble_eq_true rfl) (fun r188799 w188800 dc188796 ds188797 hp188798 => ?_) (fun _ _ _ _ _ z => z.elim)
            obtain ⟨rfl, rfl, hdc, hds⟩ := hp188798
            change G _ _ _ _ _ _ _ (.int p188789 :: _) _ _ _
            refine G_widen (cs' := 0) (sl' := 0) (by omega) (by omega) ?_
            refine G_icmp_gt 144 dr_cX17_rename_30 (by decide +kernel) (fun hc188801 => ?_) (fun hc188801 => ?_)
            · have r188802 : p188789.toInt < g188775.toInt := gC_lt hc188801
              have bg188775' : gB g188775 1 1000001 := ⟨by omega, by omega⟩
              obtain ⟨z188803, hz188803⟩ : ∃ z : Int32, z = g187931 + Int32.ofInt 1 := ⟨_, rfl⟩
              have ez188803 : z188803.toInt = g187931.toInt + 1 := gI_inc hz188803 (by decide) bg187931' (by decide) (by decide)
              have bz188803 : gB z188803 1 1000000 := ⟨by omega, by omega⟩
              refine G_iinc (L' := [(3, .int z188803), (5, .int g188775), (4, .ref q187989), (0, .ref q165994), (1, .int p165995), (2, .int p165996)]) z188803 2 dr_cX17_rename_144 rfl hz188803.symm (Nat.le_of_ble_eq_true rfl) rfl ?_
              refine G_goto 2 dr_cX17_rename_147 (by decide +kernel) ?_
              refine G_lv (L' := [(3, .int z188803), (0, .ref q165994), (1, .int p165995), (2, .int p165996)]) [0, 3, 4, 5] rfl ?_
              exact ih2_187934 F188776 z188803 (gB_w bz188803 (by decide) (by decide)) hT188777 hs188778 (by omega)
            · have r188804 : g188775.toInt ≤ p188789.toInt := gC_nlt hc188801
              have bg188775' : gB g188775 0 1000000 := ⟨by omega, by omega⟩
              refine G_iload 0 dr_cX17_rename_33 rfl ?_
              refine G_aload 1 dr_cX17_rename_35 rfl ?_
              refine Gp_get 0 hm187996 he188784 dr_cX17_rename_37 (gk_X12 D I) (Nat.le_of_ble_eq_true rfl) wr_9_220 rfl ?_
              refine Gw_callV (As := []) (gV_ok D I) (cp_7_ArrayList_size l hl0 D I P165992 F188776 q187998 p188788 q188790 p188789 hm188786 he188787 (gB_w bp188789 (by decide) (by decide))) dr_cX17_rename_40 ⟨wr_10_200, wr_1_18, wr_9_160, by decide, rfl, (Nat.le_of_ble_eq_true rfl), (Nat.le_of_ble_eq_true rfl)⟩ wr_9_158 wr_9_159 hm188786 he188787 rfl (show 0 + 0 ≤ 0 by first | omega | decide) (show 0 + 0 ≤ 0 by first | omega | decide) (Nat.le_of_ble_eq_true rfl) (fun r188808 w188809 dc188805 ds188806 hp188807 => ?_) (fun _ _ _ _ _ z => z.elim)
              obtain ⟨rfl, rfl, hdc, hds⟩ := hp188807
              change G _ _ _ _ _ _ _ (.int p188789 :: _) _ _ _
              refine G_widen (cs' := 0) (sl' := 0) (by omega) (by omega) ?_
              refine G_icmp_ge 62 dr_cX17_rename_43 (by decide +kernel) (fun hc188810 => ?_) (fun hc188810 => ?_)
              · have r188811 : p188789.toInt ≤ g188775.toInt := gC_le hc188810
                refine G_aload 1 dr_cX17_rename_62 rfl ?_
                refine Gp_get 1 hm187996 he188784 dr_cX17_rename_64 (gk_X12 D I) (Nat.le_of_ble_eq_true rfl) wr_9_223 rfl ?_
                refine G_astore (L' := [(6, .ref q187999), (5, .int g188775), (4, .ref q187989), (3, .int g187931), (0, .ref q165994), (1, .int p165995), (2, .int p165996)]) dr_cX17_rename_67 (Nat.le_of_ble_eq_true rfl) rfl ?_
                refine G_aload 0 dr_cX17_rename_69 rfl ?_
                have hm188812 : q187999 ∈ P165992 := RS_m hT188777 ht188004 (by decide)
                obtain ⟨p188814, p188815, p188816, p188817, p188818, p188819, p188820, he188813, bp188814, bp188815, bp188818, bp188819, bp188820, r188821, r188822, r188823, r188824, r188825⟩ := show rk_1 γ q187999 (F188776 q187999) from RS_o hT188777 ht188004
                have bp188816 := gB_any p188816
                have bp188817 := gB_any p188817
                refine Gw_callV (As := []) (gV_ok D I) (cp_1669_Row_usesA l hl0 D I P165992 F188776 q187999 p188814 p188815 p188816 p188817 p188818 p188819 p188820 hm188812 he188813 bp188814 bp188815 bp188818 bp188819 bp188820) dr_cX17_rename_71 ⟨wr_10_192, wr_1_39, wr_10_195, by decide, rfl, (Nat.le_of_ble_eq_true rfl), (Nat.le_of_ble_eq_true rfl)⟩ wr_10_193 wr_10_194 hm188812 he188813 rfl (show 0 + 0 ≤ 0 by first | omega | decide) (show 0 + 0 ≤ 0 by first | omega | decide) (Nat.le_of_ble_eq_true rfl) (fun r188829 w188830 dc188826 ds188827 hp188828 => ?_) (fun _ _ _ _ _ z => z.elim)
                obtain ⟨o188831, rfl, rfl, hdc, hds, bo188831, x188832⟩ := hp188828
                change G _ _ _ _ _ _ _ (.int o188831 :: _) _ _ _
                refine G_widen (cs' := 0) (sl' := 0) (by omega) (by omega) ?_
                refine G_if_eq 92 dr_cX17_rename_74 (by decide +kernel) (fun hc188833 => ?_) (fun hc188833 => ?_)
                · have r188834 : o188831.toInt = 0 := gj_eq hc188833 (show Int32.toInt 0 = 0 by decide)
                  have bo188831' : gB o188831 0 0 := ⟨by omega, by omega⟩
                  refine G_aload 0 dr_cX17_rename_92 rfl ?_
                  refine Gw_callV (As := []) (gV_ok D I) (cp_1693_Row_usesB l hl0 D I P165992 F188776 q187999 p188814 p188815 p188816 p188817 p188818 p188819 p188820 hm188812 he188813 bp188814 bp188815 bp188818 bp188819 bp188820) dr_cX17_rename_94 ⟨wr_10_196, wr_1_39, wr_10_199, by decide, rfl, (Nat.le_of_ble_eq_true rfl), (Nat.le_of_ble_eq_true rfl)⟩ wr_10_197 wr_10_198 hm188812 he188813 rfl (show 0 + 0 ≤ 0 by first | omega | decide) (show 0 + 0 ≤ 0 by first | omega | decide) (Nat.le_of_ble_eq_true rfl) (fun r188838 w188839 dc188835 ds188836 hp188837 => ?_) (fun _ _ _ _ _ z => z.elim)
                  obtain ⟨o188840, rfl, rfl, hdc, hds, bo188840, x188841⟩ := hp188837
                  change G _ _ _ _ _ _ _ (.int o188840 :: _) _ _ _
                  refine G_widen (cs' := 0) (sl' := 0) (by omega) (by omega) ?_
                  refine G_if_eq 115 dr_cX17_rename_97 (by decide +kernel) (fun hc188842 => ?_) (fun hc188842 => ?_)
                  · have r188843 : o188840.toInt = 0 := gj_eq hc188842 (show Int32.toInt 0 = 0 by decide)
                    have bo188840' : gB o188840 0 0 := ⟨by omega, by omega⟩
                    refine G_aload 0 dr_cX17_rename_115 rfl ?_
                    refine Gw_callV (As := []) (gV_ok D I) (cp_1654_Row_sets l hl0 D I P165992 F188776 q187999 p188814 p188815 p188816 p188817 p188818 p188819 p188820 hm188812 he188813 bp188814 bp188815 bp188818 bp188819 bp188820) dr_cX17_rename_117 ⟨wr_10_181, wr_1_39, wr_10_184, by decide, rfl, (Nat.le_of_ble_eq_true rfl), (Nat.le_of_ble_eq_true rfl)⟩ wr_10_182 wr_10_183 hm188812 he188813 rfl (show 0 + 0 ≤ 0 by first | omega | decide) (show 0 + 0 ≤ 0 by first | omega | decide) (Nat.le_of_ble_eq_true rfl) (fun r188847 w188848 dc188844 ds188845 hp188846 => ?_) (fun _ _ _ _ _ z => z.elim)
                    obtain ⟨o188849, rfl, rfl, hdc, hds, bo188849⟩ := hp188846
                    change G _ _ _ _ _ _ _ (.int o188849 :: _) _ _ _
                    refine G_widen (cs' := 0) (sl' := 0) (by omega) (by omega) ?_
                    refine G_if_eq 138 dr_cX17_rename_120 (by decide +kernel) (fun hc188850 => ?_) (fun hc188850 => ?_)
                    · have r188851 : o188849.toInt = 0 := gj_eq hc188850 (show Int32.toInt 0 = 0 by decide)
                      have bo188849' : gB o188849 0 0 := ⟨by omega, by omega⟩
                      obtain ⟨z188852, hz188852⟩ : ∃ z : Int32, z = g188775 + Int32.ofInt 1 := ⟨_, rfl⟩
                      have ez188852 : z188852.toInt = g188775.toInt + 1 := gI_inc hz188852 (by decide) bg188775' (by decide) (by decide)
                      have bz188852 : gB z188852 1 1000001 := ⟨by omega, by omega⟩
                      refine G_iinc (L' := [(5, .int z188852), (6, .ref q187999), (4, .ref q187989), (3, .int g187931), (0, .ref q165994), (1, .int p165995), (2, .int p165996)]) z188852 1 dr_cX17_rename_138 rfl hz188852.symm (Nat.le_of_ble_eq_true rfl) rfl ?_
                      refine G_goto 20 dr_cX17_rename_141 (by decide +kernel) ?_
                      refine G_lv (L' := [(5, .int z188852), (4, .ref q187989), (3, .int g187931), (0, .ref q165994), (1, .int p165995), (2, .int p165996)]) [0, 2, 3, 4, 5, 6] rfl ?_
                      exact ih20_188778 F188776 z188852 (gB_w bz188852 (by decide) (by decide)) hT188777 hs188778 (by omega)
                    · have r188853 : o188849.toInt ≠ 0 := gj_neq hc188850 (show Int32.toInt 0 = 0 by decide)
                      have bo188849' : gB o188849 1 1 := ⟨by omega, by omega⟩
                      refine G_aload 0 dr_cX17_rename_123 rfl ?_
                      refine Gp_get 1 hm188812 he188813 dr_cX17_rename_125 (gk_X15 D I) (Nat.le_of_ble_eq_true rfl) wr_9_182 rfl ?_
                      refine G_iload_n 5 dr_cX17_rename_128 rfl ?_
                      refine G_icmp_ne 138 dr_cX17_rename_129 (by decide +kernel) (fun hc188854 => ?_) (fun hc188854 => ?_)
                      · have r188855 : p188815.toInt ≠ p165995.toInt := gC_ne hc188854
                        obtain ⟨z188856, hz188856⟩ : ∃ z : Int32, z = g188775 + Int32.ofInt 1 := ⟨_, rfl⟩
                        have ez188856 : z188856.toInt = g188775.toInt + 1 := gI_inc hz188856 (by decide) bg188775' (by decide) (by decide)
                        have bz188856 : gB z188856 1 1000001 := ⟨by omega, by omega⟩
                        refine G_iinc (L' := [(5, .int z188856), (6, .ref q187999), (4, .ref q187989), (3, .int g187931), (0, .ref q165994), (1, .int p165995), (2, .int p165996)]) z188856 1 dr_cX17_rename_138 rfl hz188856.symm (Nat.le_of_ble_eq_true rfl) rfl ?_
                        refine G_goto 20 dr_cX17_rename_141 (by decide +kernel) ?_
                        refine G_lv (L' := [(5, .int z188856), (4, .ref q187989), (3, .int g187931), (0, .ref q165994), (1, .int p165995), (2, .int p165996)]) [0, 2, 3, 4, 5, 6] rfl ?_
                        exact ih20_188778 F188776 z188856 (gB_w bz188856 (by decide) (by decide)) hT188777 hs188778 (by omega)
                      · have r188857 : p188815.toInt = p165995.toInt := gC_eq hc188854
                        refine G_aload 0 dr_cX17_rename_132 rfl ?_
                        refine G_iload_n 6 dr_cX17_rename_134 rfl ?_
                        refine Gp_put 1 hm188812 he188813 dr_cX17_rename_135 (gk_X15 D I) (Nat.le_of_ble_eq_true rfl) wr_9_182 rfl rfl rfl (Nat.le_of_ble_eq_true rfl) (fun F188858 e188859 n188860 => ?_)
                        have he188861 : F188858 q165994 = .inr (18, [.ref q187940, .ref q187941, .int p187942, .int p187943]) := (n188860 q165994 (rn_oo he188781 he188813 (by decide))).trans he188781
                        have he188862 : F188858 q187940 = .inr (4, [.int p187970, .ref q187972, .int p187971]) := (n188860 q187940 (rn_oo he188782 he188813 (by decide))).trans he188782
                        have he188863 : F188858 q187972 = .inl (I (.object "java/lang/Object"), n187986, .inr (.inr (.inr (.inr f187987)))) := (n188860 q187972 (rn_ao he188783 he188813)).trans he188783
                        have he188864 : F188858 q187989 = .inr (17, [.ref q187998, .ref q187999, .int p188000, .int p188001]) := (n188860 q187989 (rn_oo he188784 he188813 (by decide))).trans he188784
                        have he188865 : F188858 q187998 = .inr (4, [.int p188788, .ref q188790, .int p188789]) := (n188860 q187998 (rn_oo he188787 he188813 (by decide))).trans he188787
                        have he188866 : F188858 q187999 = .inr (20, [.int p188814, .int p165996, .int p188816, .int p188817, .int p188818, .int p188819, .int p188820]) := e188859
                        have hs188867 : rStr γ [1] F165993 F188858 := rStr_pu2 hs188778 n188860 ht188004 (by decide)
                        obtain ⟨z188868, hz188868⟩ : ∃ z : Int32, z = g188775 + Int32.ofInt 1 := ⟨_, rfl⟩
                        have ez188868 : z188868.toInt = g188775.toInt + 1 := gI_inc hz188868 (by decide) bg188775' (by decide) (by decide)
                        have bz188868 : gB z188868 1 1000001 := ⟨by omega, by omega⟩
                        refine G_iinc (L' := [(5, .int z188868), (6, .ref q187999), (4, .ref q187989), (3, .int g187931), (0, .ref q165994), (1, .int p165995), (2, .int p165996)]) z188868 1 dr_cX17_rename_138 rfl hz188868.symm (Nat.le_of_ble_eq_true rfl) rfl ?_
                        refine G_goto 20 dr_cX17_rename_141 (by decide +kernel) ?_
                        have hT188869 : RS D I P165992 F188858 γ el := RS_set hT188777 n188860 ht188004 (by decide) ⟨p188814, p165996, p188816, p188817, p188818, p188819, p188820, he188866, bp188814, bp165996, bp188818, bp188819, bp188820, (by omega), (by omega), (by omega), (by omega), (by omega)⟩
                        refine G_lv (L' := [(5, .int z188868), (4, .ref q187989), (3, .int g187931), (0, .ref q165994), (1, .int p165995), (2, .int p165996)]) [0, 2, 3, 4, 5, 6] rfl ?_
                        exact ih20_188778 F188858 z188868 (gB_w bz188868 (by decide) (by decide)) hT188869 hs188867 (by omega)
                  · have r188870 : o188840.toInt ≠ 0 := gj_neq hc188842 (show Int32.toInt 0 = 0 by decide)
                    have bo188840' : gB o188840 1 1 := ⟨by omega, by omega⟩
                    refine G_aload 0 dr_cX17_rename_100 rfl ?_
                    refine Gp_get 3 hm188812 he188813 dr_cX17_rename_102 (gk_X15 D I) (Nat.le_of_ble_eq_true rfl) wr_9_190 rfl ?_
                    refine G_iload_n 5 dr_cX17_rename_105 rfl ?_
                    refine G_icmp_ne 115 dr_cX17_rename_106 (by decide +kernel) (fun hc188871 => ?_) (fun hc188871 => ?_)
                    · have r188872 : p188817.toInt ≠ p165995.toInt := gC_ne hc188871
                      refine G_aload 0 dr_cX17_rename_115 rfl ?_
                      refine Gw_callV (As := []) (gV_ok D I) (cp_1654_Row_sets l hl0 D I P165992 F188776 q187999 p188814 p188815 p188816 p188817 p188818 p188819 p188820 hm188812 he188813 bp188814 bp188815 bp188818 bp188819 bp188820) dr_cX17_rename_117 ⟨wr_10_181, wr_1_39, wr_10_184, by decide, rfl, (Nat.le_of_ble_eq_true rfl), (Nat.le_of_ble_eq_true rfl)⟩ wr_10_182 wr_10_183 hm188812 he188813 rfl (show 0 + 0 ≤ 0 by first | omega | decide) (show 0 + 0 ≤ 0 by first | omega | decide) (Nat.le_of_ble_eq_true rfl) (fun r188876 w188877 dc188873 ds188874 hp188875 => ?_) (fun _ _ _ _ _ z => z.elim)
                      obtain ⟨o188878, rfl, rfl, hdc, hds, bo188878⟩ := hp188875
                      change G _ _ _ _ _ _ _ (.int o188878 :: _) _ _ _
                      refine G_widen (cs' := 0) (sl' := 0) (by omega) (by omega) ?_
                      refine G_if_eq 138 dr_cX17_rename_120 (by decide +kernel) (fun hc188879 => ?_) (fun hc188879 => ?_)
                      · have r188880 : o188878.toInt = 0 := gj_eq hc188879 (show Int32.toInt 0 = 0 by decide)
                        have bo188878' : gB o188878 0 0 := ⟨by omega, by omega⟩
                        obtain ⟨z188881, hz188881⟩ : ∃ z : Int32, z = g188775 + Int32.ofInt 1 := ⟨_, rfl⟩
                        have ez188881 : z188881.toInt = g188775.toInt + 1 := gI_inc hz188881 (by decide) bg188775' (by decide) (by decide)
                        have bz188881 : gB z188881 1 1000001 := ⟨by omega, by omega⟩
                        refine G_iinc (L' := [(5, .int z188881), (6, .ref q187999), (4, .ref q187989), (3, .int g187931), (0, .ref q165994), (1, .int p165995), (2, .int p165996)]) z188881 1 dr_cX17_rename_138 rfl hz188881.symm (Nat.le_of_ble_eq_true rfl) rfl ?_
                        refine G_goto 20 dr_cX17_rename_141 (by decide +kernel) ?_
                        refine G_lv (L' := [(5, .int z188881), (4, .ref q187989), (3, .int g187931), (0, .ref q165994), (1, .int p165995), (2, .int p165996)]) [0, 2, 3, 4, 5, 6] rfl ?_
                        exact ih20_188778 F188776 z188881 (gB_w bz188881 (by decide) (by decide)) hT188777 hs188778 (by omega)
                      · have r188882 : o188878.toInt ≠ 0 := gj_neq hc188879 (show Int32.toInt 0 = 0 by decide)
                        have bo188878' : gB o188878 1 1 := ⟨by omega, by omega⟩
                        refine G_aload 0 dr_cX17_rename_123 rfl ?_
                        refine Gp_get 1 hm188812 he188813 dr_cX17_rename_125 (gk_X15 D I) (Nat.le_of_ble_eq_true rfl) wr_9_182 rfl ?_
                        refine G_iload_n 5 dr_cX17_rename_128 rfl ?_
                        refine G_icmp_ne 138 dr_cX17_rename_129 (by decide +kernel) (fun hc188883 => ?_) (fun hc188883 => ?_)
                        · have r188884 : p188815.toInt ≠ p165995.toInt := gC_ne hc188883
                          obtain ⟨z188885, hz188885⟩ : ∃ z : Int32, z = g188775 + Int32.ofInt 1 := ⟨_, rfl⟩
                          have ez188885 : z188885.toInt = g188775.toInt + 1 := gI_inc hz188885 (by decide) bg188775' (by decide) (by decide)
                          have bz188885 : gB z188885 1 1000001 := ⟨by omega, by omega⟩
                          refine G_iinc (L' := [(5, .int z188885), (6, .ref q187999), (4, .ref q187989), (3, .int g187931), (0, .ref q165994), (1, .int p165995), (2, .int p165996)]) z188885 1 dr_cX17_rename_138 rfl hz188885.symm (Nat.le_of_ble_eq_true rfl) rfl ?_
                          refine G_goto 20 dr_cX17_rename_141 (by decide +kernel) ?_
                          refine G_lv (L' := [(5, .int z188885), (4, .ref q187989), (3, .int g187931), (0, .ref q165994), (1, .int p165995), (2, .int p165996)]) [0, 2, 3, 4, 5, 6] rfl ?_
                          exact ih20_188778 F188776 z188885 (gB_w bz188885 (by decide) (by decide)) hT188777 hs188778 (by omega)
                        · have r188886 : p188815.toInt = p165995.toInt := gC_eq hc188883
                          refine G_aload 0 dr_cX17_rename_132 rfl ?_
                          refine G_iload_n 6 dr_cX17_rename_134 rfl ?_
                          refine Gp_put 1 hm188812 he188813 dr_cX17_rename_135 (gk_X15 D I) (Nat.le_of_ble_eq_true rfl) wr_9_182 rfl rfl rfl (Nat.le_of_ble_eq_true rfl) (fun F188887 e188888 n188889 => ?_)
                          have he188890 : F188887 q165994 = .inr (18, [.ref q187940, .ref q187941, .int p187942, .int p187943]) := (n188889 q165994 (rn_oo he188781 he188813 (by decide))).trans he188781
                          have he188891 : F188887 q187940 = .inr (4, [.int p187970, .ref q187972, .int p187971]) := (n188889 q187940 (rn_oo he188782 he188813 (by decide))).trans he188782
                          have he188892 : F188887 q187972 = .inl (I (.object "java/lang/Object"), n187986, .inr (.inr (.inr (.inr f187987)))) := (n188889 q187972 (rn_ao he188783 he188813)).trans he188783
                          have he188893 : F188887 q187989 = .inr (17, [.ref q187998, .ref q187999, .int p188000, .int p188001]) := (n188889 q187989 (rn_oo he188784 he188813 (by decide))).trans he188784
                          have he188894 : F188887 q187998 = .inr (4, [.int p188788, .ref q188790, .int p188789]) := (n188889 q187998 (rn_oo he188787 he188813 (by decide))).trans he188787
                          have he188895 : F188887 q187999 = .inr (20, [.int p188814, .int p165996, .int p188816, .int p188817, .int p188818, .int p188819, .int p188820]) := e188888
                          have hs188896 : rStr γ [1] F165993 F188887 := rStr_pu2 hs188778 n188889 ht188004 (by decide)
                          obtain ⟨z188897, hz188897⟩ : ∃ z : Int32, z = g188775 + Int32.ofInt 1 := ⟨_, rfl⟩
                          have ez188897 : z188897.toInt = g188775.toInt + 1 := gI_inc hz188897 (by decide) bg188775' (by decide) (by decide)
                          have bz188897 : gB z188897 1 1000001 := ⟨by omega, by omega⟩
                          refine G_iinc (L' := [(5, .int z188897), (6, .ref q187999), (4, .ref q187989), (3, .int g187931), (0, .ref q165994), (1, .int p165995), (2, .int p165996)]) z188897 1 dr_cX17_rename_138 rfl hz188897.symm (Nat.le_of_ble_eq_true rfl) rfl ?_
                          refine G_goto 20 dr_cX17_rename_141 (by decide +kernel) ?_
                          have hT188898 : RS D I P165992 F188887 γ el := RS_set hT188777 n188889 ht188004 (by decide) ⟨p188814, p165996, p188816, p188817, p188818, p188819, p188820, he188895, bp188814, bp165996, bp188818, bp188819, bp188820, (by omega), (by omega), (by omega), (by omega), (by omega)⟩
                          refine G_lv (L' := [(5, .int z188897), (4, .ref q187989), (3, .int g187931), (0, .ref q165994), (1, .int p165995), (2, .int p165996)]) [0, 2, 3, 4, 5, 6] rfl ?_
                          exact ih20_188778 F188887 z188897 (gB_w bz188897 (by decide) (by decide)) hT188898 hs188896 (by omega)
                    · have r188899 : p188817.toInt = p165995.toInt := gC_eq hc188871
                      have bp188817' : gB p188817 0 1999 := ⟨by omega, by omega⟩
                      refine G_aload 0 dr_cX17_rename_109 rfl ?_
                      refine G_iload_n 6 dr_cX17_rename_111 rfl ?_
                      refine Gp_put 3 hm188812 he188813 dr_cX17_rename_112 (gk_X15 D I) (Nat.le_of_ble_eq_true rfl) wr_9_190 rfl rfl rfl (Nat.le_of_ble_eq_true rfl) (fun F188900 e188901 n188902 => ?_)
                      have he188903 : F188900 q165994 = .inr (18, [.ref q187940, .ref q187941, .int p187942, .int p187943]) := (n188902 q165994 (rn_oo he188781 he188813 (by decide))).trans he188781
                      have he188904 : F188900 q187940 = .inr (4, [.int p187970, .ref q187972, .int p187971]) := (n188902 q187940 (rn_oo he188782 he188813 (by decide))).trans he188782
                      have he188905 : F188900 q187972 = .inl (I (.object "java/lang/Object"), n187986, .inr (.inr (.inr (.inr f187987)))) := (n188902 q187972 (rn_ao he188783 he188813)).trans he188783
                      have he188906 : F188900 q187989 = .inr (17, [.ref q187998, .ref q187999, .int p188000, .int p188001]) := (n188902 q187989 (rn_oo he188784 he188813 (by decide))).trans he188784
                      have he188907 : F188900 q187998 = .inr (4, [.int p188788, .ref q188790, .int p188789]) := (n188902 q187998 (rn_oo he188787 he188813 (by decide))).trans he188787
                      have he188908 : F188900 q187999 = .inr (20, [.int p188814, .int p188815, .int p188816, .int p165996, .int p188818, .int p188819, .int p188820]) := e188901
                      have hs188909 : rStr γ [1] F165993 F188900 := rStr_pu2 hs188778 n188902 ht188004 (by decide)
                      refine G_aload 0 dr_cX17_rename_115 rfl ?_
                      have hT188910 : RS D I P165992 F188900 γ el := RS_set hT188777 n188902 ht188004 (by decide) ⟨p188814, p188815, p188816, p165996, p188818, p188819, p188820, he188908, bp188814, bp188815, bp188818, bp188819, bp188820, (by omega), (by omega), (by omega), (by omega), (by omega)⟩
                      refine Gw_callV (As := []) (gV_ok D I) (cp_1654_Row_sets l hl0 D I P165992 F188900 q187999 p188814 p188815 p188816 p165996 p188818 p188819 p188820 hm188812 he188908 bp188814 bp188815 bp188818 bp188819 bp188820) dr_cX17_rename_117 ⟨wr_10_181, wr_1_39, wr_10_184, by decide, rfl, (Nat.le_of_ble_eq_true rfl), (Nat.le_of_ble_eq_true rfl)⟩ wr_10_182 wr_10_183 hm188812 he188908 rfl (show 0 + 0 ≤ 0 by first | omega | decide) (show 0 + 0 ≤ 0 by first | omega | decide) (Nat.le_of_ble_eq_true rfl) (fun r188914 w188915 dc188911 ds188912 hp188913 => ?_) (fun _ _ _ _ _ z => z.elim)
                      obtain ⟨o188916, rfl, rfl, hdc, hds, bo188916⟩ := hp188913
                      change G _ _ _ _ _ _ _ (.int o188916 :: _) _ _ _
                      refine G_widen (cs' := 0) (sl' := 0) (by omega) (by omega) ?_
                      refine G_if_eq 138 dr_cX17_rename_120 (by decide +kernel) (fun hc188917 => ?_) (fun hc188917 => ?_)
                      · have r188918 : o188916.toInt = 0 := gj_eq hc188917 (show Int32.toInt 0 = 0 by decide)
                        have bo188916' : gB o188916 0 0 := ⟨by omega, by omega⟩
                        obtain ⟨z188919, hz188919⟩ : ∃ z : Int32, z = g188775 + Int32.ofInt 1 := ⟨_, rfl⟩
                        have ez188919 : z188919.toInt = g188775.toInt + 1 := gI_inc hz188919 (by decide) bg188775' (by decide) (by decide)
                        have bz188919 : gB z188919 1 1000001 := ⟨by omega, by omega⟩
                        refine G_iinc (L' := [(5, .int z188919), (6, .ref q187999), (4, .ref q187989), (3, .int g187931), (0, .ref q165994), (1, .int p165995), (2, .int p165996)]) z188919 1 dr_cX17_rename_138 rfl hz188919.symm (Nat.le_of_ble_eq_true rfl) rfl ?_
                        refine G_goto 20 dr_cX17_rename_141 (by decide +kernel) ?_
                        refine G_lv (L' := [(5, .int z188919), (4, .ref q187989), (3, .int g187931), (0, .ref q165994), (1, .int p165995), (2, .int p165996)]) [0, 2, 3, 4, 5, 6] rfl ?_
                        exact ih20_188778 F188900 z188919 (gB_w bz188919 (by decide) (by decide)) hT188910 hs188909 (by omega)
                      · have r188920 : o188916.toInt ≠ 0 := gj_neq hc188917 (show Int32.toInt 0 = 0 by decide)
                        have bo188916' : gB o188916 1 1 := ⟨by omega, by omega⟩
                        refine G_aload 0 dr_cX17_rename_123 rfl ?_
                        refine Gp_get 1 hm188812 he188908 dr_cX17_rename_125 (gk_X15 D I) (Nat.le_of_ble_eq_true rfl) wr_9_182 rfl ?_
                        refine G_iload_n 5 dr_cX17_rename_128 rfl ?_
                        refine G_icmp_ne 138 dr_cX17_rename_129 (by decide +kernel) (fun hc188921 => ?_) (fun hc188921 => ?_)
                        · have r188922 : p188815.toInt ≠ p165995.toInt := gC_ne hc188921
                          obtain ⟨z188923, hz188923⟩ : ∃ z : Int32, z = g188775 + Int32.ofInt 1 := ⟨_, rfl⟩
                          have ez188923 : z188923.toInt = g188775.toInt + 1 := gI_inc hz188923 (by decide) bg188775' (by decide) (by decide)
                          have bz188923 : gB z188923 1 1000001 := ⟨by omega, by omega⟩
                          refine G_iinc (L' := [(5, .int z188923), (6, .ref q187999), (4, .ref q187989), (3, .int g187931), (0, .ref q165994), (1, .int p165995), (2, .int p165996)]) z188923 1 dr_cX17_rename_138 rfl hz188923.symm (Nat.le_of_ble_eq_true rfl) rfl ?_
                          refine G_goto 20 dr_cX17_rename_141 (by decide +kernel) ?_
                          refine G_lv (L' := [(5, .int z188923), (4, .ref q187989), (3, .int g187931), (0, .ref q165994), (1, .int p165995), (2, .int p165996)]) [0, 2, 3, 4, 5, 6] rfl ?_
                          exact ih20_188778 F188900 z188923 (gB_w bz188923 (by decide) (by decide)) hT188910 hs188909 (by omega)
                        · have r188924 : p188815.toInt = p165995.toInt := gC_eq hc188921
                          refine G_aload 0 dr_cX17_rename_132 rfl ?_
                          refine G_iload_n 6 dr_cX17_rename_134 rfl ?_
                          refine Gp_put 1 hm188812 he188908 dr_cX17_rename_135 (gk_X15 D I) (Nat.le_of_ble_eq_true rfl) wr_9_182 rfl rfl rfl (Nat.le_of_ble_eq_true rfl) (fun F188925 e188926 n188927 => ?_)
                          have he188928 : F188925 q165994 = .inr (18, [.ref q187940, .ref q187941, .int p187942, .int p187943]) := (n188927 q165994 (rn_oo he188903 he188908 (by decide))).trans he188903
                          have he188929 : F188925 q187940 = .inr (4, [.int p187970, .ref q187972, .int p187971]) := (n188927 q187940 (rn_oo he188904 he188908 (by decide))).trans he188904
                          have he188930 : F188925 q187972 = .inl (I (.object "java/lang/Object"), n187986, .inr (.inr (.inr (.inr f187987)))) := (n188927 q187972 (rn_ao he188905 he188908)).trans he188905
                          have he188931 : F188925 q187989 = .inr (17, [.ref q187998, .ref q187999, .int p188000, .int p188001]) := (n188927 q187989 (rn_oo he188906 he188908 (by decide))).trans he188906
                          have he188932 : F188925 q187998 = .inr (4, [.int p188788, .ref q188790, .int p188789]) := (n188927 q187998 (rn_oo he188907 he188908 (by decide))).trans he188907
                          have he188933 : F188925 q187999 = .inr (20, [.int p188814, .int p165996, .int p188816, .int p165996, .int p188818, .int p188819, .int p188820]) := e188926
                          have hs188934 : rStr γ [1] F165993 F188925 := rStr_pu2 hs188909 n188927 ht188004 (by decide)
                          obtain ⟨z188935, hz188935⟩ : ∃ z : Int32, z = g188775 + Int32.ofInt 1 := ⟨_, rfl⟩
                          have ez188935 : z188935.toInt = g188775.toInt + 1 := gI_inc hz188935 (by decide) bg188775' (by decide) (by decide)
                          have bz188935 : gB z188935 1 1000001 := ⟨by omega, by omega⟩
                          refine G_iinc (L' := [(5, .int z188935), (6, .ref q187999), (4, .ref q187989), (3, .int g187931), (0, .ref q165994), (1, .int p165995), (2, .int p165996)]) z188935 1 dr_cX17_rename_138 rfl hz188935.symm (Nat.le_of_ble_eq_true rfl) rfl ?_
                          refine G_goto 20 dr_cX17_rename_141 (by decide +kernel) ?_
                          have hT188936 : RS D I P165992 F188925 γ el := RS_set hT188910 n188927 ht188004 (by decide) ⟨p188814, p165996, p188816, p165996, p188818, p188819, p188820, he188933, bp188814, bp165996, bp188818, bp188819, bp188820, (by omega), (by omega), (by omega), (by omega), (by omega)⟩
                          refine G_lv (L' := [(5, .int z188935), (4, .ref q187989), (3, .int g187931), (0, .ref q165994), (1, .int p165995), (2, .int p165996)]) [0, 2, 3, 4, 5, 6] rfl ?_
                          exact ih20_188778 F188925 z188935 (gB_w bz188935 (by decide) (by decide)) hT188936 hs188934 (by omega)
                · have r188937 : o188831.toInt ≠ 0 := gj_neq hc188833 (show Int32.toInt 0 = 0 by decide)
                  have bo188831' : gB o188831 1 1 := ⟨by omega, by omega⟩
                  refine G_aload 0 dr_cX17_rename_77 rfl ?_
                  refine Gp_get 2 hm188812 he188813 dr_cX17_rename_79 (gk_X15 D I) (Nat.le_of_ble_eq_true rfl) wr_9_186 rfl ?_
                  refine G_iload_n 5 dr_cX17_rename_82 rfl ?_
                  refine G_icmp_ne 92 dr_cX17_rename_83 (by decide +kernel) (fun hc188938 => ?_) (fun hc188938 => ?_)
                  · have r188939 : p188816.toInt ≠ p165995.toInt := gC_ne hc188938
                    refine G_aload 0 dr_cX17_rename_92 rfl ?_
                    refine Gw_callV (As := []) (gV_ok D I) (cp_1693_Row_usesB l hl0 D I P165992 F188776 q187999 p188814 p188815 p188816 p188817 p188818 p188819 p188820 hm188812 he188813 bp188814 bp188815 bp188818 bp188819 bp188820) dr_cX17_rename_94 ⟨wr_10_196, wr_1_39, wr_10_199, by decide, rfl, (Nat.le_of_ble_eq_true rfl), (Nat.le_of_ble_eq_true rfl)⟩ wr_10_197 wr_10_198 hm188812 he188813 rfl (show 0 + 0 ≤ 0 by first | omega | decide) (show 0 + 0 ≤ 0 by first | omega | decide) (Nat.le_of_ble_eq_true rfl) (fun r188943 w188944 dc188940 ds188941 hp188942 => ?_) (fun _ _ _ _ _ z => z.elim)
                    obtain ⟨o188945, rfl, rfl, hdc, hds, bo188945, x188946⟩ := hp188942
                    change G _ _ _ _ _ _ _ (.int o188945 :: _) _ _ _
                    refine G_widen (cs' := 0) (sl' := 0) (by omega) (by omega) ?_
                    refine G_if_eq 115 dr_cX17_rename_97 (by decide +kernel) (fun hc188947 => ?_) (fun hc188947 => ?_)
                    · have r188948 : o188945.toInt = 0 := gj_eq hc188947 (show Int32.toInt 0 = 0 by decide)
                      have bo188945' : gB o188945 0 0 := ⟨by omega, by omega⟩
                      refine G_aload 0 dr_cX17_rename_115 rfl ?_
                      refine Gw_callV (As := []) (gV_ok D I) (cp_1654_Row_sets l hl0 D I P165992 F188776 q187999 p188814 p188815 p188816 p188817 p188818 p188819 p188820 hm188812 he188813 bp188814 bp188815 bp188818 bp188819 bp188820) dr_cX17_rename_117 ⟨wr_10_181, wr_1_39, wr_10_184, by decide, rfl, (Nat.le_of_ble_eq_true rfl), (Nat.le_of_ble_eq_true rfl)⟩ wr_10_182 wr_10_183 hm188812 he188813 rfl (show 0 + 0 ≤ 0 by first | omega | decide) (show 0 + 0 ≤ 0 by first | omega | decide) (Nat.le_of_ble_eq_true rfl) (fun r188952 w188953 dc188949 ds188950 hp188951 => ?_) (fun _ _ _ _ _ z => z.elim)
                      obtain ⟨o188954, rfl, rfl, hdc, hds, bo188954⟩ := hp188951
                      change G _ _ _ _ _ _ _ (.int o188954 :: _) _ _ _
                      refine G_widen (cs' := 0) (sl' := 0) (by omega) (by omega) ?_
                      refine G_if_eq 138 dr_cX17_rename_120 (by decide +kernel) (fun hc188955 => ?_) (fun hc188955 => ?_)
                      · have r188956 : o188954.toInt = 0 := gj_eq hc188955 (show Int32.toInt 0 = 0 by decide)
                        have bo188954' : gB o188954 0 0 := ⟨by omega, by omega⟩
                        obtain ⟨z188957, hz188957⟩ : ∃ z : Int32, z = g188775 + Int32.ofInt 1 := ⟨_, rfl⟩
                        have ez188957 : z188957.toInt = g188775.toInt + 1 := gI_inc hz188957 (by decide) bg188775' (by decide) (by decide)
                        have bz188957 : gB z188957 1 1000001 := ⟨by omega, by omega⟩
                        refine G_iinc (L' := [(5, .int z188957), (6, .ref q187999), (4, .ref q187989), (3, .int g187931), (0, .ref q165994), (1, .int p165995), (2, .int p165996)]) z188957 1 dr_cX17_rename_138 rfl hz188957.symm (Nat.le_of_ble_eq_true rfl) rfl ?_
                        refine G_goto 20 dr_cX17_rename_141 (by decide +kernel) ?_
                        refine G_lv (L' := [(5, .int z188957), (4, .ref q187989), (3, .int g187931), (0, .ref q165994), (1, .int p165995), (2, .int p165996)]) [0, 2, 3, 4, 5, 6] rfl ?_
                        exact ih20_188778 F188776 z188957 (gB_w bz188957 (by decide) (by decide)) hT188777 hs188778 (by omega)
                      · have r188958 : o188954.toInt ≠ 0 := gj_neq hc188955 (show Int32.toInt 0 = 0 by decide)
                        have bo188954' : gB o188954 1 1 := ⟨by omega, by omega⟩
                        refine G_aload 0 dr_cX17_rename_123 rfl ?_
                        refine Gp_get 1 hm188812 he188813 dr_cX17_rename_125 (gk_X15 D I) (Nat.le_of_ble_eq_true rfl) wr_9_182 rfl ?_
                        refine G_iload_n 5 dr_cX17_rename_128 rfl ?_
                        refine G_icmp_ne 138 dr_cX17_rename_129 (by decide +kernel) (fun hc188959 => ?_) (fun hc188959 => ?_)
                        · have r188960 : p188815.toInt ≠ p165995.toInt := gC_ne hc188959
                          obtain ⟨z188961, hz188961⟩ : ∃ z : Int32, z = g188775 + Int32.ofInt 1 := ⟨_, rfl⟩
                          have ez188961 : z188961.toInt = g188775.toInt + 1 := gI_inc hz188961 (by decide) bg188775' (by decide) (by decide)
                          have bz188961 : gB z188961 1 1000001 := ⟨by omega, by omega⟩
                          refine G_iinc (L' := [(5, .int z188961), (6, .ref q187999), (4, .ref q187989), (3, .int g187931), (0, .ref q165994), (1, .int p165995), (2, .int p165996)]) z188961 1 dr_cX17_rename_138 rfl hz188961.symm (Nat.le_of_ble_eq_true rfl) rfl ?_
                          refine G_goto 20 dr_cX17_rename_141 (by decide +kernel) ?_
                          refine G_lv (L' := [(5, .int z188961), (4, .ref q187989), (3, .int g187931), (0, .ref q165994), (1, .int p165995), (2, .int p165996)]) [0, 2, 3, 4, 5, 6] rfl ?_
                          exact ih20_188778 F188776 z188961 (gB_w bz188961 (by decide) (by decide)) hT188777 hs188778 (by omega)
                        · have r188962 : p188815.toInt = p165995.toInt := gC_eq hc188959
                          refine G_aload 0 dr_cX17_rename_132 rfl ?_
                          refine G_iload_n 6 dr_cX17_rename_134 rfl ?_
                          refine Gp_put 1 hm188812 he188813 dr_cX17_rename_135 (gk_X15 D I) (Nat.le_of_ble_eq_true rfl) wr_9_182 rfl rfl rfl (Nat.le_of_ble_eq_true rfl) (fun F188963 e188964 n188965 => ?_)
                          have he188966 : F188963 q165994 = .inr (18, [.ref q187940, .ref q187941, .int p187942, .int p187943]) := (n188965 q165994 (rn_oo he188781 he188813 (by decide))).trans he188781
                          have he188967 : F188963 q187940 = .inr (4, [.int p187970, .ref q187972, .int p187971]) := (n188965 q187940 (rn_oo he188782 he188813 (by decide))).trans he188782
                          have he188968 : F188963 q187972 = .inl (I (.object "java/lang/Object"), n187986, .inr (.inr (.inr (.inr f187987)))) := (n188965 q187972 (rn_ao he188783 he188813)).trans he188783
                          have he188969 : F188963 q187989 = .inr (17, [.ref q187998, .ref q187999, .int p188000, .int p188001]) := (n188965 q187989 (rn_oo he188784 he188813 (by decide))).trans he188784
                          have he188970 : F188963 q187998 = .inr (4, [.int p188788, .ref q188790, .int p188789]) := (n188965 q187998 (rn_oo he188787 he188813 (by decide))).trans he188787
                          have he188971 : F188963 q187999 = .inr (20, [.int p188814, .int p165996, .int p188816, .int p188817, .int p188818, .int p188819, .int p188820]) := e188964
                          have hs188972 : rStr γ [1] F165993 F188963 := rStr_pu2 hs188778 n188965 ht188004 (by decide)
                          obtain ⟨z188973, hz188973⟩ : ∃ z : Int32, z = g188775 + Int32.ofInt 1 := ⟨_, rfl⟩
                          have ez188973 : z188973.toInt = g188775.toInt + 1 := gI_inc hz188973 (by decide) bg188775' (by decide) (by decide)
                          have bz188973 : gB z188973 1 1000001 := ⟨by omega, by omega⟩
                          refine G_iinc (L' := [(5, .int z188973), (6, .ref q187999), (4, .ref q187989), (3, .int g187931), (0, .ref q165994), (1, .int p165995), (2, .int p165996)]) z188973 1 dr_cX17_rename_138 rfl hz188973.symm (Nat.le_of_ble_eq_true rfl) rfl ?_
                          refine G_goto 20 dr_cX17_rename_141 (by decide +kernel) ?_
                          have hT188974 : RS D I P165992 F188963 γ el := RS_set hT188777 n188965 ht188004 (by decide) ⟨p188814, p165996, p188816, p188817, p188818, p188819, p188820, he188971, bp188814, bp165996, bp188818, bp188819, bp188820, (by omega), (by omega), (by omega), (by omega), (by omega)⟩
                          refine G_lv (L' := [(5, .int z188973), (4, .ref q187989), (3, .int g187931), (0, .ref q165994), (1, .int p165995), (2, .int p165996)]) [0, 2, 3, 4, 5, 6] rfl ?_
                          exact ih20_188778 F188963 z188973 (gB_w bz188973 (by decide) (by decide)) hT188974 hs188972 (by omega)
                    · have r188975 : o188945.toInt ≠ 0 := gj_neq hc188947 (show Int32.toInt 0 = 0 by decide)
                      have bo188945' : gB o188945 1 1 := ⟨by omega, by omega⟩
                      refine G_aload 0 dr_cX17_rename_100 rfl ?_
                      refine Gp_get 3 hm188812 he188813 dr_cX17_rename_102 (gk_X15 D I) (Nat.le_of_ble_eq_true rfl) wr_9_190 rfl ?_
                      refine G_iload_n 5 dr_cX17_rename_105 rfl ?_
                      refine G_icmp_ne 115 dr_cX17_rename_106 (by decide +kernel) (fun hc188976 => ?_) (fun hc188976 => ?_)
                      · have r188977 : p188817.toInt ≠ p165995.toInt := gC_ne hc188976
                        refine G_aload 0 dr_cX17_rename_115 rfl ?_
                        refine Gw_callV (As := []) (gV_ok D I) (cp_1654_Row_sets l hl0 D I P165992 F188776 q187999 p188814 p188815 p188816 p188817 p188818 p188819 p188820 hm188812 he188813 bp188814 bp188815 bp188818 bp188819 bp188820) dr_cX17_rename_117 ⟨wr_10_181, wr_1_39, wr_10_184, by decide, rfl, (Nat.le_of_ble_eq_true rfl), (Nat.le_of_ble_eq_true rfl)⟩ wr_10_182 wr_10_183 hm188812 he188813 rfl (show 0 + 0 ≤ 0 by first | omega | decide) (show 0 + 0 ≤ 0 by first | omega | decide) (Nat.le_of_ble_eq_true rfl) (fun r188981 w188982 dc188978 ds188979 hp188980 => ?_) (fun _ _ _ _ _ z => z.elim)
                        obtain ⟨o188983, rfl, rfl, hdc, hds, bo188983⟩ := hp188980
                        change G _ _ _ _ _ _ _ (.int o188983 :: _) _ _ _
                        refine G_widen (cs' := 0) (sl' := 0) (by omega) (by omega) ?_
                        refine G_if_eq 138 dr_cX17_rename_120 (by decide +kernel) (fun hc188984 => ?_) (fun hc188984 => ?_)
                        · have r188985 : o188983.toInt = 0 := gj_eq hc188984 (show Int32.toInt 0 = 0 by decide)
                          have bo188983' : gB o188983 0 0 := ⟨by omega, by omega⟩
                          obtain ⟨z188986, hz188986⟩ : ∃ z : Int32, z = g188775 + Int32.ofInt 1 := ⟨_, rfl⟩
                          have ez188986 : z188986.toInt = g188775.toInt + 1 := gI_inc hz188986 (by decide) bg188775' (by decide) (by decide)
                          have bz188986 : gB z188986 1 1000001 := ⟨by omega, by omega⟩
                          refine G_iinc (L' := [(5, .int z188986), (6, .ref q187999), (4, .ref q187989), (3, .int g187931), (0, .ref q165994), (1, .int p165995), (2, .int p165996)]) z188986 1 dr_cX17_rename_138 rfl hz188986.symm (Nat.le_of_ble_eq_true rfl) rfl ?_
                          refine G_goto 20 dr_cX17_rename_141 (by decide +kernel) ?_
                          refine G_lv (L' := [(5, .int z188986), (4, .ref q187989), (3, .int g187931), (0, .ref q165994), (1, .int p165995), (2, .int p165996)]) [0, 2, 3, 4, 5, 6] rfl ?_
                          exact ih20_188778 F188776 z188986 (gB_w bz188986 (by decide) (by decide)) hT188777 hs188778 (by omega)
                        · have r188987 : o188983.toInt ≠ 0 := gj_neq hc188984 (show Int32.toInt 0 = 0 by decide)
                          have bo188983' : gB o188983 1 1 := ⟨by omega, by omega⟩
                          refine G_aload 0 dr_cX17_rename_123 rfl ?_
                          refine Gp_get 1 hm188812 he188813 dr_cX17_rename_125 (gk_X15 D I) (Nat.le_of_ble_eq_true rfl) wr_9_182 rfl ?_
                          refine G_iload_n 5 dr_cX17_rename_128 rfl ?_
                          refine G_icmp_ne 138 dr_cX17_rename_129 (by decide +kernel) (fun hc188988 => ?_) (fun hc188988 => ?_)
                          · have r188989 : p188815.toInt ≠ p165995.toInt := gC_ne hc188988
                            obtain ⟨z188990, hz188990⟩ : ∃ z : Int32, z = g188775 + Int32.ofInt 1 := ⟨_, rfl⟩
                            have ez188990 : z188990.toInt = g188775.toInt + 1 := gI_inc hz188990 (by decide) bg188775' (by decide) (by decide)
                            have bz188990 : gB z188990 1 1000001 := ⟨by omega, by omega⟩
                            refine G_iinc (L' := [(5, .int z188990), (6, .ref q187999), (4, .ref q187989), (3, .int g187931), (0, .ref q165994), (1, .int p165995), (2, .int p165996)]) z188990 1 dr_cX17_rename_138 rfl hz188990.symm (Nat.le_of_ble_eq_true rfl) rfl ?_
                            refine G_goto 20 dr_cX17_rename_141 (by decide +kernel) ?_
                            refine G_lv (L' := [(5, .int z188990), (4, .ref q187989), (3, .int g187931), (0, .ref q165994), (1, .int p165995), (2, .int p165996)]) [0, 2, 3, 4, 5, 6] rfl ?_
                            exact ih20_188778 F188776 z188990 (gB_w bz188990 (by decide) (by decide)) hT188777 hs188778 (by omega)
                          · have r188991 : p188815.toInt = p165995.toInt := gC_eq hc188988
                            refine G_aload 0 dr_cX17_rename_132 rfl ?_
                            refine G_iload_n 6 dr_cX17_rename_134 rfl ?_
                            refine Gp_put 1 hm188812 he188813 dr_cX17_rename_135 (gk_X15 D I) (Nat.le_of_ble_eq_true rfl) wr_9_182 rfl rfl rfl (Nat.le_of_ble_eq_true rfl) (fun F188992 e188993 n188994 => ?_)
                            have he188995 : F188992 q165994 = .inr (18, [.ref q187940, .ref q187941, .int p187942, .int p187943]) := (n188994 q165994 (rn_oo he188781 he188813 (by decide))).trans he188781
                            have he188996 : F188992 q187940 = .inr (4, [.int p187970, .ref q187972, .int p187971]) := (n188994 q187940 (rn_oo he188782 he188813 (by decide))).trans he188782
                            have he188997 : F188992 q187972 = .inl (I (.object "java/lang/Object"), n187986, .inr (.inr (.inr (.inr f187987)))) := (n188994 q187972 (rn_ao he188783 he188813)).trans he188783
                            have he188998 : F188992 q187989 = .inr (17, [.ref q187998, .ref q187999, .int p188000, .int p188001]) := (n188994 q187989 (rn_oo he188784 he188813 (by decide))).trans he188784
                            have he188999 : F188992 q187998 = .inr (4, [.int p188788, .ref q188790, .int p188789]) := (n188994 q187998 (rn_oo he188787 he188813 (by decide))).trans he188787
                            have he189000 : F188992 q187999 = .inr (20, [.int p188814, .int p165996, .int p188816, .int p188817, .int p188818, .int p188819, .int p188820]) := e188993
                            have hs189001 : rStr γ [1] F165993 F188992 := rStr_pu2 hs188778 n188994 ht188004 (by decide)
                            obtain ⟨z189002, hz189002⟩ : ∃ z : Int32, z = g188775 + Int32.ofInt 1 := ⟨_, rfl⟩
                            have ez189002 : z189002.toInt = g188775.toInt + 1 := gI_inc hz189002 (by decide) bg188775' (by decide) (by decide)
                            have bz189002 : gB z189002 1 1000001 := ⟨by omega, by omega⟩
                            refine G_iinc (L' := [(5, .int z189002), (6, .ref q187999), (4, .ref q187989), (3, .int g187931), (0, .ref q165994), (1, .int p165995), (2, .int p165996)]) z189002 1 dr_cX17_rename_138 rfl hz189002.symm (Nat.le_of_ble_eq_true rfl) rfl ?_
                            refine G_goto 20 dr_cX17_rename_141 (by decide +kernel) ?_
                            have hT189003 : RS D I P165992 F188992 γ el := RS_set hT188777 n188994 ht188004 (by decide) ⟨p188814, p165996, p188816, p188817, p188818, p188819, p188820, he189000, bp188814, bp165996, bp188818, bp188819, bp188820, (by omega), (by omega), (by omega), (by omega), (by omega)⟩
                            refine G_lv (L' := [(5, .int z189002), (4, .ref q187989), (3, .int g187931), (0, .ref q165994), (1, .int p165995), (2, .int p165996)]) [0, 2, 3, 4, 5, 6] rfl ?_
                            exact ih20_188778 F188992 z189002 (gB_w bz189002 (by decide) (by decide)) hT189003 hs189001 (by omega)
                      · have r189004 : p188817.toInt = p165995.toInt := gC_eq hc188976
                        have bp188817' : gB p188817 0 1999 := ⟨by omega, by omega⟩
                        refine G_aload 0 dr_cX17_rename_109 rfl ?_
                        refine G_iload_n 6 dr_cX17_rename_111 rfl ?_
                        refine Gp_put 3 hm188812 he188813 dr_cX17_rename_112 (gk_X15 D I) (Nat.le_of_ble_eq_true rfl) wr_9_190 rfl rfl rfl (Nat.le_of_ble_eq_true rfl) (fun F189005 e189006 n189007 => ?_)
                        have he189008 : F189005 q165994 = .inr (18, [.ref q187940, .ref q187941, .int p187942, .int p187943]) := (n189007 q165994 (rn_oo he188781 he188813 (by decide))).trans he188781
                        have he189009 : F189005 q187940 = .inr (4, [.int p187970, .ref q187972, .int p187971]) := (n189007 q187940 (rn_oo he188782 he188813 (by decide))).trans he188782
                        have he189010 : F189005 q187972 = .inl (I (.object "java/lang/Object"), n187986, .inr (.inr (.inr (.inr f187987)))) := (n189007 q187972 (rn_ao he188783 he188813)).trans he188783
                        have he189011 : F189005 q187989 = .inr (17, [.ref q187998, .ref q187999, .int p188000, .int p188001]) := (n189007 q187989 (rn_oo he188784 he188813 (by decide))).trans he188784
                        have he189012 : F189005 q187998 = .inr (4, [.int p188788, .ref q188790, .int p188789]) := (n189007 q187998 (rn_oo he188787 he188813 (by decide))).trans he188787
                        have he189013 : F189005 q187999 = .inr (20, [.int p188814, .int p188815, .int p188816, .int p165996, .int p188818, .int p188819, .int p188820]) := e189006
                        have hs189014 : rStr γ [1] F165993 F189005 := rStr_pu2 hs188778 n189007 ht188004 (by decide)
                        refine G_aload 0 dr_cX17_rename_115 rfl ?_
                        have hT189015 : RS D I P165992 F189005 γ el := RS_set hT188777 n189007 ht188004 (by decide) ⟨p188814, p188815, p188816, p165996, p188818, p188819, p188820, he189013, bp188814, bp188815, bp188818, bp188819, bp188820, (by omega), (by omega), (by omega), (by omega), (by omega)⟩
                        refine Gw_callV (As := []) (gV_ok D I) (cp_1654_Row_sets l hl0 D I P165992 F189005 q187999 p188814 p188815 p188816 p165996 p188818 p188819 p188820 hm188812 he189013 bp188814 bp188815 bp188818 bp188819 bp188820) dr_cX17_rename_117 ⟨wr_10_181, wr_1_39, wr_10_184, by decide, rfl, (Nat.le_of_ble_eq_true rfl), (Nat.le_of_ble_eq_true rfl)⟩ wr_10_182 wr_10_183 hm188812 he189013 rfl (show 0 + 0 ≤ 0 by first | omega | decide) (show 0 + 0 ≤ 0 by first | omega | decide) (Nat.le_of_ble_eq_true rfl) (fun r189019 w189020 dc189016 ds189017 hp189018 => ?_) (fun _ _ _ _ _ z => z.elim)
                        obtain ⟨o189021, rfl, rfl, hdc, hds, bo189021⟩ := hp189018
                        change G _ _ _ _ _ _ _ (.int o189021 :: _) _ _ _
                        refine G_widen (cs' := 0) (sl' := 0) (by omega) (by omega) ?_
                        refine G_if_eq 138 dr_cX17_rename_120 (by decide +kernel) (fun hc189022 => ?_) (fun hc189022 => ?_)
                        · have r189023 : o189021.toInt = 0 := gj_eq hc189022 (show Int32.toInt 0 = 0 by decide)
                          have bo189021' : gB o189021 0 0 := ⟨by omega, by omega⟩
                          obtain ⟨z189024, hz189024⟩ : ∃ z : Int32, z = g188775 + Int32.ofInt 1 := ⟨_, rfl⟩
                          have ez189024 : z189024.toInt = g188775.toInt + 1 := gI_inc hz189024 (by decide) bg188775' (by decide) (by decide)
                          have bz189024 : gB z189024 1 1000001 := ⟨by omega, by omega⟩
                          refine G_iinc (L' := [(5, .int z189024), (6, .ref q187999), (4, .ref q187989), (3, .int g187931), (0, .ref q165994), (1, .int p165995), (2, .int p165996)]) z189024 1 dr_cX17_rename_138 rfl hz189024.symm (Nat.le_of_ble_eq_true rfl) rfl ?_
                          refine G_goto 20 dr_cX17_rename_141 (by decide +kernel) ?_
                          refine G_lv (L' := [(5, .int z189024), (4, .ref q187989), (3, .int g187931), (0, .ref q165994), (1, .int p165995), (2, .int p165996)]) [0, 2, 3, 4, 5, 6] rfl ?_
                          exact ih20_188778 F189005 z189024 (gB_w bz189024 (by decide) (by decide)) hT189015 hs189014 (by omega)
                        · have r189025 : o189021.toInt ≠ 0 := gj_neq hc189022 (show Int32.toInt 0 = 0 by decide)
                          have bo189021' : gB o189021 1 1 := ⟨by omega, by omega⟩
                          refine G_aload 0 dr_cX17_rename_123 rfl ?_
                          refine Gp_get 1 hm188812 he189013 dr_cX17_rename_125 (gk_X15 D I) (Nat.le_of_ble_eq_true rfl) wr_9_182 rfl ?_
                          refine G_iload_n 5 dr_cX17_rename_128 rfl ?_
                          refine G_icmp_ne 138 dr_cX17_rename_129 (by decide +kernel) (fun hc189026 => ?_) (fun hc189026 => ?_)
                          · have r189027 : p188815.toInt ≠ p165995.toInt := gC_ne hc189026
                            obtain ⟨z189028, hz189028⟩ : ∃ z : Int32, z = g188775 + Int32.ofInt 1 := ⟨_, rfl⟩
                            have ez189028 : z189028.toInt = g188775.toInt + 1 := gI_inc hz189028 (by decide) bg188775' (by decide) (by decide)
                            have bz189028 : gB z189028 1 1000001 := ⟨by omega, by omega⟩
                            refine G_iinc (L' := [(5, .int z189028), (6, .ref q187999), (4, .ref q187989), (3, .int g187931), (0, .ref q165994), (1, .int p165995), (2, .int p165996)]) z189028 1 dr_cX17_rename_138 rfl hz189028.symm (Nat.le_of_ble_eq_true rfl) rfl ?_
                            refine G_goto 20 dr_cX17_rename_141 (by decide +kernel) ?_
                            refine G_lv (L' := [(5, .int z189028), (4, .ref q187989), (3, .int g187931), (0, .ref q165994), (1, .int p165995), (2, .int p165996)]) [0, 2, 3, 4, 5, 6] rfl ?_
                            exact ih20_188778 F189005 z189028 (gB_w bz189028 (by decide) (by decide)) hT189015 hs189014 (by omega)
                          · have r189029 : p188815.toInt = p165995.toInt := gC_eq hc189026
                            refine G_aload 0 dr_cX17_rename_132 rfl ?_
                            refine G_iload_n 6 dr_cX17_rename_134 rfl ?_
                            refine Gp_put 1 hm188812 he189013 dr_cX17_rename_135 (gk_X15 D I) (Nat.le_of_ble_eq_true rfl) wr_9_182 rfl rfl rfl (Nat.le_of_ble_eq_true rfl) (fun F189030 e189031 n189032 => ?_)
                            have he189033 : F189030 q165994 = .inr (18, [.ref q187940, .ref q187941, .int p187942, .int p187943]) := (n189032 q165994 (rn_oo he189008 he189013 (by decide))).trans he189008
                            have he189034 : F189030 q187940 = .inr (4, [.int p187970, .ref q187972, .int p187971]) := (n189032 q187940 (rn_oo he189009 he189013 (by decide))).trans he189009
                            have he189035 : F189030 q187972 = .inl (I (.object "java/lang/Object"), n187986, .inr (.inr (.inr (.inr f187987)))) := (n189032 q187972 (rn_ao he189010 he189013)).trans he189010
                            have he189036 : F189030 q187989 = .inr (17, [.ref q187998, .ref q187999, .int p188000, .int p188001]) := (n189032 q187989 (rn_oo he189011 he189013 (by decide))).trans he189011
                            have he189037 : F189030 q187998 = .inr (4, [.int p188788, .ref q188790, .int p188789]) := (n189032 q187998 (rn_oo he189012 he189013 (by decide))).trans he189012
                            have he189038 : F189030 q187999 = .inr (20, [.int p188814, .int p165996, .int p188816, .int p165996, .int p188818, .int p188819, .int p188820]) := e189031
                            have hs189039 : rStr γ [1] F165993 F189030 := rStr_pu2 hs189014 n189032 ht188004 (by decide)
                            obtain ⟨z189040, hz189040⟩ : ∃ z : Int32, z = g188775 + Int32.ofInt 1 := ⟨_, rfl⟩
                            have ez189040 : z189040.toInt = g188775.toInt + 1 := gI_inc hz189040 (by decide) bg188775' (by decide) (by decide)
                            have bz189040 : gB z189040 1 1000001 := ⟨by omega, by omega⟩
                            refine G_iinc (L' := [(5, .int z189040), (6, .ref q187999), (4, .ref q187989), (3, .int g187931), (0, .ref q165994), (1, .int p165995), (2, .int p165996)]) z189040 1 dr_cX17_rename_138 rfl hz189040.symm (Nat.le_of_ble_eq_true rfl) rfl ?_
                            refine G_goto 20 dr_cX17_rename_141 (by decide +kernel) ?_
                            have hT189041 : RS D I P165992 F189030 γ el := RS_set hT189015 n189032 ht188004 (by decide) ⟨p188814, p165996, p188816, p165996, p188818, p188819, p188820, he189038, bp188814, bp165996, bp188818, bp188819, bp188820, (by omega), (by omega), (by omega), (by omega), (by omega)⟩
                            refine G_lv (L' := [(5, .int z189040), (4, .ref q187989), (3, .int g187931), (0, .ref q165994), (1, .int p165995), (2, .int p165996)]) [0, 2, 3, 4, 5, 6] rfl ?_
                            exact ih20_188778 F189030 z189040 (gB_w bz189040 (by decide) (by decide)) hT189041 hs189039 (by omega)
                  · have r189042 : p188816.toInt = p165995.toInt := gC_eq hc188938
                    have bp188816' : gB p188816 0 1999 := ⟨by omega, by omega⟩
                    refine G_aload 0 dr_cX17_rename_86 rfl ?_
                    refine G_iload_n 6 dr_cX17_rename_88 rfl ?_
                    refine Gp_put 2 hm188812 he188813 dr_cX17_rename_89 (gk_X15 D I) (Nat.le_of_ble_eq_true rfl) wr_9_186 rfl rfl rfl (Nat.le_of_ble_eq_true rfl) (fun F189043 e189044 n189045 => ?_)
                    have he189046 : F189043 q165994 = .inr (18, [.ref q187940, .ref q187941, .int p187942, .int p187943]) := (n189045 q165994 (rn_oo he188781 he188813 (by decide))).trans he188781
                    have he189047 : F189043 q187940 = .inr (4, [.int p187970, .ref q187972, .int p187971]) := (n189045 q187940 (rn_oo he188782 he188813 (by decide))).trans he188782
                    have he189048 : F189043 q187972 = .inl (I (.object "java/lang/Object"), n187986, .inr (.inr (.inr (.inr f187987)))) := (n189045 q187972 (rn_ao he188783 he188813)).trans he188783
                    have he189049 : F189043 q187989 = .inr (17, [.ref q187998, .ref q187999, .int p188000, .int p188001]) := (n189045 q187989 (rn_oo he188784 he188813 (by decide))).trans he188784
                    have he189050 : F189043 q187998 = .inr (4, [.int p188788, .ref q188790, .int p188789]) := (n189045 q187998 (rn_oo he188787 he188813 (by decide))).trans he188787
                    have he189051 : F189043 q187999 = .inr (20, [.int p188814, .int p188815, .int p165996, .int p188817, .int p188818, .int p188819, .int p188820]) := e189044
                    have hs189052 : rStr γ [1] F165993 F189043 := rStr_pu2 hs188778 n189045 ht188004 (by decide)
                    refine G_aload 0 dr_cX17_rename_92 rfl ?_
                    have hT189053 : RS D I P165992 F189043 γ el := RS_set hT188777 n189045 ht188004 (by decide) ⟨p188814, p188815, p165996, p188817, p188818, p188819, p188820, he189051, bp188814, bp188815, bp188818, bp188819, bp188820, (by omega), (by omega), (by omega), (by omega), (by omega)⟩
                    refine Gw_callV (As := []) (gV_ok D I) (cp_1693_Row_usesB l hl0 D I P165992 F189043 q187999 p188814 p188815 p165996 p188817 p188818 p188819 p188820 hm188812 he189051 bp188814 bp188815 bp188818 bp188819 bp188820) dr_cX17_rename_94 ⟨wr_10_196, wr_1_39, wr_10_199, by decide, rfl, (Nat.le_of_ble_eq_true rfl), (Nat.le_of_ble_eq_true rfl)⟩ wr_10_197 wr_10_198 hm188812 he189051 rfl (show 0 + 0 ≤ 0 by first | omega | decide) (show 0 + 0 ≤ 0 by first | omega | decide) (Nat.le_of_ble_eq_true rfl) (fun r189057 w189058 dc189054 ds189055 hp189056 => ?_) (fun _ _ _ _ _ z => z.elim)
                    obtain ⟨o189059, rfl, rfl, hdc, hds, bo189059, x189060⟩ := hp189056
                    change G _ _ _ _ _ _ _ (.int o189059 :: _) _ _ _
                    refine G_widen (cs' := 0) (sl' := 0) (by omega) (by omega) ?_
                    refine G_if_eq 115 dr_cX17_rename_97 (by decide +kernel) (fun hc189061 => ?_) (fun hc189061 => ?_)
                    · have r189062 : o189059.toInt = 0 := gj_eq hc189061 (show Int32.toInt 0 = 0 by decide)
                      have bo189059' : gB o189059 0 0 := ⟨by omega, by omega⟩
                      refine G_aload 0 dr_cX17_rename_115 rfl ?_
                      refine Gw_callV (As := []) (gV_ok D I) (cp_1654_Row_sets l hl0 D I P165992 F189043 q187999 p188814 p188815 p165996 p188817 p188818 p188819 p188820 hm188812 he189051 bp188814 bp188815 bp188818 bp188819 bp188820) dr_cX17_rename_117 ⟨wr_10_181, wr_1_39, wr_10_184, by decide, rfl, (Nat.le_of_ble_eq_true rfl), (Nat.le_of_ble_eq_true rfl)⟩ wr_10_182 wr_10_183 hm188812 he189051 rfl (show 0 + 0 ≤ 0 by first | omega | decide) (show 0 + 0 ≤ 0 by first | omega | decide) (Nat.le_of_ble_eq_true rfl) (fun r189066 w189067 dc189063 ds189064 hp189065 => ?_) (fun _ _ _ _ _ z => z.elim)
                      obtain ⟨o189068, rfl, rfl, hdc, hds, bo189068⟩ := hp189065
                      change G _ _ _ _ _ _ _ (.int o189068 :: _) _ _ _
                      refine G_widen (cs' := 0) (sl' := 0) (by omega) (by omega) ?_
                      refine G_if_eq 138 dr_cX17_rename_120 (by decide +kernel) (fun hc189069 => ?_) (fun hc189069 => ?_)
                      · have r189070 : o189068.toInt = 0 := gj_eq hc189069 (show Int32.toInt 0 = 0 by decide)
                        have bo189068' : gB o189068 0 0 := ⟨by omega, by omega⟩
                        obtain ⟨z189071, hz189071⟩ : ∃ z : Int32, z = g188775 + Int32.ofInt 1 := ⟨_, rfl⟩
                        have ez189071 : z189071.toInt = g188775.toInt + 1 := gI_inc hz189071 (by decide) bg188775' (by decide) (by decide)
                        have bz189071 : gB z189071 1 1000001 := ⟨by omega, by omega⟩
                        refine G_iinc (L' := [(5, .int z189071), (6, .ref q187999), (4, .ref q187989), (3, .int g187931), (0, .ref q165994), (1, .int p165995), (2, .int p165996)]) z189071 1 dr_cX17_rename_138 rfl hz189071.symm (Nat.le_of_ble_eq_true rfl) rfl ?_
                        refine G_goto 20 dr_cX17_rename_141 (by decide +kernel) ?_
                        refine G_lv (L' := [(5, .int z189071), (4, .ref q187989), (3, .int g187931), (0, .ref q165994), (1, .int p165995), (2, .int p165996)]) [0, 2, 3, 4, 5, 6] rfl ?_
                        exact ih20_188778 F189043 z189071 (gB_w bz189071 (by decide) (by decide)) hT189053 hs189052 (by omega)
                      · have r189072 : o189068.toInt ≠ 0 := gj_neq hc189069 (show Int32.toInt 0 = 0 by decide)
                        have bo189068' : gB o189068 1 1 := ⟨by omega, by omega⟩
                        refine G_aload 0 dr_cX17_rename_123 rfl ?_
                        refine Gp_get 1 hm188812 he189051 dr_cX17_rename_125 (gk_X15 D I) (Nat.le_of_ble_eq_true rfl) wr_9_182 rfl ?_
                        refine G_iload_n 5 dr_cX17_rename_128 rfl ?_
                        refine G_icmp_ne 138 dr_cX17_rename_129 (by decide +kernel) (fun hc189073 => ?_) (fun hc189073 => ?_)
                        · have r189074 : p188815.toInt ≠ p165995.toInt := gC_ne hc189073
                          obtain ⟨z189075, hz189075⟩ : ∃ z : Int32, z = g188775 + Int32.ofInt 1 := ⟨_, rfl⟩
                          have ez189075 : z189075.toInt = g188775.toInt + 1 := gI_inc hz189075 (by decide) bg188775' (by decide) (by decide)
                          have bz189075 : gB z189075 1 1000001 := ⟨by omega, by omega⟩
                          refine G_iinc (L' := [(5, .int z189075), (6, .ref q187999), (4, .ref q187989), (3, .int g187931), (0, .ref q165994), (1, .int p165995), (2, .int p165996)]) z189075 1 dr_cX17_rename_138 rfl hz189075.symm (Nat.le_of_ble_eq_true rfl) rfl ?_
                          refine G_goto 20 dr_cX17_rename_141 (by decide +kernel) ?_
                          refine G_lv (L' := [(5, .int z189075), (4, .ref q187989), (3, .int g187931), (0, .ref q165994), (1, .int p165995), (2, .int p165996)]) [0, 2, 3, 4, 5, 6] rfl ?_
                          exact ih20_188778 F189043 z189075 (gB_w bz189075 (by decide) (by decide)) hT189053 hs189052 (by omega)
                        · have r189076 : p188815.toInt = p165995.toInt := gC_eq hc189073
                          refine G_aload 0 dr_cX17_rename_132 rfl ?_
                          refine G_iload_n 6 dr_cX17_rename_134 rfl ?_
                          refine Gp_put 1 hm188812 he189051 dr_cX17_rename_135 (gk_X15 D I) (Nat.le_of_ble_eq_true rfl) wr_9_182 rfl rfl rfl (Nat.le_of_ble_eq_true rfl) (fun F189077 e189078 n189079 => ?_)
                          have he189080 : F189077 q165994 = .inr (18, [.ref q187940, .ref q187941, .int p187942, .int p187943]) := (n189079 q165994 (rn_oo he189046 he189051 (by decide))).trans he189046
                          have he189081 : F189077 q187940 = .inr (4, [.int p187970, .ref q187972, .int p187971]) := (n189079 q187940 (rn_oo he189047 he189051 (by decide))).trans he189047
                          have he189082 : F189077 q187972 = .inl (I (.object "java/lang/Object"), n187986, .inr (.inr (.inr (.inr f187987)))) := (n189079 q187972 (rn_ao he189048 he189051)).trans he189048
                          have he189083 : F189077 q187989 = .inr (17, [.ref q187998, .ref q187999, .int p188000, .int p188001]) := (n189079 q187989 (rn_oo he189049 he189051 (by decide))).trans he189049
                          have he189084 : F189077 q187998 = .inr (4, [.int p188788, .ref q188790, .int p188789]) := (n189079 q187998 (rn_oo he189050 he189051 (by decide))).trans he189050
                          have he189085 : F189077 q187999 = .inr (20, [.int p188814, .int p165996, .int p165996, .int p188817, .int p188818, .int p188819, .int p188820]) := e189078
                          have hs189086 : rStr γ [1] F165993 F189077 := rStr_pu2 hs189052 n189079 ht188004 (by decide)
                          obtain ⟨z189087, hz189087⟩ : ∃ z : Int32, z = g188775 + Int32.ofInt 1 := ⟨_, rfl⟩
                          have ez189087 : z189087.toInt = g188775.toInt + 1 := gI_inc hz189087 (by decide) bg188775' (by decide) (by decide)
                          have bz189087 : gB z189087 1 1000001 := ⟨by omega, by omega⟩
                          refine G_iinc (L' := [(5, .int z189087), (6, .ref q187999), (4, .ref q187989), (3, .int g187931), (0, .ref q165994), (1, .int p165995), (2, .int p165996)]) z189087 1 dr_cX17_rename_138 rfl hz189087.symm (Nat.le_of_ble_eq_true rfl) rfl ?_
                          refine G_goto 20 dr_cX17_rename_141 (by decide +kernel) ?_
                          have hT189088 : RS D I P165992 F189077 γ el := RS_set hT189053 n189079 ht188004 (by decide) ⟨p188814, p165996, p165996, p188817, p188818, p188819, p188820, he189085, bp188814, bp165996, bp188818, bp188819, bp188820, (by omega), (by omega), (by omega), (by omega), (by omega)⟩
                          refine G_lv (L' := [(5, .int z189087), (4, .ref q187989), (3, .int g187931), (0, .ref q165994), (1, .int p165995), (2, .int p165996)]) [0, 2, 3, 4, 5, 6] rfl ?_
                          exact ih20_188778 F189077 z189087 (gB_w bz189087 (by decide) (by decide)) hT189088 hs189086 (by omega)
                    · have r189089 : o189059.toInt ≠ 0 := gj_neq hc189061 (show Int32.toInt 0 = 0 by decide)
                      have bo189059' : gB o189059 1 1 := ⟨by omega, by omega⟩
                      refine G_aload 0 dr_cX17_rename_100 rfl ?_
                      refine Gp_get 3 hm188812 he189051 dr_cX17_rename_102 (gk_X15 D I) (Nat.le_of_ble_eq_true rfl) wr_9_190 rfl ?_
                      refine G_iload_n 5 dr_cX17_rename_105 rfl ?_
                      refine G_icmp_ne 115 dr_cX17_rename_106 (by decide +kernel) (fun hc189090 => ?_) (fun hc189090 => ?_)
                      · have r189091 : p188817.toInt ≠ p165995.toInt := gC_ne hc189090
                        refine G_aload 0 dr_cX17_rename_115 rfl ?_
                        refine Gw_callV (As := []) (gV_ok D I) (cp_1654_Row_sets l hl0 D I P165992 F189043 q187999 p188814 p188815 p165996 p188817 p188818 p188819 p188820 hm188812 he189051 bp188814 bp188815 bp188818 bp188819 bp188820) dr_cX17_rename_117 ⟨wr_10_181, wr_1_39, wr_10_184, by decide, rfl, (Nat.le_of_ble_eq_true rfl), (Nat.le_of_ble_eq_true rfl)⟩ wr_10_182 wr_10_183 hm188812 he189051 rfl (show 0 + 0 ≤ 0 by first | omega | decide) (show 0 + 0 ≤ 0 by first | omega | decide) (Nat.le_of_ble_eq_true rfl) (fun r189095 w189096 dc189092 ds189093 hp189094 => ?_) (fun _ _ _ _ _ z => z.elim)
                        obtain ⟨o189097, rfl, rfl, hdc, hds, bo189097⟩ := hp189094
                        change G _ _ _ _ _ _ _ (.int o189097 :: _) _ _ _
                        refine G_widen (cs' := 0) (sl' := 0) (by omega) (by omega) ?_
                        refine G_if_eq 138 dr_cX17_rename_120 (by decide +kernel) (fun hc189098 => ?_) (fun hc189098 => ?_)
                        · have r189099 : o189097.toInt = 0 := gj_eq hc189098 (show Int32.toInt 0 = 0 by decide)
                          have bo189097' : gB o189097 0 0 := ⟨by omega, by omega⟩
                          obtain ⟨z189100, hz189100⟩ : ∃ z : Int32, z = g188775 + Int32.ofInt 1 := ⟨_, rfl⟩
                          have ez189100 : z189100.toInt = g188775.toInt + 1 := gI_inc hz189100 (by decide) bg188775' (by decide) (by decide)
                          have bz189100 : gB z189100 1 1000001 := ⟨by omega, by omega⟩
                          refine G_iinc (L' := [(5, .int z189100), (6, .ref q187999), (4, .ref q187989), (3, .int g187931), (0, .ref q165994), (1, .int p165995), (2, .int p165996)]) z189100 1 dr_cX17_rename_138 rfl hz189100.symm (Nat.le_of_ble_eq_true rfl) rfl ?_
                          refine G_goto 20 dr_cX17_rename_141 (by decide +kernel) ?_
                          refine G_lv (L' := [(5, .int z189100), (4, .ref q187989), (3, .int g187931), (0, .ref q165994), (1, .int p165995), (2, .int p165996)]) [0, 2, 3, 4, 5, 6] rfl ?_
                          exact ih20_188778 F189043 z189100 (gB_w bz189100 (by decide) (by decide)) hT189053 hs189052 (by omega)
                        · have r189101 : o189097.toInt ≠ 0 := gj_neq hc189098 (show Int32.toInt 0 = 0 by decide)
                          have bo189097' : gB o189097 1 1 := ⟨by omega, by omega⟩
                          refine G_aload 0 dr_cX17_rename_123 rfl ?_
                          refine Gp_get 1 hm188812 he189051 dr_cX17_rename_125 (gk_X15 D I) (Nat.le_of_ble_eq_true rfl) wr_9_182 rfl ?_
                          refine G_iload_n 5 dr_cX17_rename_128 rfl ?_
                          refine G_icmp_ne 138 dr_cX17_rename_129 (by decide +kernel) (fun hc189102 => ?_) (fun hc189102 => ?_)
                          · have r189103 : p188815.toInt ≠ p165995.toInt := gC_ne hc189102
                            obtain ⟨z189104, hz189104⟩ : ∃ z : Int32, z = g188775 + Int32.ofInt 1 := ⟨_, rfl⟩
                            have ez189104 : z189104.toInt = g188775.toInt + 1 := gI_inc hz189104 (by decide) bg188775' (by decide) (by decide)
                            have bz189104 : gB z189104 1 1000001 := ⟨by omega, by omega⟩
                            refine G_iinc (L' := [(5, .int z189104), (6, .ref q187999), (4, .ref q187989), (3, .int g187931), (0, .ref q165994), (1, .int p165995), (2, .int p165996)]) z189104 1 dr_cX17_rename_138 rfl hz189104.symm (Nat.le_of_ble_eq_true rfl) rfl ?_
                            refine G_goto 20 dr_cX17_rename_141 (by decide +kernel) ?_
                            refine G_lv (L' := [(5, .int z189104), (4, .ref q187989), (3, .int g187931), (0, .ref q165994), (1, .int p165995), (2, .int p165996)]) [0, 2, 3, 4, 5, 6] rfl ?_
                            exact ih20_188778 F189043 z189104 (gB_w bz189104 (by decide) (by decide)) hT189053 hs189052 (by omega)
                          · have r189105 : p188815.toInt = p165995.toInt := gC_eq hc189102
                            refine G_aload 0 dr_cX17_rename_132 rfl ?_
                            refine G_iload_n 6 dr_cX17_rename_134 rfl ?_
                            refine Gp_put 1 hm188812 he189051 dr_cX17_rename_135 (gk_X15 D I) (Nat.le_of_ble_eq_true rfl) wr_9_182 rfl rfl rfl (Nat.le_of_ble_eq_true rfl) (fun F189106 e189107 n189108 => ?_)
                            have he189109 : F189106 q165994 = .inr (18, [.ref q187940, .ref q187941, .int p187942, .int p187943]) := (n189108 q165994 (rn_oo he189046 he189051 (by decide))).trans he189046
                            have he189110 : F189106 q187940 = .inr (4, [.int p187970, .ref q187972, .int p187971]) := (n189108 q187940 (rn_oo he189047 he189051 (by decide))).trans he189047
                            have he189111 : F189106 q187972 = .inl (I (.object "java/lang/Object"), n187986, .inr (.inr (.inr (.inr f187987)))) := (n189108 q187972 (rn_ao he189048 he189051)).trans he189048
                            have he189112 : F189106 q187989 = .inr (17, [.ref q187998, .ref q187999, .int p188000, .int p188001]) := (n189108 q187989 (rn_oo he189049 he189051 (by decide))).trans he189049
                            have he189113 : F189106 q187998 = .inr (4, [.int p188788, .ref q188790, .int p188789]) := (n189108 q187998 (rn_oo he189050 he189051 (by decide))).trans he189050
                            have he189114 : F189106 q187999 = .inr (20, [.int p188814, .int p165996, .int p165996, .int p188817, .int p188818, .int p188819, .int p188820]) := e189107
                            have hs189115 : rStr γ [1] F165993 F189106 := rStr_pu2 hs189052 n189108 ht188004 (by decide)
                            obtain ⟨z189116, hz189116⟩ : ∃ z : Int32, z = g188775 + Int32.ofInt 1 := ⟨_, rfl⟩
                            have ez189116 : z189116.toInt = g188775.toInt + 1 := gI_inc hz189116 (by decide) bg188775' (by decide) (by decide)
                            have bz189116 : gB z189116 1 1000001 := ⟨by omega, by omega⟩
                            refine G_iinc (L' := [(5, .int z189116), (6, .ref q187999), (4, .ref q187989), (3, .int g187931), (0, .ref q165994), (1, .int p165995), (2, .int p165996)]) z189116 1 dr_cX17_rename_138 rfl hz189116.symm (Nat.le_of_ble_eq_true rfl) rfl ?_
                            refine G_goto 20 dr_cX17_rename_141 (by decide +kernel) ?_
                            have hT189117 : RS D I P165992 F189106 γ el := RS_set hT189053 n189108 ht188004 (by decide) ⟨p188814, p165996, p165996, p188817, p188818, p188819, p188820, he189114, bp188814, bp165996, bp188818, bp188819, bp188820, (by omega), (by omega), (by omega), (by omega), (by omega)⟩
                            refine G_lv (L' := [(5, .int z189116), (4, .ref q187989), (3, .int g187931), (0, .ref q165994), (1, .int p165995), (2, .int p165996)]) [0, 2, 3, 4, 5, 6] rfl ?_
                            exact ih20_188778 F189106 z189116 (gB_w bz189116 (by decide) (by decide)) hT189117 hs189115 (by omega)
                      · have r189118 : p188817.toInt = p165995.toInt := gC_eq hc189090
                        have bp188817' : gB p188817 0 1999 := ⟨by omega, by omega⟩
                        refine G_aload 0 dr_cX17_rename_109 rfl ?_
                        refine G_iload_n 6 dr_cX17_rename_111 rfl ?_
                        refine Gp_put 3 hm188812 he189051 dr_cX17_rename_112 (gk_X15 D I) (Nat.le_of_ble_eq_true rfl) wr_9_190 rfl rfl rfl (Nat.le_of_ble_eq_true rfl) (fun F189119 e189120 n189121 => ?_)
                        have he189122 : F189119 q165994 = .inr (18, [.ref q187940, .ref q187941, .int p187942, .int p187943]) := (n189121 q165994 (rn_oo he189046 he189051 (by decide))).trans he189046
                        have he189123 : F189119 q187940 = .inr (4, [.int p187970, .ref q187972, .int p187971]) := (n189121 q187940 (rn_oo he189047 he189051 (by decide))).trans he189047
                        have he189124 : F189119 q187972 = .inl (I (.object "java/lang/Object"), n187986, .inr (.inr (.inr (.inr f187987)))) := (n189121 q187972 (rn_ao he189048 he189051)).trans he189048
                        have he189125 : F189119 q187989 = .inr (17, [.ref q187998, .ref q187999, .int p188000, .int p188001]) := (n189121 q187989 (rn_oo he189049 he189051 (by decide))).trans he189049
                        have he189126 : F189119 q187998 = .inr (4, [.int p188788, .ref q188790, .int p188789]) := (n189121 q187998 (rn_oo he189050 he189051 (by decide))).trans he189050
                        have he189127 : F189119 q187999 = .inr (20, [.int p188814, .int p188815, .int p165996, .int p165996, .int p188818, .int p188819, .int p188820]) := e189120
                        have hs189128 : rStr γ [1] F165993 F189119 := rStr_pu2 hs189052 n189121 ht188004 (by decide)
                        refine G_aload 0 dr_cX17_rename_115 rfl ?_
                        have hT189129 : RS D I P165992 F189119 γ el := RS_set hT189053 n189121 ht188004 (by decide) ⟨p188814, p188815, p165996, p165996, p188818, p188819, p188820, he189127, bp188814, bp188815, bp188818, bp188819, bp188820, (by omega), (by omega), (by omega), (by omega), (by omega)⟩
                        refine Gw_callV (As := []) (gV_ok D I) (cp_1654_Row_sets l hl0 D I P165992 F189119 q187999 p188814 p188815 p165996 p165996 p188818 p188819 p188820 hm188812 he189127 bp188814 bp188815 bp188818 bp188819 bp188820) dr_cX17_rename_117 ⟨wr_10_181, wr_1_39, wr_10_184, by decide, rfl, (Nat.le_of_ble_eq_true rfl), (Nat.le_of_ble_eq_true rfl)⟩ wr_10_182 wr_10_183 hm188812 he189127 rfl (show 0 + 0 ≤ 0 by first | omega | decide) (show 0 + 0 ≤ 0 by first | omega | decide) (Nat.le_of_ble_eq_true rfl) (fun r189133 w189134 dc189130 ds189131 hp189132 => ?_) (fun _ _ _ _ _ z => z.elim)
                        obtain ⟨o189135, rfl, rfl, hdc, hds, bo189135⟩ := hp189132
                        change G _ _ _ _ _ _ _ (.int o189135 :: _) _ _ _
                        refine G_widen (cs' := 0) (sl' := 0) (by omega) (by omega) ?_
                        refine G_if_eq 138 dr_cX17_rename_120 (by decide +kernel) (fun hc189136 => ?_) (fun hc189136 => ?_)
                        · have r189137 : o189135.toInt = 0 := gj_eq hc189136 (show Int32.toInt 0 = 0 by decide)
                          have bo189135' : gB o189135 0 0 := ⟨by omega, by omega⟩
                          obtain ⟨z189138, hz189138⟩ : ∃ z : Int32, z = g188775 + Int32.ofInt 1 := ⟨_, rfl⟩
                          have ez189138 : z189138.toInt = g188775.toInt + 1 := gI_inc hz189138 (by decide) bg188775' (by decide) (by decide)
                          have bz189138 : gB z189138 1 1000001 := ⟨by omega, by omega⟩
                          refine G_iinc (L' := [(5, .int z189138), (6, .ref q187999), (4, .ref q187989), (3, .int g187931), (0, .ref q165994), (1, .int p165995), (2, .int p165996)]) z189138 1 dr_cX17_rename_138 rfl hz189138.symm (Nat.le_of_ble_eq_true rfl) rfl ?_
                          refine G_goto 20 dr_cX17_rename_141 (by decide +kernel) ?_
                          refine G_lv (L' := [(5, .int z189138), (4, .ref q187989), (3, .int g187931), (0, .ref q165994), (1, .int p165995), (2, .int p165996)]) [0, 2, 3, 4, 5, 6] rfl ?_
                          exact ih20_188778 F189119 z189138 (gB_w bz189138 (by decide) (by decide)) hT189129 hs189128 (by omega)
                        · have r189139 : o189135.toInt ≠ 0 := gj_neq hc189136 (show Int32.toInt 0 = 0 by decide)
                          have bo189135' : gB o189135 1 1 := ⟨by omega, by omega⟩
                          refine G_aload 0 dr_cX17_rename_123 rfl ?_
                          refine Gp_get 1 hm188812 he189127 dr_cX17_rename_125 (gk_X15 D I) (Nat.le_of_ble_eq_true rfl) wr_9_182 rfl ?_
                          refine G_iload_n 5 dr_cX17_rename_128 rfl ?_
                          refine G_icmp_ne 138 dr_cX17_rename_129 (by decide +kernel) (fun hc189140 => ?_) (fun hc189140 => ?_)
                          · have r189141 : p188815.toInt ≠ p165995.toInt := gC_ne hc189140
                            obtain ⟨z189142, hz189142⟩ : ∃ z : Int32, z = g188775 + Int32.ofInt 1 := ⟨_, rfl⟩
                            have ez189142 : z189142.toInt = g188775.toInt + 1 := gI_inc hz189142 (by decide) bg188775' (by decide) (by decide)
                            have bz189142 : gB z189142 1 1000001 := ⟨by omega, by omega⟩
                            refine G_iinc (L' := [(5, .int z189142), (6, .ref q187999), (4, .ref q187989), (3, .int g187931), (0, .ref q165994), (1, .int p165995), (2, .int p165996)]) z189142 1 dr_cX17_rename_138 rfl hz189142.symm (Nat.le_of_ble_eq_true rfl) rfl ?_
                            refine G_goto 20 dr_cX17_rename_141 (by decide +kernel) ?_
                            refine G_lv (L' := [(5, .int z189142), (4, .ref q187989), (3, .int g187931), (0, .ref q165994), (1, .int p165995), (2, .int p165996)]) [0, 2, 3, 4, 5, 6] rfl ?_
                            exact ih20_188778 F189119 z189142 (gB_w bz189142 (by decide) (by decide)) hT189129 hs189128 (by omega)
                          · have r189143 : p188815.toInt = p165995.toInt := gC_eq hc189140
                            refine G_aload 0 dr_cX17_rename_132 rfl ?_
                            refine G_iload_n 6 dr_cX17_rename_134 rfl ?_
                            refine Gp_put 1 hm188812 he189127 dr_cX17_rename_135 (gk_X15 D I) (Nat.le_of_ble_eq_true rfl) wr_9_182 rfl rfl rfl (Nat.le_of_ble_eq_true rfl) (fun F189144 e189145 n189146 => ?_)
                            have he189147 : F189144 q165994 = .inr (18, [.ref q187940, .ref q187941, .int p187942, .int p187943]) := (n189146 q165994 (rn_oo he189122 he189127 (by decide))).trans he189122
                            have he189148 : F189144 q187940 = .inr (4, [.int p187970, .ref q187972, .int p187971]) := (n189146 q187940 (rn_oo he189123 he189127 (by decide))).trans he189123
                            have he189149 : F189144 q187972 = .inl (I (.object "java/lang/Object"), n187986, .inr (.inr (.inr (.inr f187987)))) := (n189146 q187972 (rn_ao he189124 he189127)).trans he189124
                            have he189150 : F189144 q187989 = .inr (17, [.ref q187998, .ref q187999, .int p188000, .int p188001]) := (n189146 q187989 (rn_oo he189125 he189127 (by decide))).trans he189125
                            have he189151 : F189144 q187998 = .inr (4, [.int p188788, .ref q188790, .int p188789]) := (n189146 q187998 (rn_oo he189126 he189127 (by decide))).trans he189126
                            have he189152 : F189144 q187999 = .inr (20, [.int p188814, .int p165996, .int p165996, .int p165996, .int p188818, .int p188819, .int p188820]) := e189145
                            have hs189153 : rStr γ [1] F165993 F189144 := rStr_pu2 hs189128 n189146 ht188004 (by decide)
                            obtain ⟨z189154, hz189154⟩ : ∃ z : Int32, z = g188775 + Int32.ofInt 1 := ⟨_, rfl⟩
                            have ez189154 : z189154.toInt = g188775.toInt + 1 := gI_inc hz189154 (by decide) bg188775' (by decide) (by decide)
                            have bz189154 : gB z189154 1 1000001 := ⟨by omega, by omega⟩
                            refine G_iinc (L' := [(5, .int z189154), (6, .ref q187999), (4, .ref q187989), (3, .int g187931), (0, .ref q165994), (1, .int p165995), (2, .int p165996)]) z189154 1 dr_cX17_rename_138 rfl hz189154.symm (Nat.le_of_ble_eq_true rfl) rfl ?_
                            refine G_goto 20 dr_cX17_rename_141 (by decide +kernel) ?_
                            have hT189155 : RS D I P165992 F189144 γ el := RS_set hT189129 n189146 ht188004 (by decide) ⟨p188814, p165996, p165996, p165996, p188818, p188819, p188820, he189152, bp188814, bp165996, bp188818, bp188819, bp188820, (by omega), (by omega), (by omega), (by omega), (by omega)⟩
                            refine G_lv (L' := [(5, .int z189154), (4, .ref q187989), (3, .int g187931), (0, .ref q165994), (1, .int p165995), (2, .int p165996)]) [0, 2, 3, 4, 5, 6] rfl ?_
                            exact ih20_188778 F189144 z189154 (gB_w bz189154 (by decide) (by decide)) hT189155 hs189153 (by omega)
              · have r189156 : g188775.toInt < p188789.toInt := gC_nle hc188810
                have bg188775'' : gB g188775 0 999999 := ⟨by omega, by omega⟩
                have bp188789' : gB p188789 1 1000000 := ⟨by omega, by omega⟩
                refine G_aload 1 dr_cX17_rename_46 rfl ?_
                refine Gp_get 0 hm187996 he188784 dr_cX17_rename_48 (gk_X12 D I) (Nat.le_of_ble_eq_true rfl) wr_9_220 rfl ?_
                refine G_iload 0 dr_cX17_rename_51 rfl ?_
                obtain ⟨r189157, r189158, n189165, f189166, r189159, r189160, r189161, r189162, r189163, r189164⟩ := rLC_n r188793 (by omega)
                have hm189167 : q188790 ∈ P165992 := RS_m hT188777 r189157 (by decide)
                obtain ⟨q189168, hx189169⟩ : ∃ x, x = el q187998 g188775.toInt.toNat := ⟨_, rfl⟩
                have hx189170 : f189166 g188775.toNatClampNeg = some q189168 := (r189163 _ (show g188775.toInt.toNat < γ 2 q187998 by omega)).trans (by rw [hx189169])
                have ht189171 : rKd γ q189168 1 := by rw [hx189169]; exact (r188794 _ (show g188775.toInt.toNat < γ 2 q187998 by omega)).1
                have ht189172 : rFm γ q189168 q187998 := by rw [hx189169]; exact (r188794 _ (show g188775.toInt.toNat < γ 2 q187998 by omega)).2.1
                refine Gw_callV (As := [.int g188775]) (gV_ok D I) (cp_22_ArrayList_get l hl0 D I P165992 F188776 q187998 q188790 g188775 p188788 p188789 f189166 n189165 q189168 hm188786 hm189167 he188787 r189159 (gB_w bg188775'' (by decide) (by decide)) (gB_w bp188789' (by decide) (by decide)) (by omega) (by omega) (by assumption) (by omega)) dr_cX17_rename_53 ⟨wr_10_201, wr_1_18, wr_10_65, by decide, rfl, (Nat.le_of_ble_eq_true rfl), (Nat.le_of_ble_eq_true rfl)⟩ wr_10_63 wr_10_64 hm188786 he188787 rfl (show 0 + 0 ≤ 0 by first | omega | decide) (show 0 + 0 ≤ 0 by first | omega | decide) (Nat.le_of_ble_eq_true rfl) (fun r189176 w189177 dc189173 ds189174 hp189175 => ?_) (fun _ _ _ _ _ z => z.elim)
                obtain ⟨rfl, rfl, hdc, hds⟩ := hp189175
                change G _ _ _ _ _ _ _ (.ref q189168 :: _) _ _ _
                refine G_widen (cs' := 0) (sl' := 0) (by omega) (by omega) ?_
                have hm189178 : q189168 ∈ P165992 := RS_m hT188777 ht189171 (by decide)
                obtain ⟨p189180, p189181, p189182, p189183, p189184, p189185, p189186, he189179, bp189180, bp189181, bp189184, bp189185, bp189186, r189187, r189188, r189189, r189190, r189191⟩ := show rk_1 γ q189168 (F188776 q189168) from RS_o hT188777 ht189171
                have bp189182 := gB_any p189182
                have bp189183 := gB_any p189183
                refine Gp_cast hm189178 he189179 rfl dr_cX17_rename_56 wr_10_202 (gr_cast 1 rfl) ?_
                refine G_goto 67 dr_cX17_rename_59 (by decide +kernel) ?_
                refine G_astore (L' := [(6, .ref q189168), (5, .int g188775), (4, .ref q187989), (3, .int g187931), (0, .ref q165994), (1, .int p165995), (2, .int p165996)]) dr_cX17_rename_67 (Nat.le_of_ble_eq_true rfl) rfl ?_
                refine G_aload 0 dr_cX17_rename_69 rfl ?_
                refine Gw_callV (As := []) (gV_ok D I) (cp_1669_Row_usesA l hl0 D I P165992 F188776 q189168 p189180 p189181 p189182 p189183 p189184 p189185 p189186 hm189178 he189179 bp189180 bp189181 bp189184 bp189185 bp189186) dr_cX17_rename_71 ⟨wr_10_192, wr_1_39, wr_10_195, by decide, rfl, (Nat.le_of_ble_eq_true rfl), (Nat.le_of_ble_eq_true rfl)⟩ wr_10_193 wr_10_194 hm189178 he189179 rfl (show 0 + 0 ≤ 0 by first | omega | decide) (show 0 + 0 ≤ 0 by first | omega | decide) (Nat.le_of_ble_eq_true rfl) (fun r189195 w189196 dc189192 ds189193 hp189194 => ?_) (fun _ _ _ _ _ z => z.elim)
                obtain ⟨o189197, rfl, rfl, hdc, hds, bo189197, x189198⟩ := hp189194
                change G _ _ _ _ _ _ _ (.int o189197 :: _) _ _ _
                refine G_widen (cs' := 0) (sl' := 0) (by omega) (by omega) ?_
                refine G_if_eq 92 dr_cX17_rename_74 (by decide +kernel) (fun hc189199 => ?_) (fun hc189199 => ?_)
                · have r189200 : o189197.toInt = 0 := gj_eq hc189199 (show Int32.toInt 0 = 0 by decide)
                  have bo189197' : gB o189197 0 0 := ⟨by omega, by omega⟩
                  refine G_aload 0 dr_cX17_rename_92 rfl ?_
                  refine Gw_callV (As := []) (gV_ok D I) (cp_1693_Row_usesB l hl0 D I P165992 F188776 q189168 p189180 p189181 p189182 p189183 p189184 p189185 p189186 hm189178 he189179 bp189180 bp189181 bp189184 bp189185 bp189186) dr_cX17_rename_94 ⟨wr_10_196, wr_1_39, wr_10_199, by decide, rfl, (Nat.le_of_ble_eq_true rfl), (Nat.le_of_ble_eq_true rfl)⟩ wr_10_197 wr_10_198 hm189178 he189179 rfl (show 0 + 0 ≤ 0 by first | omega | decide) (show 0 + 0 ≤ 0 by first | omega | decide) (Nat.le_of_ble_eq_true rfl) (fun r189204 w189205 dc189201 ds189202 hp189203 => ?_) (fun _ _ _ _ _ z => z.elim)
                  obtain ⟨o189206, rfl, rfl, hdc, hds, bo189206, x189207⟩ := hp189203
                  change G _ _ _ _ _ _ _ (.int o189206 :: _) _ _ _
                  refine G_widen (cs' := 0) (sl' := 0) (by omega) (by omega) ?_
                  refine G_if_eq 115 dr_cX17_rename_97 (by decide +kernel) (fun hc189208 => ?_) (fun hc189208 => ?_)
                  · have r189209 : o189206.toInt = 0 := gj_eq hc189208 (show Int32.toInt 0 = 0 by decide)
                    have bo189206' : gB o189206 0 0 := ⟨by omega, by omega⟩
                    refine G_aload 0 dr_cX17_rename_115 rfl ?_
                    refine Gw_callV (As := []) (gV_ok D I) (cp_1654_Row_sets l hl0 D I P165992 F188776 q189168 p189180 p189181 p189182 p189183 p189184 p189185 p189186 hm189178 he189179 bp189180 bp189181 bp189184 bp189185 bp189186) dr_cX17_rename_117 ⟨wr_10_181, wr_1_39, wr_10_184, by decide, rfl, (Nat.le_of_ble_eq_true rfl), (Nat.le_of_ble_eq_true rfl)⟩ wr_10_182 wr_10_183 hm189178 he189179 rfl (show 0 + 0 ≤ 0 by first | omega | decide) (show 0 + 0 ≤ 0 by first | omega | decide) (Nat.le_of_ble_eq_true rfl) (fun r189213 w189214 dc189210 ds189211 hp189212 => ?_) (fun _ _ _ _ _ z => z.elim)
                    obtain ⟨o189215, rfl, rfl, hdc, hds, bo189215⟩ := hp189212
                    change G _ _ _ _ _ _ _ (.int o189215 :: _) _ _ _
                    refine G_widen (cs' := 0) (sl' := 0) (by omega) (by omega) ?_
                    refine G_if_eq 138 dr_cX17_rename_120 (by decide +kernel) (fun hc189216 => ?_) (fun hc189216 => ?_)
                    · have r189217 : o189215.toInt = 0 := gj_eq hc189216 (show Int32.toInt 0 = 0 by decide)
                      have bo189215' : gB o189215 0 0 := ⟨by omega, by omega⟩
                      obtain ⟨z189218, hz189218⟩ : ∃ z : Int32, z = g188775 + Int32.ofInt 1 := ⟨_, rfl⟩
                      have ez189218 : z189218.toInt = g188775.toInt + 1 := gI_inc hz189218 (by decide) bg188775'' (by decide) (by decide)
                      have bz189218 : gB z189218 1 1000000 := ⟨by omega, by omega⟩
                      refine G_iinc (L' := [(5, .int z189218), (6, .ref q189168), (4, .ref q187989), (3, .int g187931), (0, .ref q165994), (1, .int p165995), (2, .int p165996)]) z189218 1 dr_cX17_rename_138 rfl hz189218.symm (Nat.le_of_ble_eq_true rfl) rfl ?_
                      refine G_goto 20 dr_cX17_rename_141 (by decide +kernel) ?_
                      refine G_lv (L' := [(5, .int z189218), (4, .ref q187989), (3, .int g187931), (0, .ref q165994), (1, .int p165995), (2, .int p165996)]) [0, 2, 3, 4, 5, 6] rfl ?_
                      exact ih20_188778 F188776 z189218 (gB_w bz189218 (by decide) (by decide)) hT188777 hs188778 (by omega)
                    · have r189219 : o189215.toInt ≠ 0 := gj_neq hc189216 (show Int32.toInt 0 = 0 by decide)
                      have bo189215' : gB o189215 1 1 := ⟨by omega, by omega⟩
                      refine G_aload 0 dr_cX17_rename_123 rfl ?_
                      refine Gp_get 1 hm189178 he189179 dr_cX17_rename_125 (gk_X15 D I) (Nat.le_of_ble_eq_true rfl) wr_9_182 rfl ?_
                      refine G_iload_n 5 dr_cX17_rename_128 rfl ?_
                      refine G_icmp_ne 138 dr_cX17_rename_129 (by decide +kernel) (fun hc189220 => ?_) (fun hc189220 => ?_)
                      · have r189221 : p189181.toInt ≠ p165995.toInt := gC_ne hc189220
                        obtain ⟨z189222, hz189222⟩ : ∃ z : Int32, z = g188775 + Int32.ofInt 1 := ⟨_, rfl⟩
                        have ez189222 : z189222.toInt = g188775.toInt + 1 := gI_inc hz189222 (by decide) bg188775'' (by decide) (by decide)
                        have bz189222 : gB z189222 1 1000000 := ⟨by omega, by omega⟩
                        refine G_iinc (L' := [(5, .int z189222), (6, .ref q189168), (4, .ref q187989), (3, .int g187931), (0, .ref q165994), (1, .int p165995), (2, .int p165996)]) z189222 1 dr_cX17_rename_138 rfl hz189222.symm (Nat.le_of_ble_eq_true rfl) rfl ?_
                        refine G_goto 20 dr_cX17_rename_141 (by decide +kernel) ?_
                        refine G_lv (L' := [(5, .int z189222), (4, .ref q187989), (3, .int g187931), (0, .ref q165994), (1, .int p165995), (2, .int p165996)]) [0, 2, 3, 4, 5, 6] rfl ?_
                        exact ih20_188778 F188776 z189222 (gB_w bz189222 (by decide) (by decide)) hT188777 hs188778 (by omega)
                      · have r189223 : p189181.toInt = p165995.toInt := gC_eq hc189220
                        refine G_aload 0 dr_cX17_rename_132 rfl ?_
                        refine G_iload_n 6 dr_cX17_rename_134 rfl ?_
                        refine Gp_put 1 hm189178 he189179 dr_cX17_rename_135 (gk_X15 D I) (Nat.le_of_ble_eq_true rfl) wr_9_182 rfl rfl rfl (Nat.le_of_ble_eq_true rfl) (fun F189224 e189225 n189226 => ?_)
                        have he189227 : F189224 q165994 = .inr (18, [.ref q187940, .ref q187941, .int p187942, .int p187943]) := (n189226 q165994 (rn_oo he188781 he189179 (by decide))).trans he188781
                        have he189228 : F189224 q187940 = .inr (4, [.int p187970, .ref q187972, .int p187971]) := (n189226 q187940 (rn_oo he188782 he189179 (by decide))).trans he188782
                        have he189229 : F189224 q187972 = .inl (I (.object "java/lang/Object"), n187986, .inr (.inr (.inr (.inr f187987)))) := (n189226 q187972 (rn_ao he188783 he189179)).trans he188783
                        have he189230 : F189224 q187989 = .inr (17, [.ref q187998, .ref q187999, .int p188000, .int p188001]) := (n189226 q187989 (rn_oo he188784 he189179 (by decide))).trans he188784
                        have he189231 : F189224 q187998 = .inr (4, [.int p188788, .ref q188790, .int p188789]) := (n189226 q187998 (rn_oo he188787 he189179 (by decide))).trans he188787
                        have he189232 : F189224 q188790 = .inl (I (.object "java/lang/Object"), n189165, .inr (.inr (.inr (.inr f189166)))) := (n189226 q188790 (rn_ao r189159 he189179)).trans r189159
                        have he189233 : F189224 q189168 = .inr (20, [.int p189180, .int p165996, .int p189182, .int p189183, .int p189184, .int p189185, .int p189186]) := e189225
                        have hs189234 : rStr γ [1] F165993 F189224 := rStr_pu2 hs188778 n189226 ht189171 (by decide)
                        obtain ⟨z189235, hz189235⟩ : ∃ z : Int32, z = g188775 + Int32.ofInt 1 := ⟨_, rfl⟩
                        have ez189235 : z189235.toInt = g188775.toInt + 1 := gI_inc hz189235 (by decide) bg188775'' (by decide) (by decide)
                        have bz189235 : gB z189235 1 1000000 := ⟨by omega, by omega⟩
                        refine G_iinc (L' := [(5, .int z189235), (6, .ref q189168), (4, .ref q187989), (3, .int g187931), (0, .ref q165994), (1, .int p165995), (2, .int p165996)]) z189235 1 dr_cX17_rename_138 rfl hz189235.symm (Nat.le_of_ble_eq_true rfl) rfl ?_
                        refine G_goto 20 dr_cX17_rename_141 (by decide +kernel) ?_
                        have hT189236 : RS D I P165992 F189224 γ el := RS_set hT188777 n189226 ht189171 (by decide) ⟨p189180, p165996, p189182, p189183, p189184, p189185, p189186, he189233, bp189180, bp165996, bp189184, bp189185, bp189186, (by omega), (by omega), (by omega), (by omega), (by omega)⟩
                        refine G_lv (L' := [(5, .int z189235), (4, .ref q187989), (3, .int g187931), (0, .ref q165994), (1, .int p165995), (2, .int p165996)]) [0, 2, 3, 4, 5, 6] rfl ?_
                        exact ih20_188778 F189224 z189235 (gB_w bz189235 (by decide) (by decide)) hT189236 hs189234 (by omega)
                  · have r189237 : o189206.toInt ≠ 0 := gj_neq hc189208 (show Int32.toInt 0 = 0 by decide)
                    have bo189206' : gB o189206 1 1 := ⟨by omega, by omega⟩
                    refine G_aload 0 dr_cX17_rename_100 rfl ?_
                    refine Gp_get 3 hm189178 he189179 dr_cX17_rename_102 (gk_X15 D I) (Nat.le_of_ble_eq_true rfl) wr_9_190 rfl ?_
                    refine G_iload_n 5 dr_cX17_rename_105 rfl ?_
                    refine G_icmp_ne 115 dr_cX17_rename_106 (by decide +kernel) (fun hc189238 => ?_) (fun hc189238 => ?_)
                    · have r189239 : p189183.toInt ≠ p165995.toInt := gC_ne hc189238
                      refine G_aload 0 dr_cX17_rename_115 rfl ?_
                      refine Gw_callV (As := []) (gV_ok D I) (cp_1654_Row_sets l hl0 D I P165992 F188776 q189168 p189180 p189181 p189182 p189183 p189184 p189185 p189186 hm189178 he189179 bp189180 bp189181 bp189184 bp189185 bp189186) dr_cX17_rename_117 ⟨wr_10_181, wr_1_39, wr_10_184, by decide, rfl, (Nat.le_of_ble_eq_true rfl), (Nat.le_of_ble_eq_true rfl)⟩ wr_10_182 wr_10_183 hm189178 he189179 rfl (show 0 + 0 ≤ 0 by first | omega | decide) (show 0 + 0 ≤ 0 by first | omega | decide) (Nat.le_of_ble_eq_true rfl) (fun r189243 w189244 dc189240 ds189241 hp189242 => ?_) (fun _ _ _ _ _ z => z.elim)
                      obtain ⟨o189245, rfl, rfl, hdc, hds, bo189245⟩ := hp189242
                      change G _ _ _ _ _ _ _ (.int o189245 :: _) _ _ _
                      refine G_widen (cs' := 0) (sl' := 0) (by omega) (by omega) ?_
                      refine G_if_eq 138 dr_cX17_rename_120 (by decide +kernel) (fun hc189246 => ?_) (fun hc189246 => ?_)
                      · have r189247 : o189245.toInt = 0 := gj_eq hc189246 (show Int32.toInt 0 = 0 by decide)
                        have bo189245' : gB o189245 0 0 := ⟨by omega, by omega⟩
                        obtain ⟨z189248, hz189248⟩ : ∃ z : Int32, z = g188775 + Int32.ofInt 1 := ⟨_, rfl⟩
                        have ez189248 : z189248.toInt = g188775.toInt + 1 := gI_inc hz189248 (by decide) bg188775'' (by decide) (by decide)
                        have bz189248 : gB z189248 1 1000000 := ⟨by omega, by omega⟩
                        refine G_iinc (L' := [(5, .int z189248), (6, .ref q189168), (4, .ref q187989), (3, .int g187931), (0, .ref q165994), (1, .int p165995), (2, .int p165996)]) z189248 1 dr_cX17_rename_138 rfl hz189248.symm (Nat.le_of_ble_eq_true rfl) rfl ?_
                        refine G_goto 20 dr_cX17_rename_141 (by decide +kernel) ?_
                        refine G_lv (L' := [(5, .int z189248), (4, .ref q187989), (3, .int g187931), (0, .ref q165994), (1, .int p165995), (2, .int p165996)]) [0, 2, 3, 4, 5, 6] rfl ?_
                        exact ih20_188778 F188776 z189248 (gB_w bz189248 (by decide) (by decide)) hT188777 hs188778 (by omega)
                      · have r189249 : o189245.toInt ≠ 0 := gj_neq hc189246 (show Int32.toInt 0 = 0 by decide)
                        have bo189245' : gB o189245 1 1 := ⟨by omega, by omega⟩
                        refine G_aload 0 dr_cX17_rename_123 rfl ?_
                        refine Gp_get 1 hm189178 he189179 dr_cX17_rename_125 (gk_X15 D I) (Nat.le_of_ble_eq_true rfl) wr_9_182 rfl ?_
                        refine G_iload_n 5 dr_cX17_rename_128 rfl ?_
                        refine G_icmp_ne 138 dr_cX17_rename_129 (by decide +kernel) (fun hc189250 => ?_) (fun hc189250 => ?_)
                        · have r189251 : p189181.toInt ≠ p165995.toInt := gC_ne hc189250
                          obtain ⟨z189252, hz189252⟩ : ∃ z : Int32, z = g188775 + Int32.ofInt 1 := ⟨_, rfl⟩
                          have ez189252 : z189252.toInt = g188775.toInt + 1 := gI_inc hz189252 (by decide) bg188775'' (by decide) (by decide)
                          have bz189252 : gB z189252 1 1000000 := ⟨by omega, by omega⟩
                          refine G_iinc (L' := [(5, .int z189252), (6, .ref q189168), (4, .ref q187989), (3, .int g187931), (0, .ref q165994), (1, .int p165995), (2, .int p165996)]) z189252 1 dr_cX17_rename_138 rfl hz189252.symm (Nat.le_of_ble_eq_true rfl) rfl ?_
                          refine G_goto 20 dr_cX17_rename_141 (by decide +kernel) ?_
                          refine G_lv (L' := [(5, .int z189252), (4, .ref q187989), (3, .int g187931), (0, .ref q165994), (1, .int p165995), (2, .int p165996)]) [0, 2, 3, 4, 5, 6] rfl ?_
                          exact ih20_188778 F188776 z189252 (gB_w bz189252 (by decide) (by decide)) hT188777 hs188778 (by omega)
                        · have r189253 : p189181.toInt = p165995.toInt := gC_eq hc189250
                          refine G_aload 0 dr_cX17_rename_132 rfl ?_
                          refine G_iload_n 6 dr_cX17_rename_134 rfl ?_
                          refine Gp_put 1 hm189178 he189179 dr_cX17_rename_135 (gk_X15 D I) (Nat.le_of_ble_eq_true rfl) wr_9_182 rfl rfl rfl (Nat.le_of_ble_eq_true rfl) (fun F189254 e189255 n189256 => ?_)
                          have he189257 : F189254 q165994 = .inr (18, [.ref q187940, .ref q187941, .int p187942, .int p187943]) := (n189256 q165994 (rn_oo he188781 he189179 (by decide))).trans he188781
                          have he189258 : F189254 q187940 = .inr (4, [.int p187970, .ref q187972, .int p187971]) := (n189256 q187940 (rn_oo he188782 he189179 (by decide))).trans he188782
                          have he189259 : F189254 q187972 = .inl (I (.object "java/lang/Object"), n187986, .inr (.inr (.inr (.inr f187987)))) := (n189256 q187972 (rn_ao he188783 he189179)).trans he188783
                          have he189260 : F189254 q187989 = .inr (17, [.ref q187998, .ref q187999, .int p188000, .int p188001]) := (n189256 q187989 (rn_oo he188784 he189179 (by decide))).trans he188784
                          have he189261 : F189254 q187998 = .inr (4, [.int p188788, .ref q188790, .int p188789]) := (n189256 q187998 (rn_oo he188787 he189179 (by decide))).trans he188787
                          have he189262 : F189254 q188790 = .inl (I (.object "java/lang/Object"), n189165, .inr (.inr (.inr (.inr f189166)))) := (n189256 q188790 (rn_ao r189159 he189179)).trans r189159
                          have he189263 : F189254 q189168 = .inr (20, [.int p189180, .int p165996, .int p189182, .int p189183, .int p189184, .int p189185, .int p189186]) := e189255
                          have hs189264 : rStr γ [1] F165993 F189254 := rStr_pu2 hs188778 n189256 ht189171 (by decide)
                          obtain ⟨z189265, hz189265⟩ : ∃ z : Int32, z = g188775 + Int32.ofInt 1 := ⟨_, rfl⟩
                          have ez189265 : z189265.toInt = g188775.toInt + 1 := gI_inc hz189265 (by decide) bg188775'' (by decide) (by decide)
                          have bz189265 : gB z189265 1 1000000 := ⟨by omega, by omega⟩
                          refine G_iinc (L' := [(5, .int z189265), (6, .ref q189168), (4, .ref q187989), (3, .int g187931), (0, .ref q165994), (1, .int p165995), (2, .int p165996)]) z189265 1 dr_cX17_rename_138 rfl hz189265.symm (Nat.le_of_ble_eq_true rfl) rfl ?_
                          refine G_goto 20 dr_cX17_rename_141 (by decide +kernel) ?_
                          have hT189266 : RS D I P165992 F189254 γ el := RS_set hT188777 n189256 ht189171 (by decide) ⟨p189180, p165996, p189182, p189183, p189184, p189185, p189186, he189263, bp189180, bp165996, bp189184, bp189185, bp189186, (by omega), (by omega), (by omega), (by omega), (by omega)⟩
                          refine G_lv (L' := [(5, .int z189265), (4, .ref q187989), (3, .int g187931), (0, .ref q165994), (1, .int p165995), (2, .int p165996)]) [0, 2, 3, 4, 5, 6] rfl ?_
                          exact ih20_188778 F189254 z189265 (gB_w bz189265 (by decide) (by decide)) hT189266 hs189264 (by omega)
                    · have r189267 : p189183.toInt = p165995.toInt := gC_eq hc189238
                      have bp189183' : gB p189183 0 1999 := ⟨by omega, by omega⟩
                      refine G_aload 0 dr_cX17_rename_109 rfl ?_
                      refine G_iload_n 6 dr_cX17_rename_111 rfl ?_
                      refine Gp_put 3 hm189178 he189179 dr_cX17_rename_112 (gk_X15 D I) (Nat.le_of_ble_eq_true rfl) wr_9_190 rfl rfl rfl (Nat.le_of_ble_eq_true rfl) (fun F189268 e189269 n189270 => ?_)
                      have he189271 : F189268 q165994 = .inr (18, [.ref q187940, .ref q187941, .int p187942, .int p187943]) := (n189270 q165994 (rn_oo he188781 he189179 (by decide))).trans he188781
                      have he189272 : F189268 q187940 = .inr (4, [.int p187970, .ref q187972, .int p187971]) := (n189270 q187940 (rn_oo he188782 he189179 (by decide))).trans he188782
                      have he189273 : F189268 q187972 = .inl (I (.object "java/lang/Object"), n187986, .inr (.inr (.inr (.inr f187987)))) := (n189270 q187972 (rn_ao he188783 he189179)).trans he188783
                      have he189274 : F189268 q187989 = .inr (17, [.ref q187998, .ref q187999, .int p188000, .int p188001]) := (n189270 q187989 (rn_oo he188784 he189179 (by decide))).trans he188784
                      have he189275 : F189268 q187998 = .inr (4, [.int p188788, .ref q188790, .int p188789]) := (n189270 q187998 (rn_oo he188787 he189179 (by decide))).trans he188787
                      have he189276 : F189268 q188790 = .inl (I (.object "java/lang/Object"), n189165, .inr (.inr (.inr (.inr f189166)))) := (n189270 q188790 (rn_ao r189159 he189179)).trans r189159
                      have he189277 : F189268 q189168 = .inr (20, [.int p189180, .int p189181, .int p189182, .int p165996, .int p189184, .int p189185, .int p189186]) := e189269
                      have hs189278 : rStr γ [1] F165993 F189268 := rStr_pu2 hs188778 n189270 ht189171 (by decide)
                      refine G_aload 0 dr_cX17_rename_115 rfl ?_
                      have hT189279 : RS D I P165992 F189268 γ el := RS_set hT188777 n189270 ht189171 (by decide) ⟨p189180, p189181, p189182, p165996, p189184, p189185, p189186, he189277, bp189180, bp189181, bp189184, bp189185, bp189186, (by omega), (by omega), (by omega), (by omega), (by omega)⟩
                      refine Gw_callV (As := []) (gV_ok D I) (cp_1654_Row_sets l hl0 D I P165992 F189268 q189168 p189180 p189181 p189182 p165996 p189184 p189185 p189186 hm189178 he189277 bp189180 bp189181 bp189184 bp189185 bp189186) dr_cX17_rename_117 ⟨wr_10_181, wr_1_39, wr_10_184, by decide, rfl, (Nat.le_of_ble_eq_true rfl), (Nat.le_of_ble_eq_true rfl)⟩ wr_10_182 wr_10_183 hm189178 he189277 rfl (show 0 + 0 ≤ 0 by first | omega | decide) (show 0 + 0 ≤ 0 by first | omega | decide) (Nat.le_of_ble_eq_true rfl) (fun r189283 w189284 dc189280 ds189281 hp189282 => ?_) (fun _ _ _ _ _ z => z.elim)
                      obtain ⟨o189285, rfl, rfl, hdc, hds, bo189285⟩ := hp189282
                      change G _ _ _ _ _ _ _ (.int o189285 :: _) _ _ _
                      refine G_widen (cs' := 0) (sl' := 0) (by omega) (by omega) ?_
                      refine G_if_eq 138 dr_cX17_rename_120 (by decide +kernel) (fun hc189286 => ?_) (fun hc189286 => ?_)
                      · have r189287 : o189285.toInt = 0 := gj_eq hc189286 (show Int32.toInt 0 = 0 by decide)
                        have bo189285' : gB o189285 0 0 := ⟨by omega, by omega⟩
                        obtain ⟨z189288, hz189288⟩ : ∃ z : Int32, z = g188775 + Int32.ofInt 1 := ⟨_, rfl⟩
                        have ez189288 : z189288.toInt = g188775.toInt + 1 := gI_inc hz189288 (by decide) bg188775'' (by decide) (by decide)
                        have bz189288 : gB z189288 1 1000000 := ⟨by omega, by omega⟩
                        refine G_iinc (L' := [(5, .int z189288), (6, .ref q189168), (4, .ref q187989), (3, .int g187931), (0, .ref q165994), (1, .int p165995), (2, .int p165996)]) z189288 1 dr_cX17_rename_138 rfl hz189288.symm (Nat.le_of_ble_eq_true rfl) rfl ?_
                        refine G_goto 20 dr_cX17_rename_141 (by decide +kernel) ?_
                        refine G_lv (L' := [(5, .int z189288), (4, .ref q187989), (3, .int g187931), (0, .ref q165994), (1, .int p165995), (2, .int p165996)]) [0, 2, 3, 4, 5, 6] rfl ?_
                        exact ih20_188778 F189268 z189288 (gB_w bz189288 (by decide) (by decide)) hT189279 hs189278 (by omega)
                      · have r189289 : o189285.toInt ≠ 0 := gj_neq hc189286 (show Int32.toInt 0 = 0 by decide)
                        have bo189285' : gB o189285 1 1 := ⟨by omega, by omega⟩
                        refine G_aload 0 dr_cX17_rename_123 rfl ?_
                        refine Gp_get 1 hm189178 he189277 dr_cX17_rename_125 (gk_X15 D I) (Nat.le_of_ble_eq_true rfl) wr_9_182 rfl ?_
                        refine G_iload_n 5 dr_cX17_rename_128 rfl ?_
                        refine G_icmp_ne 138 dr_cX17_rename_129 (by decide +kernel) (fun hc189290 => ?_) (fun hc189290 => ?_)
                        · have r189291 : p189181.toInt ≠ p165995.toInt := gC_ne hc189290
                          obtain ⟨z189292, hz189292⟩ : ∃ z : Int32, z = g188775 + Int32.ofInt 1 := ⟨_, rfl⟩
                          have ez189292 : z189292.toInt = g188775.toInt + 1 := gI_inc hz189292 (by decide) bg188775'' (by decide) (by decide)
                          have bz189292 : gB z189292 1 1000000 := ⟨by omega, by omega⟩
                          refine G_iinc (L' := [(5, .int z189292), (6, .ref q189168), (4, .ref q187989), (3, .int g187931), (0, .ref q165994), (1, .int p165995), (2, .int p165996)]) z189292 1 dr_cX17_rename_138 rfl hz189292.symm (Nat.le_of_ble_eq_true rfl) rfl ?_
                          refine G_goto 20 dr_cX17_rename_141 (by decide +kernel) ?_
                          refine G_lv (L' := [(5, .int z189292), (4, .ref q187989), (3, .int g187931), (0, .ref q165994), (1, .int p165995), (2, .int p165996)]) [0, 2, 3, 4, 5, 6] rfl ?_
                          exact ih20_188778 F189268 z189292 (gB_w bz189292 (by decide) (by decide)) hT189279 hs189278 (by omega)
                        · have r189293 : p189181.toInt = p165995.toInt := gC_eq hc189290
                          refine G_aload 0 dr_cX17_rename_132 rfl ?_
                          refine G_iload_n 6 dr_cX17_rename_134 rfl ?_
                          refine Gp_put 1 hm189178 he189277 dr_cX17_rename_135 (gk_X15 D I) (Nat.le_of_ble_eq_true rfl) wr_9_182 rfl rfl rfl (Nat.le_of_ble_eq_true rfl) (fun F189294 e189295 n189296 => ?_)
                          have he189297 : F189294 q165994 = .inr (18, [.ref q187940, .ref q187941, .int p187942, .int p187943]) := (n189296 q165994 (rn_oo he189271 he189277 (by decide))).trans he189271
                          have he189298 : F189294 q187940 = .inr (4, [.int p187970, .ref q187972, .int p187971]) := (n189296 q187940 (rn_oo he189272 he189277 (by decide))).trans he189272
                          have he189299 : F189294 q187972 = .inl (I (.object "java/lang/Object"), n187986, .inr (.inr (.inr (.inr f187987)))) := (n189296 q187972 (rn_ao he189273 he189277)).trans he189273
                          have he189300 : F189294 q187989 = .inr (17, [.ref q187998, .ref q187999, .int p188000, .int p188001]) := (n189296 q187989 (rn_oo he189274 he189277 (by decide))).trans he189274
                          have he189301 : F189294 q187998 = .inr (4, [.int p188788, .ref q188790, .int p188789]) := (n189296 q187998 (rn_oo he189275 he189277 (by decide))).trans he189275
                          have he189302 : F189294 q188790 = .inl (I (.object "java/lang/Object"), n189165, .inr (.inr (.inr (.inr f189166)))) := (n189296 q188790 (rn_ao he189276 he189277)).trans he189276
                          have he189303 : F189294 q189168 = .inr (20, [.int p189180, .int p165996, .int p189182, .int p165996, .int p189184, .int p189185, .int p189186]) := e189295
                          have hs189304 : rStr γ [1] F165993 F189294 := rStr_pu2 hs189278 n189296 ht189171 (by decide)
                          obtain ⟨z189305, hz189305⟩ : ∃ z : Int32, z = g188775 + Int32.ofInt 1 := ⟨_, rfl⟩
                          have ez189305 : z189305.toInt = g188775.toInt + 1 := gI_inc hz189305 (by decide) bg188775'' (by decide) (by decide)
                          have bz189305 : gB z189305 1 1000000 := ⟨by omega, by omega⟩
                          refine G_iinc (L' := [(5, .int z189305), (6, .ref q189168), (4, .ref q187989), (3, .int g187931), (0, .ref q165994), (1, .int p165995), (2, .int p165996)]) z189305 1 dr_cX17_rename_138 rfl hz189305.symm (Nat.le_of_ble_eq_true rfl) rfl ?_
                          refine G_goto 20 dr_cX17_rename_141 (by decide +kernel) ?_
                          have hT189306 : RS D I P165992 F189294 γ el := RS_set hT189279 n189296 ht189171 (by decide) ⟨p189180, p165996, p189182, p165996, p189184, p189185, p189186, he189303, bp189180, bp165996, bp189184, bp189185, bp189186, (by omega), (by omega), (by omega), (by omega), (by omega)⟩
                          refine G_lv (L' := [(5, .int z189305), (4, .ref q187989), (3, .int g187931), (0, .ref q165994), (1, .int p165995), (2, .int p165996)]) [0, 2, 3, 4, 5, 6] rfl ?_
                          exact ih20_188778 F189294 z189305 (gB_w bz189305 (by decide) (by decide)) hT189306 hs189304 (by omega)
                · have r189307 : o189197.toInt ≠ 0 := gj_neq hc189199 (show Int32.toInt 0 = 0 by decide)
                  have bo189197' : gB o189197 1 1 := ⟨by omega, by omega⟩
                  refine G_aload 0 dr_cX17_rename_77 rfl ?_
                  refine Gp_get 2 hm189178 he189179 dr_cX17_rename_79 (gk_X15 D I) (Nat.le_of_ble_eq_true rfl) wr_9_186 rfl ?_
                  refine G_iload_n 5 dr_cX17_rename_82 rfl ?_
                  refine G_icmp_ne 92 dr_cX17_rename_83 (by decide +kernel) (fun hc189308 => ?_) (fun hc189308 => ?_)
                  · have r189309 : p189182.toInt ≠ p165995.toInt := gC_ne hc189308
                    refine G_aload 0 dr_cX17_rename_92 rfl ?_
                    refine Gw_callV (As := []) (gV_ok D I) (cp_1693_Row_usesB l hl0 D I P165992 F188776 q189168 p189180 p189181 p189182 p189183 p189184 p189185 p189186 hm189178 he189179 bp189180 bp189181 bp189184 bp189185 bp189186) dr_cX17_rename_94 ⟨wr_10_196, wr_1_39, wr_10_199, by decide, rfl, (Nat.le_of_ble_eq_true rfl), (Nat.le_of_ble_eq_true rfl)⟩ wr_10_197 wr_10_198 hm189178 he189179 rfl (show 0 + 0 ≤ 0 by first | omega | decide) (show 0 + 0 ≤ 0 by first | omega | decide) (Nat.le_of_ble_eq_true rfl) (fun r189313 w189314 dc189310 ds189311 hp189312 => ?_) (fun _ _ _ _ _ z => z.elim)
                    obtain ⟨o189315, rfl, rfl, hdc, hds, bo189315, x189316⟩ := hp189312
                    change G _ _ _ _ _ _ _ (.int o189315 :: _) _ _ _
                    refine G_widen (cs' := 0) (sl' := 0) (by omega) (by omega) ?_
                    refine G_if_eq 115 dr_cX17_rename_97 (by decide +kernel) (fun hc189317 => ?_) (fun hc189317 => ?_)
                    · have r189318 : o189315.toInt = 0 := gj_eq hc189317 (show Int32.toInt 0 = 0 by decide)
                      have bo189315' : gB o189315 0 0 := ⟨by omega, by omega⟩
                      refine G_aload 0 dr_cX17_rename_115 rfl ?_
                      refine Gw_callV (As := []) (gV_ok D I) (cp_1654_Row_sets l hl0 D I P165992 F188776 q189168 p189180 p189181 p189182 p189183 p189184 p189185 p189186 hm189178 he189179 bp189180 bp189181 bp189184 bp189185 bp189186) dr_cX17_rename_117 ⟨wr_10_181, wr_1_39, wr_10_184, by decide, rfl, (Nat.le_of_ble_eq_true rfl), (Nat.le_of_ble_eq_true rfl)⟩ wr_10_182 wr_10_183 hm189178 he189179 rfl (show 0 + 0 ≤ 0 by first | omega | decide) (show 0 + 0 ≤ 0 by first | omega | decide) (Nat.le_of_ble_eq_true rfl) (fun r189322 w189323 dc189319 ds189320 hp189321 => ?_) (fun _ _ _ _ _ z => z.elim)
                      obtain ⟨o189324, rfl, rfl, hdc, hds, bo189324⟩ := hp189321
                      change G _ _ _ _ _ _ _ (.int o189324 :: _) _ _ _
                      refine G_widen (cs' := 0) (sl' := 0) (by omega) (by omega) ?_
                      refine G_if_eq 138 dr_cX17_rename_120 (by decide +kernel) (fun hc189325 => ?_) (fun hc189325 => ?_)
                      · have r189326 : o189324.toInt = 0 := gj_eq hc189325 (show Int32.toInt 0 = 0 by decide)
                        have bo189324' : gB o189324 0 0 := ⟨by omega, by omega⟩
                        obtain ⟨z189327, hz189327⟩ : ∃ z : Int32, z = g188775 + Int32.ofInt 1 := ⟨_, rfl⟩
                        have ez189327 : z189327.toInt = g188775.toInt + 1 := gI_inc hz189327 (by decide) bg188775'' (by decide) (by decide)
                        have bz189327 : gB z189327 1 1000000 := ⟨by omega, by omega⟩
                        refine G_iinc (L' := [(5, .int z189327), (6, .ref q189168), (4, .ref q187989), (3, .int g187931), (0, .ref q165994), (1, .int p165995), (2, .int p165996)]) z189327 1 dr_cX17_rename_138 rfl hz189327.symm (Nat.le_of_ble_eq_true rfl) rfl ?_
                        refine G_goto 20 dr_cX17_rename_141 (by decide +kernel) ?_
                        refine G_lv (L' := [(5, .int z189327), (4, .ref q187989), (3, .int g187931), (0, .ref q165994), (1, .int p165995), (2, .int p165996)]) [0, 2, 3, 4, 5, 6] rfl ?_
                        exact ih20_188778 F188776 z189327 (gB_w bz189327 (by decide) (by decide)) hT188777 hs188778 (by omega)
                      · have r189328 : o189324.toInt ≠ 0 := gj_neq hc189325 (show Int32.toInt 0 = 0 by decide)
                        have bo189324' : gB o189324 1 1 := ⟨by omega, by omega⟩
                        refine G_aload 0 dr_cX17_rename_123 rfl ?_
                        refine Gp_get 1 hm189178 he189179 dr_cX17_rename_125 (gk_X15 D I) (Nat.le_of_ble_eq_true rfl) wr_9_182 rfl ?_
                        refine G_iload_n 5 dr_cX17_rename_128 rfl ?_
                        refine G_icmp_ne 138 dr_cX17_rename_129 (by decide +kernel) (fun hc189329 => ?_) (fun hc189329 => ?_)
                        · have r189330 : p189181.toInt ≠ p165995.toInt := gC_ne hc189329
                          obtain ⟨z189331, hz189331⟩ : ∃ z : Int32, z = g188775 + Int32.ofInt 1 := ⟨_, rfl⟩
                          have ez189331 : z189331.toInt = g188775.toInt + 1 := gI_inc hz189331 (by decide) bg188775'' (by decide) (by decide)
                          have bz189331 : gB z189331 1 1000000 := ⟨by omega, by omega⟩
                          refine G_iinc (L' := [(5, .int z189331), (6, .ref q189168), (4, .ref q187989), (3, .int g187931), (0, .ref q165994), (1, .int p165995), (2, .int p165996)]) z189331 1 dr_cX17_rename_138 rfl hz189331.symm (Nat.le_of_ble_eq_true rfl) rfl ?_
                          refine G_goto 20 dr_cX17_rename_141 (by decide +kernel) ?_
                          refine G_lv (L' := [(5, .int z189331), (4, .ref q187989), (3, .int g187931), (0, .ref q165994), (1, .int p165995), (2, .int p165996)]) [0, 2, 3, 4, 5, 6] rfl ?_
                          exact ih20_188778 F188776 z189331 (gB_w bz189331 (by decide) (by decide)) hT188777 hs188778 (by omega)
                        · have r189332 : p189181.toInt = p165995.toInt := gC_eq hc189329
                          refine G_aload 0 dr_cX17_rename_132 rfl ?_
                          refine G_iload_n 6 dr_cX17_rename_134 rfl ?_
                          refine Gp_put 1 hm189178 he189179 dr_cX17_rename_135 (gk_X15 D I) (Nat.le_of_ble_eq_true rfl) wr_9_182 rfl rfl rfl (Nat.le_of_ble_eq_true rfl) (fun F189333 e189334 n189335 => ?_)
                          have he189336 : F189333 q165994 = .inr (18, [.ref q187940, .ref q187941, .int p187942, .int p187943]) := (n189335 q165994 (rn_oo he188781 he189179 (by decide))).trans he188781
                          have he189337 : F189333 q187940 = .inr (4, [.int p187970, .ref q187972, .int p187971]) := (n189335 q187940 (rn_oo he188782 he189179 (by decide))).trans he188782
                          have he189338 : F189333 q187972 = .inl (I (.object "java/lang/Object"), n187986, .inr (.inr (.inr (.inr f187987)))) := (n189335 q187972 (rn_ao he188783 he189179)).trans he188783
                          have he189339 : F189333 q187989 = .inr (17, [.ref q187998, .ref q187999, .int p188000, .int p188001]) := (n189335 q187989 (rn_oo he188784 he189179 (by decide))).trans he188784
                          have he189340 : F189333 q187998 = .inr (4, [.int p188788, .ref q188790, .int p188789]) := (n189335 q187998 (rn_oo he188787 he189179 (by decide))).trans he188787
                          have he189341 : F189333 q188790 = .inl (I (.object "java/lang/Object"), n189165, .inr (.inr (.inr (.inr f189166)))) := (n189335 q188790 (rn_ao r189159 he189179)).trans r189159
                          have he189342 : F189333 q189168 = .inr (20, [.int p189180, .int p165996, .int p189182, .int p189183, .int p189184, .int p189185, .int p189186]) := e189334
                          have hs189343 : rStr γ [1] F165993 F189333 := rStr_pu2 hs188778 n189335 ht189171 (by decide)
                          obtain ⟨z189344, hz189344⟩ : ∃ z : Int32, z = g188775 + Int32.ofInt 1 := ⟨_, rfl⟩
                          have ez189344 : z189344.toInt = g188775.toInt + 1 := gI_inc hz189344 (by decide) bg188775'' (by decide) (by decide)
                          have bz189344 : gB z189344 1 1000000 := ⟨by omega, by omega⟩
                          refine G_iinc (L' := [(5, .int z189344), (6, .ref q189168), (4, .ref q187989), (3, .int g187931), (0, .ref q165994), (1, .int p165995), (2, .int p165996)]) z189344 1 dr_cX17_rename_138 rfl hz189344.symm (Nat.le_of_ble_eq_true rfl) rfl ?_
                          refine G_goto 20 dr_cX17_rename_141 (by decide +kernel) ?_
                          have hT189345 : RS D I P165992 F189333 γ el := RS_set hT188777 n189335 ht189171 (by decide) ⟨p189180, p165996, p189182, p189183, p189184, p189185, p189186, he189342, bp189180, bp165996, bp189184, bp189185, bp189186, (by omega), (by omega), (by omega), (by omega), (by omega)⟩
                          refine G_lv (L' := [(5, .int z189344), (4, .ref q187989), (3, .int g187931), (0, .ref q165994), (1, .int p165995), (2, .int p165996)]) [0, 2, 3, 4, 5, 6] rfl ?_
                          exact ih20_188778 F189333 z189344 (gB_w bz189344 (by decide) (by decide)) hT189345 hs189343 (by omega)
                    · have r189346 : o189315.toInt ≠ 0 := gj_neq hc189317 (show Int32.toInt 0 = 0 by decide)
                      have bo189315' : gB o189315 1 1 := ⟨by omega, by omega⟩
                      refine G_aload 0 dr_cX17_rename_100 rfl ?_
                      refine Gp_get 3 hm189178 he189179 dr_cX17_rename_102 (gk_X15 D I) (Nat.le_of_ble_eq_true rfl) wr_9_190 rfl ?_
                      refine G_iload_n 5 dr_cX17_rename_105 rfl ?_
                      refine G_icmp_ne 115 dr_cX17_rename_106 (by decide +kernel) (fun hc189347 => ?_) (fun hc189347 => ?_)
                      · have r189348 : p189183.toInt ≠ p165995.toInt := gC_ne hc189347
                        refine G_aload 0 dr_cX17_rename_115 rfl ?_
                        refine Gw_callV (As := []) (gV_ok D I) (cp_1654_Row_sets l hl0 D I P165992 F188776 q189168 p189180 p189181 p189182 p189183 p189184 p189185 p189186 hm189178 he189179 bp189180 bp189181 bp189184 bp189185 bp189186) dr_cX17_rename_117 ⟨wr_10_181, wr_1_39, wr_10_184, by decide, rfl, (Nat.le_of_ble_eq_true rfl), (Nat.le_of_ble_eq_true rfl)⟩ wr_10_182 wr_10_183 hm189178 he189179 rfl (show 0 + 0 ≤ 0 by first | omega | decide) (show 0 + 0 ≤ 0 by first | omega | decide) (Nat.le_of_ble_eq_true rfl) (fun r189352 w189353 dc189349 ds189350 hp189351 => ?_) (fun _ _ _ _ _ z => z.elim)
                        obtain ⟨o189354, rfl, rfl, hdc, hds, bo189354⟩ := hp189351
                        change G _ _ _ _ _ _ _ (.int o189354 :: _) _ _ _
                        refine G_widen (cs' := 0) (sl' := 0) (by omega) (by omega) ?_
                        refine G_if_eq 138 dr_cX17_rename_120 (by decide +kernel) (fun hc189355 => ?_) (fun hc189355 => ?_)
                        · have r189356 : o189354.toInt = 0 := gj_eq hc189355 (show Int32.toInt 0 = 0 by decide)
                          have bo189354' : gB o189354 0 0 := ⟨by omega, by omega⟩
                          obtain ⟨z189357, hz189357⟩ : ∃ z : Int32, z = g188775 + Int32.ofInt 1 := ⟨_, rfl⟩
                          have ez189357 : z189357.toInt = g188775.toInt + 1 := gI_inc hz189357 (by decide) bg188775'' (by decide) (by decide)
                          have bz189357 : gB z189357 1 1000000 := ⟨by omega, by omega⟩
                          refine G_iinc (L' := [(5, .int z189357), (6, .ref q189168), (4, .ref q187989), (3, .int g187931), (0, .ref q165994), (1, .int p165995), (2, .int p165996)]) z189357 1 dr_cX17_rename_138 rfl hz189357.symm (Nat.le_of_ble_eq_true rfl) rfl ?_
                          refine G_goto 20 dr_cX17_rename_141 (by decide +kernel) ?_
                          refine G_lv (L' := [(5, .int z189357), (4, .ref q187989), (3, .int g187931), (0, .ref q165994), (1, .int p165995), (2, .int p165996)]) [0, 2, 3, 4, 5, 6] rfl ?_
                          exact ih20_188778 F188776 z189357 (gB_w bz189357 (by decide) (by decide)) hT188777 hs188778 (by omega)
                        · have r189358 : o189354.toInt ≠ 0 := gj_neq hc189355 (show Int32.toInt 0 = 0 by decide)
                          have bo189354' : gB o189354 1 1 := ⟨by omega, by omega⟩
                          refine G_aload 0 dr_cX17_rename_123 rfl ?_
                          refine Gp_get 1 hm189178 he189179 dr_cX17_rename_125 (gk_X15 D I) (Nat.le_of_ble_eq_true rfl) wr_9_182 rfl ?_
                          refine G_iload_n 5 dr_cX17_rename_128 rfl ?_
                          refine G_icmp_ne 138 dr_cX17_rename_129 (by decide +kernel) (fun hc189359 => ?_) (fun hc189359 => ?_)
                          · have r189360 : p189181.toInt ≠ p165995.toInt := gC_ne hc189359
                            obtain ⟨z189361, hz189361⟩ : ∃ z : Int32, z = g188775 + Int32.ofInt 1 := ⟨_, rfl⟩
                            have ez189361 : z189361.toInt = g188775.toInt + 1 := gI_inc hz189361 (by decide) bg188775'' (by decide) (by decide)
                            have bz189361 : gB z189361 1 1000000 := ⟨by omega, by omega⟩
                            refine G_iinc (L' := [(5, .int z189361), (6, .ref q189168), (4, .ref q187989), (3, .int g187931), (0, .ref q165994), (1, .int p165995), (2, .int p165996)]) z189361 1 dr_cX17_rename_138 rfl hz189361.symm (Nat.le_of_ble_eq_true rfl) rfl ?_
                            refine G_goto 20 dr_cX17_rename_141 (by decide +kernel) ?_
                            refine G_lv (L' := [(5, .int z189361), (4, .ref q187989), (3, .int g187931), (0, .ref q165994), (1, .int p165995), (2, .int p165996)]) [0, 2, 3, 4, 5, 6] rfl ?_
                            exact ih20_188778 F188776 z189361 (gB_w bz189361 (by decide) (by decide)) hT188777 hs188778 (by omega)
                          · have r189362 : p189181.toInt = p165995.toInt := gC_eq hc189359
                            refine G_aload 0 dr_cX17_rename_132 rfl ?_
                            refine G_iload_n 6 dr_cX17_rename_134 rfl ?_
                            refine Gp_put 1 hm189178 he189179 dr_cX17_rename_135 (gk_X15 D I) (Nat.le_of_ble_eq_true rfl) wr_9_182 rfl rfl rfl (Nat.le_of_ble_eq_true rfl) (fun F189363 e189364 n189365 => ?_)
                            have he189366 : F189363 q165994 = .inr (18, [.ref q187940, .ref q187941, .int p187942, .int p187943]) := (n189365 q165994 (rn_oo he188781 he189179 (by decide))).trans he188781
                            have he189367 : F189363 q187940 = .inr (4, [.int p187970, .ref q187972, .int p187971]) := (n189365 q187940 (rn_oo he188782 he189179 (by decide))).trans he188782
                            have he189368 : F189363 q187972 = .inl (I (.object "java/lang/Object"), n187986, .inr (.inr (.inr (.inr f187987)))) := (n189365 q187972 (rn_ao he188783 he189179)).trans he188783
                            have he189369 : F189363 q187989 = .inr (17, [.ref q187998, .ref q187999, .int p188000, .int p188001]) := (n189365 q187989 (rn_oo he188784 he189179 (by decide))).trans he188784
                            have he189370 : F189363 q187998 = .inr (4, [.int p188788, .ref q188790, .int p188789]) := (n189365 q187998 (rn_oo he188787 he189179 (by decide))).trans he188787
                            have he189371 : F189363 q188790 = .inl (I (.object "java/lang/Object"), n189165, .inr (.inr (.inr (.inr f189166)))) := (n189365 q188790 (rn_ao r189159 he189179)).trans r189159
                            have he189372 : F189363 q189168 = .inr (20, [.int p189180, .int p165996, .int p189182, .int p189183, .int p189184, .int p189185, .int p189186]) := e189364
                            have hs189373 : rStr γ [1] F165993 F189363 := rStr_pu2 hs188778 n189365 ht189171 (by decide)
                            obtain ⟨z189374, hz189374⟩ : ∃ z : Int32, z = g188775 + Int32.ofInt 1 := ⟨_, rfl⟩
                            have ez189374 : z189374.toInt = g188775.toInt + 1 := gI_inc hz189374 (by decide) bg188775'' (by decide) (by decide)
                            have bz189374 : gB z189374 1 1000000 := ⟨by omega, by omega⟩
                            refine G_iinc (L' := [(5, .int z189374), (6, .ref q189168), (4, .ref q187989), (3, .int g187931), (0, .ref q165994), (1, .int p165995), (2, .int p165996)]) z189374 1 dr_cX17_rename_138 rfl hz189374.symm (Nat.le_of_ble_eq_true rfl) rfl ?_
                            refine G_goto 20 dr_cX17_rename_141 (by decide +kernel) ?_
                            have hT189375 : RS D I P165992 F189363 γ el := RS_set hT188777 n189365 ht189171 (by decide) ⟨p189180, p165996, p189182, p189183, p189184, p189185, p189186, he189372, bp189180, bp165996, bp189184, bp189185, bp189186, (by omega), (by omega), (by omega), (by omega), (by omega)⟩
                            refine G_lv (L' := [(5, .int z189374), (4, .ref q187989), (3, .int g187931), (0, .ref q165994), (1, .int p165995), (2, .int p165996)]) [0, 2, 3, 4, 5, 6] rfl ?_
                            exact ih20_188778 F189363 z189374 (gB_w bz189374 (by decide) (by decide)) hT189375 hs189373 (by omega)
                      · have r189376 : p189183.toInt = p165995.toInt := gC_eq hc189347
                        have bp189183' : gB p189183 0 1999 := ⟨by omega, by omega⟩
                        refine G_aload 0 dr_cX17_rename_109 rfl ?_
                        refine G_iload_n 6 dr_cX17_rename_111 rfl ?_
                        refine Gp_put 3 hm189178 he189179 dr_cX17_rename_112 (gk_X15 D I) (Nat.le_of_ble_eq_true rfl) wr_9_190 rfl rfl rfl (Nat.le_of_ble_eq_true rfl) (fun F189377 e189378 n189379 => ?_)
                        have he189380 : F189377 q165994 = .inr (18, [.ref q187940, .ref q187941, .int p187942, .int p187943]) := (n189379 q165994 (rn_oo he188781 he189179 (by decide))).trans he188781
                        have he189381 : F189377 q187940 = .inr (4, [.int p187970, .ref q187972, .int p187971]) := (n189379 q187940 (rn_oo he188782 he189179 (by decide))).trans he188782
                        have he189382 : F189377 q187972 = .inl (I (.object "java/lang/Object"), n187986, .inr (.inr (.inr (.inr f187987)))) := (n189379 q187972 (rn_ao he188783 he189179)).trans he188783
                        have he189383 : F189377 q187989 = .inr (17, [.ref q187998, .ref q187999, .int p188000, .int p188001]) := (n189379 q187989 (rn_oo he188784 he189179 (by decide))).trans he188784
                        have he189384 : F189377 q187998 = .inr (4, [.int p188788, .ref q188790, .int p188789]) := (n189379 q187998 (rn_oo he188787 he189179 (by decide))).trans he188787
                        have he189385 : F189377 q188790 = .inl (I (.object "java/lang/Object"), n189165, .inr (.inr (.inr (.inr f189166)))) := (n189379 q188790 (rn_ao r189159 he189179)).trans r189159
                        have he189386 : F189377 q189168 = .inr (20, [.int p189180, .int p189181, .int p189182, .int p165996, .int p189184, .int p189185, .int p189186]) := e189378
                        have hs189387 : rStr γ [1] F165993 F189377 := rStr_pu2 hs188778 n189379 ht189171 (by decide)
                        refine G_aload 0 dr_cX17_rename_115 rfl ?_
                        have hT189388 : RS D I P165992 F189377 γ el := RS_set hT188777 n189379 ht189171 (by decide) ⟨p189180, p189181, p189182, p165996, p189184, p189185, p189186, he189386, bp189180, bp189181, bp189184, bp189185, bp189186, (by omega), (by omega), (by omega), (by omega), (by omega)⟩
                        refine Gw_callV (As := []) (gV_ok D I) (cp_1654_Row_sets l hl0 D I P165992 F189377 q189168 p189180 p189181 p189182 p165996 p189184 p189185 p189186 hm189178 he189386 bp189180 bp189181 bp189184 bp189185 bp189186) dr_cX17_rename_117 ⟨wr_10_181, wr_1_39, wr_10_184, by decide, rfl, (Nat.le_of_ble_eq_true rfl), (Nat.le_of_ble_eq_true rfl)⟩ wr_10_182 wr_10_183 hm189178 he189386 rfl (show 0 + 0 ≤ 0 by first | omega | decide) (show 0 + 0 ≤ 0 by first | omega | decide) (Nat.le_of_ble_eq_true rfl) (fun r189392 w189393 dc189389 ds189390 hp189391 => ?_) (fun _ _ _ _ _ z => z.elim)
                        obtain ⟨o189394, rfl, rfl, hdc, hds, bo189394⟩ := hp189391
                        change G _ _ _ _ _ _ _ (.int o189394 :: _) _ _ _
                        refine G_widen (cs' := 0) (sl' := 0) (by omega) (by omega) ?_
                        refine G_if_eq 138 dr_cX17_rename_120 (by decide +kernel) (fun hc189395 => ?_) (fun hc189395 => ?_)
                        · have r189396 : o189394.toInt = 0 := gj_eq hc189395 (show Int32.toInt 0 = 0 by decide)
                          have bo189394' : gB o189394 0 0 := ⟨by omega, by omega⟩
                          obtain ⟨z189397, hz189397⟩ : ∃ z : Int32, z = g188775 + Int32.ofInt 1 := ⟨_, rfl⟩
                          have ez189397 : z189397.toInt = g188775.toInt + 1 := gI_inc hz189397 (by decide) bg188775'' (by decide) (by decide)
                          have bz189397 : gB z189397 1 1000000 := ⟨by omega, by omega⟩
                          refine G_iinc (L' := [(5, .int z189397), (6, .ref q189168), (4, .ref q187989), (3, .int g187931), (0, .ref q165994), (1, .int p165995), (2, .int p165996)]) z189397 1 dr_cX17_rename_138 rfl hz189397.symm (Nat.le_of_ble_eq_true rfl) rfl ?_
                          refine G_goto 20 dr_cX17_rename_141 (by decide +kernel) ?_
                          refine G_lv (L' := [(5, .int z189397), (4, .ref q187989), (3, .int g187931), (0, .ref q165994), (1, .int p165995), (2, .int p165996)]) [0, 2, 3, 4, 5, 6] rfl ?_
                          exact ih20_188778 F189377 z189397 (gB_w bz189397 (by decide) (by decide)) hT189388 hs189387 (by omega)
                        · have r189398 : o189394.toInt ≠ 0 := gj_neq hc189395 (show Int32.toInt 0 = 0 by decide)
                          have bo189394' : gB o189394 1 1 := ⟨by omega, by omega⟩
                          refine G_aload 0 dr_cX17_rename_123 rfl ?_
                          refine Gp_get 1 hm189178 he189386 dr_cX17_rename_125 (gk_X15 D I) (Nat.le_of_ble_eq_true rfl) wr_9_182 rfl ?_
                          refine G_iload_n 5 dr_cX17_rename_128 rfl ?_
                          refine G_icmp_ne 138 dr_cX17_rename_129 (by decide +kernel) (fun hc189399 => ?_) (fun hc189399 => ?_)
                          · have r189400 : p189181.toInt ≠ p165995.toInt := gC_ne hc189399
                            obtain ⟨z189401, hz189401⟩ : ∃ z : Int32, z = g188775 + Int32.ofInt 1 := ⟨_, rfl⟩
                            have ez189401 : z189401.toInt = g188775.toInt + 1 := gI_inc hz189401 (by decide) bg188775'' (by decide) (by decide)
                            have bz189401 : gB z189401 1 1000000 := ⟨by omega, by omega⟩
                            refine G_iinc (L' := [(5, .int z189401), (6, .ref q189168), (4, .ref q187989), (3, .int g187931), (0, .ref q165994), (1, .int p165995), (2, .int p165996)]) z189401 1 dr_cX17_rename_138 rfl hz189401.symm (Nat.le_of_ble_eq_true rfl) rfl ?_
                            refine G_goto 20 dr_cX17_rename_141 (by decide +kernel) ?_
                            refine G_lv (L' := [(5, .int z189401), (4, .ref q187989), (3, .int g187931), (0, .ref q165994), (1, .int p165995), (2, .int p165996)]) [0, 2, 3, 4, 5, 6] rfl ?_
                            exact ih20_188778 F189377 z189401 (gB_w bz189401 (by decide) (by decide)) hT189388 hs189387 (by omega)
                          · have r189402 : p189181.toInt = p165995.toInt := gC_eq hc189399
                            refine G_aload 0 dr_cX17_rename_132 rfl ?_
                            refine G_iload_n 6 dr_cX17_rename_134 rfl ?_
                            refine Gp_put 1 hm189178 he189386 dr_cX17_rename_135 (gk_X15 D I) (Nat.le_of_ble_eq_true rfl) wr_9_182 rfl rfl rfl (Nat.le_of_ble_eq_true rfl) (fun F189403 e189404 n189405 => ?_)
                            have he189406 : F189403 q165994 = .inr (18, [.ref q187940, .ref q187941, .int p187942, .int p187943]) := (n189405 q165994 (rn_oo he189380 he189386 (by decide))).trans he189380
                            have he189407 : F189403 q187940 = .inr (4, [.int p187970, .ref q187972, .int p187971]) := (n189405 q187940 (rn_oo he189381 he189386 (by decide))).trans he189381
                            have he189408 : F189403 q187972 = .inl (I (.object "java/lang/Object"), n187986, .inr (.inr (.inr (.inr f187987)))) := (n189405 q187972 (rn_ao he189382 he189386)).trans he189382
                            have he189409 : F189403 q187989 = .inr (17, [.ref q187998, .ref q187999, .int p188000, .int p188001]) := (n189405 q187989 (rn_oo he189383 he189386 (by decide))).trans he189383
                            have he189410 : F189403 q187998 = .inr (4, [.int p188788, .ref q188790, .int p188789]) := (n189405 q187998 (rn_oo he189384 he189386 (by decide))).trans he189384
                            have he189411 : F189403 q188790 = .inl (I (.object "java/lang/Object"), n189165, .inr (.inr (.inr (.inr f189166)))) := (n189405 q188790 (rn_ao he189385 he189386)).trans he189385
                            have he189412 : F189403 q189168 = .inr (20, [.int p189180, .int p165996, .int p189182, .int p165996, .int p189184, .int p189185, .int p189186]) := e189404
                            have hs189413 : rStr γ [1] F165993 F189403 := rStr_pu2 hs189387 n189405 ht189171 (by decide)
                            obtain ⟨z189414, hz189414⟩ : ∃ z : Int32, z = g188775 + Int32.ofInt 1 := ⟨_, rfl⟩
                            have ez189414 : z189414.toInt = g188775.toInt + 1 := gI_inc hz189414 (by decide) bg188775'' (by decide) (by decide)
                            have bz189414 : gB z189414 1 1000000 := ⟨by omega, by omega⟩
                            refine G_iinc (L' := [(5, .int z189414), (6, .ref q189168), (4, .ref q187989), (3, .int g187931), (0, .ref q165994), (1, .int p165995), (2, .int p165996)]) z189414 1 dr_cX17_rename_138 rfl hz189414.symm (Nat.le_of_ble_eq_true rfl) rfl ?_
                            refine G_goto 20 dr_cX17_rename_141 (by decide +kernel) ?_
                            have hT189415 : RS D I P165992 F189403 γ el := RS_set hT189388 n189405 ht189171 (by decide) ⟨p189180, p165996, p189182, p165996, p189184, p189185, p189186, he189412, bp189180, bp165996, bp189184, bp189185, bp189186, (by omega), (by omega), (by omega), (by omega), (by omega)⟩
                            refine G_lv (L' := [(5, .int z189414), (4, .ref q187989), (3, .int g187931), (0, .ref q165994), (1, .int p165995), (2, .int p165996)]) [0, 2, 3, 4, 5, 6] rfl ?_
                            exact ih20_188778 F189403 z189414 (gB_w bz189414 (by decide) (by decide)) hT189415 hs189413 (by omega)
                  · have r189416 : p189182.toInt = p165995.toInt := gC_eq hc189308
                    have bp189182' : gB p189182 0 1999 := ⟨by omega, by omega⟩
                    refine G_aload 0 dr_cX17_rename_86 rfl ?_
                    refine G_iload_n 6 dr_cX17_rename_88 rfl ?_
                    refine Gp_put 2 hm189178 he189179 dr_cX17_rename_89 (gk_X15 D I) (Nat.le_of_ble_eq_true rfl) wr_9_186 rfl rfl rfl (Nat.le_of_ble_eq_true rfl) (fun F189417 e189418 n189419 => ?_)
                    have he189420 : F189417 q165994 = .inr (18, [.ref q187940, .ref q187941, .int p187942, .int p187943]) := (n189419 q165994 (rn_oo he188781 he189179 (by decide))).trans he188781
                    have he189421 : F189417 q187940 = .inr (4, [.int p187970, .ref q187972, .int p187971]) := (n189419 q187940 (rn_oo he188782 he189179 (by decide))).trans he188782
                    have he189422 : F189417 q187972 = .inl (I (.object "java/lang/Object"), n187986, .inr (.inr (.inr (.inr f187987)))) := (n189419 q187972 (rn_ao he188783 he189179)).trans he188783
                    have he189423 : F189417 q187989 = .inr (17, [.ref q187998, .ref q187999, .int p188000, .int p188001]) := (n189419 q187989 (rn_oo he188784 he189179 (by decide))).trans he188784
                    have he189424 : F189417 q187998 = .inr (4, [.int p188788, .ref q188790, .int p188789]) := (n189419 q187998 (rn_oo he188787 he189179 (by decide))).trans he188787
                    have he189425 : F189417 q188790 = .inl (I (.object "java/lang/Object"), n189165, .inr (.inr (.inr (.inr f189166)))) := (n189419 q188790 (rn_ao r189159 he189179)).trans r189159
                    have he189426 : F189417 q189168 = .inr (20, [.int p189180, .int p189181, .int p165996, .int p189183, .int p189184, .int p189185, .int p189186]) := e189418
                    have hs189427 : rStr γ [1] F165993 F189417 := rStr_pu2 hs188778 n189419 ht189171 (by decide)
                    refine G_aload 0 dr_cX17_rename_92 rfl ?_
                    have hT189428 : RS D I P165992 F189417 γ el := RS_set hT188777 n189419 ht189171 (by decide) ⟨p189180, p189181, p165996, p189183, p189184, p189185, p189186, he189426, bp189180, bp189181, bp189184, bp189185, bp189186, (by omega), (by omega), (by omega), (by omega), (by omega)⟩
                    refine Gw_callV (As := []) (gV_ok D I) (cp_1693_Row_usesB l hl0 D I P165992 F189417 q189168 p189180 p189181 p165996 p189183 p189184 p189185 p189186 hm189178 he189426 bp189180 bp189181 bp189184 bp189185 bp189186) dr_cX17_rename_94 ⟨wr_10_196, wr_1_39, wr_10_199, by decide, rfl, (Nat.le_of_ble_eq_true rfl), (Nat.le_of_ble_eq_true rfl)⟩ wr_10_197 wr_10_198 hm189178 he189426 rfl (show 0 + 0 ≤ 0 by first | omega | decide) (show 0 + 0 ≤ 0 by first | omega | decide) (Nat.le_of_ble_eq_true rfl) (fun r189432 w189433 dc189429 ds189430 hp189431 => ?_) (fun _ _ _ _ _ z => z.elim)
                    obtain ⟨o189434, rfl, rfl, hdc, hds, bo189434, x189435⟩ := hp189431
                    change G _ _ _ _ _ _ _ (.int o189434 :: _) _ _ _
                    refine G_widen (cs' := 0) (sl' := 0) (by omega) (by omega) ?_
                    refine G_if_eq 115 dr_cX17_rename_97 (by decide +kernel) (fun hc189436 => ?_) (fun hc189436 => ?_)
                    · have r189437 : o189434.toInt = 0 := gj_eq hc189436 (show Int32.toInt 0 = 0 by decide)
                      have bo189434' : gB o189434 0 0 := ⟨by omega, by omega⟩
                      refine G_aload 0 dr_cX17_rename_115 rfl ?_
                      refine Gw_callV (As := []) (gV_ok D I) (cp_1654_Row_sets l hl0 D I P165992 F189417 q189168 p189180 p189181 p165996 p189183 p189184 p189185 p189186 hm189178 he189426 bp189180 bp189181 bp189184 bp189185 bp189186) dr_cX17_rename_117 ⟨wr_10_181, wr_1_39, wr_10_184, by decide, rfl, (Nat.le_of_ble_eq_true rfl), (Nat.le_of_ble_eq_true rfl)⟩ wr_10_182 wr_10_183 hm189178 he189426 rfl (show 0 + 0 ≤ 0 by first | omega | decide) (show 0 + 0 ≤ 0 by first | omega | decide) (Nat.le_of_ble_eq_true rfl) (fun r189441 w189442 dc189438 ds189439 hp189440 => ?_) (fun _ _ _ _ _ z => z.elim)
                      obtain ⟨o189443, rfl, rfl, hdc, hds, bo189443⟩ := hp189440
                      change G _ _ _ _ _ _ _ (.int o189443 :: _) _ _ _
                      refine G_widen (cs' := 0) (sl' := 0) (by omega) (by omega) ?_
                      refine G_if_eq 138 dr_cX17_rename_120 (by decide +kernel) (fun hc189444 => ?_) (fun hc189444 => ?_)
                      · have r189445 : o189443.toInt = 0 := gj_eq hc189444 (show Int32.toInt 0 = 0 by decide)
                        have bo189443' : gB o189443 0 0 := ⟨by omega, by omega⟩
                        obtain ⟨z189446, hz189446⟩ : ∃ z : Int32, z = g188775 + Int32.ofInt 1 := ⟨_, rfl⟩
                        have ez189446 : z189446.toInt = g188775.toInt + 1 := gI_inc hz189446 (by decide) bg188775'' (by decide) (by decide)
                        have bz189446 : gB z189446 1 1000000 := ⟨by omega, by omega⟩
                        refine G_iinc (L' := [(5, .int z189446), (6, .ref q189168), (4, .ref q187989), (3, .int g187931), (0, .ref q165994), (1, .int p165995), (2, .int p165996)]) z189446 1 dr_cX17_rename_138 rfl hz189446.symm (Nat.le_of_ble_eq_true rfl) rfl ?_
                        refine G_goto 20 dr_cX17_rename_141 (by decide +kernel) ?_
                        refine G_lv (L' := [(5, .int z189446), (4, .ref q187989), (3, .int g187931), (0, .ref q165994), (1, .int p165995), (2, .int p165996)]) [0, 2, 3, 4, 5, 6] rfl ?_
                        exact ih20_188778 F189417 z189446 (gB_w bz189446 (by decide) (by decide)) hT189428 hs189427 (by omega)
                      · have r189447 : o189443.toInt ≠ 0 := gj_neq hc189444 (show Int32.toInt 0 = 0 by decide)
                        have bo189443' : gB o189443 1 1 := ⟨by omega, by omega⟩
                        refine G_aload 0 dr_cX17_rename_123 rfl ?_
                        refine Gp_get 1 hm189178 he189426 dr_cX17_rename_125 (gk_X15 D I) (Nat.le_of_ble_eq_true rfl) wr_9_182 rfl ?_
                        refine G_iload_n 5 dr_cX17_rename_128 rfl ?_
                        refine G_icmp_ne 138 dr_cX17_rename_129 (by decide +kernel) (fun hc189448 => ?_) (fun hc189448 => ?_)
                        · have r189449 : p189181.toInt ≠ p165995.toInt := gC_ne hc189448
                          obtain ⟨z189450, hz189450⟩ : ∃ z : Int32, z = g188775 + Int32.ofInt 1 := ⟨_, rfl⟩
                          have ez189450 : z189450.toInt = g188775.toInt + 1 := gI_inc hz189450 (by decide) bg188775'' (by decide) (by decide)
                          have bz189450 : gB z189450 1 1000000 := ⟨by omega, by omega⟩
                          refine G_iinc (L' := [(5, .int z189450), (6, .ref q189168), (4, .ref q187989), (3, .int g187931), (0, .ref q165994), (1, .int p165995), (2, .int p165996)]) z189450 1 dr_cX17_rename_138 rfl hz189450.symm (Nat.le_of_ble_eq_true rfl) rfl ?_
                          refine G_goto 20 dr_cX17_rename_141 (by decide +kernel) ?_
                          refine G_lv (L' := [(5, .int z189450), (4, .ref q187989), (3, .int g187931), (0, .ref q165994), (1, .int p165995), (2, .int p165996)]) [0, 2, 3, 4, 5, 6] rfl ?_
                          exact ih20_188778 F189417 z189450 (gB_w bz189450 (by decide) (by decide)) hT189428 hs189427 (by omega)
                        · have r189451 : p189181.toInt = p165995.toInt := gC_eq hc189448
                          refine G_aload 0 dr_cX17_rename_132 rfl ?_
                          refine G_iload_n 6 dr_cX17_rename_134 rfl ?_
                          refine Gp_put 1 hm189178 he189426 dr_cX17_rename_135 (gk_X15 D I) (Nat.le_of_ble_eq_true rfl) wr_9_182 rfl rfl rfl (Nat.le_of_ble_eq_true rfl) (fun F189452 e189453 n189454 => ?_)
                          have he189455 : F189452 q165994 = .inr (18, [.ref q187940, .ref q187941, .int p187942, .int p187943]) := (n189454 q165994 (rn_oo he189420 he189426 (by decide))).trans he189420
                          have he189456 : F189452 q187940 = .inr (4, [.int p187970, .ref q187972, .int p187971]) := (n189454 q187940 (rn_oo he189421 he189426 (by decide))).trans he189421
                          have he189457 : F189452 q187972 = .inl (I (.object "java/lang/Object"), n187986, .inr (.inr (.inr (.inr f187987)))) := (n189454 q187972 (rn_ao he189422 he189426)).trans he189422
                          have he189458 : F189452 q187989 = .inr (17, [.ref q187998, .ref q187999, .int p188000, .int p188001]) := (n189454 q187989 (rn_oo he189423 he189426 (by decide))).trans he189423
                          have he189459 : F189452 q187998 = .inr (4, [.int p188788, .ref q188790, .int p188789]) := (n189454 q187998 (rn_oo he189424 he189426 (by decide))).trans he189424
                          have he189460 : F189452 q188790 = .inl (I (.object "java/lang/Object"), n189165, .inr (.inr (.inr (.inr f189166)))) := (n189454 q188790 (rn_ao he189425 he189426)).trans he189425
                          have he189461 : F189452 q189168 = .inr (20, [.int p189180, .int p165996, .int p165996, .int p189183, .int p189184, .int p189185, .int p189186]) := e189453
                          have hs189462 : rStr γ [1] F165993 F189452 := rStr_pu2 hs189427 n189454 ht189171 (by decide)
                          obtain ⟨z189463, hz189463⟩ : ∃ z : Int32, z = g188775 + Int32.ofInt 1 := ⟨_, rfl⟩
                          have ez189463 : z189463.toInt = g188775.toInt + 1 := gI_inc hz189463 (by decide) bg188775'' (by decide) (by decide)
                          have bz189463 : gB z189463 1 1000000 := ⟨by omega, by omega⟩
                          refine G_iinc (L' := [(5, .int z189463), (6, .ref q189168), (4, .ref q187989), (3, .int g187931), (0, .ref q165994), (1, .int p165995), (2, .int p165996)]) z189463 1 dr_cX17_rename_138 rfl hz189463.symm (Nat.le_of_ble_eq_true rfl) rfl ?_
                          refine G_goto 20 dr_cX17_rename_141 (by decide +kernel) ?_
                          have hT189464 : RS D I P165992 F189452 γ el := RS_set hT189428 n189454 ht189171 (by decide) ⟨p189180, p165996, p165996, p189183, p189184, p189185, p189186, he189461, bp189180, bp165996, bp189184, bp189185, bp189186, (by omega), (by omega), (by omega), (by omega), (by omega)⟩
                          refine G_lv (L' := [(5, .int z189463), (4, .ref q187989), (3, .int g187931), (0, .ref q165994), (1, .int p165995), (2, .int p165996)]) [0, 2, 3, 4, 5, 6] rfl ?_
                          exact ih20_188778 F189452 z189463 (gB_w bz189463 (by decide) (by decide)) hT189464 hs189462 (by omega)
                    · have r189465 : o189434.toInt ≠ 0 := gj_neq hc189436 (show Int32.toInt 0 = 0 by decide)
                      have bo189434' : gB o189434 1 1 := ⟨by omega, by omega⟩
                      refine G_aload 0 dr_cX17_rename_100 rfl ?_
                      refine Gp_get 3 hm189178 he189426 dr_cX17_rename_102 (gk_X15 D I) (Nat.le_of_ble_eq_true rfl) wr_9_190 rfl ?_
                      refine G_iload_n 5 dr_cX17_rename_105 rfl ?_
                      refine G_icmp_ne 115 dr_cX17_rename_106 (by decide +kernel) (fun hc189466 => ?_) (fun hc189466 => ?_)
                      · have r189467 : p189183.toInt ≠ p165995.toInt := gC_ne hc189466
                        refine G_aload 0 dr_cX17_rename_115 rfl ?_
                        refine Gw_callV (As := []) (gV_ok D I) (cp_1654_Row_sets l hl0 D I P165992 F189417 q189168 p189180 p189181 p165996 p189183 p189184 p189185 p189186 hm189178 he189426 bp189180 bp189181 bp189184 bp189185 bp189186) dr_cX17_rename_117 ⟨wr_10_181, wr_1_39, wr_10_184, by decide, rfl, (Nat.le_of_ble_eq_true rfl), (Nat.le_of_ble_eq_true rfl)⟩ wr_10_182 wr_10_183 hm189178 he189426 rfl (show 0 + 0 ≤ 0 by first | omega | decide) (show 0 + 0 ≤ 0 by first | omega | decide) (Nat.le_of_ble_eq_true rfl) (fun r189471 w189472 dc189468 ds189469 hp189470 => ?_) (fun _ _ _ _ _ z => z.elim)
                        obtain ⟨o189473, rfl, rfl, hdc, hds, bo189473⟩ := hp189470
                        change G _ _ _ _ _ _ _ (.int o189473 :: _) _ _ _
                        refine G_widen (cs' := 0) (sl' := 0) (by omega) (by omega) ?_
                        refine G_if_eq 138 dr_cX17_rename_120 (by decide +kernel) (fun hc189474 => ?_) (fun hc189474 => ?_)
                        · have r189475 : o189473.toInt = 0 := gj_eq hc189474 (show Int32.toInt 0 = 0 by decide)
                          have bo189473' : gB o189473 0 0 := ⟨by omega, by omega⟩
                          obtain ⟨z189476, hz189476⟩ : ∃ z : Int32, z = g188775 + Int32.ofInt 1 := ⟨_, rfl⟩
                          have ez189476 : z189476.toInt = g188775.toInt + 1 := gI_inc hz189476 (by decide) bg188775'' (by decide) (by decide)
                          have bz189476 : gB z189476 1 1000000 := ⟨by omega, by omega⟩
                          refine G_iinc (L' := [(5, .int z189476), (6, .ref q189168), (4, .ref q187989), (3, .int g187931), (0, .ref q165994), (1, .int p165995), (2, .int p165996)]) z189476 1 dr_cX17_rename_138 rfl hz189476.symm (Nat.le_of_ble_eq_true rfl) rfl ?_
                          refine G_goto 20 dr_cX17_rename_141 (by decide +kernel) ?_
                          refine G_lv (L' := [(5, .int z189476), (4, .ref q187989), (3, .int g187931), (0, .ref q165994), (1, .int p165995), (2, .int p165996)]) [0, 2, 3, 4, 5, 6] rfl ?_
                          exact ih20_188778 F189417 z189476 (gB_w bz189476 (by decide) (by decide)) hT189428 hs189427 (by omega)
                        · have r189477 : o189473.toInt ≠ 0 := gj_neq hc189474 (show Int32.toInt 0 = 0 by decide)
                          have bo189473' : gB o189473 1 1 := ⟨by omega, by omega⟩
                          refine G_aload 0 dr_cX17_rename_123 rfl ?_
                          refine Gp_get 1 hm189178 he189426 dr_cX17_rename_125 (gk_X15 D I) (Nat.le_of_ble_eq_true rfl) wr_9_182 rfl ?_
                          refine G_iload_n 5 dr_cX17_rename_128 rfl ?_
                          refine G_icmp_ne 138 dr_cX17_rename_129 (by decide +kernel) (fun hc189478 => ?_) (fun hc189478 => ?_)
                          · have r189479 : p189181.toInt ≠ p165995.toInt := gC_ne hc189478
                            obtain ⟨z189480, hz189480⟩ : ∃ z : Int32, z = g188775 + Int32.ofInt 1 := ⟨_, rfl⟩
                            have ez189480 : z189480.toInt = g188775.toInt + 1 := gI_inc hz189480 (by decide) bg188775'' (by decide) (by decide)
                            have bz189480 : gB z189480 1 1000000 := ⟨by omega, by omega⟩
                            refine G_iinc (L' := [(5, .int z189480), (6, .ref q189168), (4, .ref q187989), (3, .int g187931), (0, .ref q165994), (1, .int p165995), (2, .int p165996)]) z189480 1 dr_cX17_rename_138 rfl hz189480.symm (Nat.le_of_ble_eq_true rfl) rfl ?_
                            refine G_goto 20 dr_cX17_rename_141 (by decide +kernel) ?_
                            refine G_lv (L' := [(5, .int z189480), (4, .ref q187989), (3, .int g187931), (0, .ref q165994), (1, .int p165995), (2, .int p165996)]) [0, 2, 3, 4, 5, 6] rfl ?_
                            exact ih20_188778 F189417 z189480 (gB_w bz189480 (by decide) (by decide)) hT189428 hs189427 (by omega)
                          · have r189481 : p189181.toInt = p165995.toInt := gC_eq hc189478
                            refine G_aload 0 dr_cX17_rename_132 rfl ?_
                            refine G_iload_n 6 dr_cX17_rename_134 rfl ?_
                            refine Gp_put 1 hm189178 he189426 dr_cX17_rename_135 (gk_X15 D I) (Nat.le_of_ble_eq_true rfl) wr_9_182 rfl rfl rfl (Nat.le_of_ble_eq_true rfl) (fun F189482 e189483 n189484 => ?_)
                            have he189485 : F189482 q165994 = .inr (18, [.ref q187940, .ref q187941, .int p187942, .int p187943]) := (n189484 q165994 (rn_oo he189420 he189426 (by decide))).trans he189420
                            have he189486 : F189482 q187940 = .inr (4, [.int p187970, .ref q187972, .int p187971]) := (n189484 q187940 (rn_oo he189421 he189426 (by decide))).trans he189421
                            have he189487 : F189482 q187972 = .inl (I (.object "java/lang/Object"), n187986, .inr (.inr (.inr (.inr f187987)))) := (n189484 q187972 (rn_ao he189422 he189426)).trans he189422
                            have he189488 : F189482 q187989 = .inr (17, [.ref q187998, .ref q187999, .int p188000, .int p188001]) := (n189484 q187989 (rn_oo he189423 he189426 (by decide))).trans he189423
                            have he189489 : F189482 q187998 = .inr (4, [.int p188788, .ref q188790, .int p188789]) := (n189484 q187998 (rn_oo he189424 he189426 (by decide))).trans he189424
                            have he189490 : F189482 q188790 = .inl (I (.object "java/lang/Object"), n189165, .inr (.inr (.inr (.inr f189166)))) := (n189484 q188790 (rn_ao he189425 he189426)).trans he189425
                            have he189491 : F189482 q189168 = .inr (20, [.int p189180, .int p165996, .int p165996, .int p189183, .int p189184, .int p189185, .int p189186]) := e189483
                            have hs189492 : rStr γ [1] F165993 F189482 := rStr_pu2 hs189427 n189484 ht189171 (by decide)
                            obtain ⟨z189493, hz189493⟩ : ∃ z : Int32, z = g188775 + Int32.ofInt 1 := ⟨_, rfl⟩
                            have ez189493 : z189493.toInt = g188775.toInt + 1 := gI_inc hz189493 (by decide) bg188775'' (by decide) (by decide)
                            have bz189493 : gB z189493 1 1000000 := ⟨by omega, by omega⟩
                            refine G_iinc (L' := [(5, .int z189493), (6, .ref q189168), (4, .ref q187989), (3, .int g187931), (0, .ref q165994), (1, .int p165995), (2, .int p165996)]) z189493 1 dr_cX17_rename_138 rfl hz189493.symm (Nat.le_of_ble_eq_true rfl) rfl ?_
                            refine G_goto 20 dr_cX17_rename_141 (by decide +kernel) ?_
                            have hT189494 : RS D I P165992 F189482 γ el := RS_set hT189428 n189484 ht189171 (by decide) ⟨p189180, p165996, p165996, p189183, p189184, p189185, p189186, he189491, bp189180, bp165996, bp189184, bp189185, bp189186, (by omega), (by omega), (by omega), (by omega), (by omega)⟩
                            refine G_lv (L' := [(5, .int z189493), (4, .ref q187989), (3, .int g187931), (0, .ref q165994), (1, .int p165995), (2, .int p165996)]) [0, 2, 3, 4, 5, 6] rfl ?_
                            exact ih20_188778 F189482 z189493 (gB_w bz189493 (by decide) (by decide)) hT189494 hs189492 (by omega)
                      · have r189495 : p189183.toInt = p165995.toInt := gC_eq hc189466
                        have bp189183' : gB p189183 0 1999 := ⟨by omega, by omega⟩
                        refine G_aload 0 dr_cX17_rename_109 rfl ?_
                        refine G_iload_n 6 dr_cX17_rename_111 rfl ?_
                        refine Gp_put 3 hm189178 he189426 dr_cX17_rename_112 (gk_X15 D I) (Nat.le_of_ble_eq_true rfl) wr_9_190 rfl rfl rfl (Nat.le_of_ble_eq_true rfl) (fun F189496 e189497 n189498 => ?_)
                        have he189499 : F189496 q165994 = .inr (18, [.ref q187940, .ref q187941, .int p187942, .int p187943]) := (n189498 q165994 (rn_oo he189420 he189426 (by decide))).trans he189420
                        have he189500 : F189496 q187940 = .inr (4, [.int p187970, .ref q187972, .int p187971]) := (n189498 q187940 (rn_oo he189421 he189426 (by decide))).trans he189421
                        have he189501 : F189496 q187972 = .inl (I (.object "java/lang/Object"), n187986, .inr (.inr (.inr (.inr f187987)))) := (n189498 q187972 (rn_ao he189422 he189426)).trans he189422
                        have he189502 : F189496 q187989 = .inr (17, [.ref q187998, .ref q187999, .int p188000, .int p188001]) := (n189498 q187989 (rn_oo he189423 he189426 (by decide))).trans he189423
                        have he189503 : F189496 q187998 = .inr (4, [.int p188788, .ref q188790, .int p188789]) := (n189498 q187998 (rn_oo he189424 he189426 (by decide))).trans he189424
                        have he189504 : F189496 q188790 = .inl (I (.object "java/lang/Object"), n189165, .inr (.inr (.inr (.inr f189166)))) := (n189498 q188790 (rn_ao he189425 he189426)).trans he189425
                        have he189505 : F189496 q189168 = .inr (20, [.int p189180, .int p189181, .int p165996, .int p165996, .int p189184, .int p189185, .int p189186]) := e189497
                        have hs189506 : rStr γ [1] F165993 F189496 := rStr_pu2 hs189427 n189498 ht189171 (by decide)
                        refine G_aload 0 dr_cX17_rename_115 rfl ?_
                        have hT189507 : RS D I P165992 F189496 γ el := RS_set hT189428 n189498 ht189171 (by decide) ⟨p189180, p189181, p165996, p165996, p189184, p189185, p189186, he189505, bp189180, bp189181, bp189184, bp189185, bp189186, (by omega), (by omega), (by omega), (by omega), (by omega)⟩
                        refine Gw_callV (As := []) (gV_ok D I) (cp_1654_Row_sets l hl0 D I P165992 F189496 q189168 p189180 p189181 p165996 p165996 p189184 p189185 p189186 hm189178 he189505 bp189180 bp189181 bp189184 bp189185 bp189186) dr_cX17_rename_117 ⟨wr_10_181, wr_1_39, wr_10_184, by decide, rfl, (Nat.le_of_ble_eq_true rfl), (Nat.le_of_ble_eq_true rfl)⟩ wr_10_182 wr_10_183 hm189178 he189505 rfl (show 0 + 0 ≤ 0 by first | omega | decide) (show 0 + 0 ≤ 0 by first | omega | decide) (Nat.le_of_ble_eq_true rfl) (fun r189511 w189512 dc189508 ds189509 hp189510 => ?_) (fun _ _ _ _ _ z => z.elim)
                        obtain ⟨o189513, rfl, rfl, hdc, hds, bo189513⟩ := hp189510
                        change G _ _ _ _ _ _ _ (.int o189513 :: _) _ _ _
                        refine G_widen (cs' := 0) (sl' := 0) (by omega) (by omega) ?_
                        refine G_if_eq 138 dr_cX17_rename_120 (by decide +kernel) (fun hc189514 => ?_) (fun hc189514 => ?_)
                        · have r189515 : o189513.toInt = 0 := gj_eq hc189514 (show Int32.toInt 0 = 0 by decide)
                          have bo189513' : gB o189513 0 0 := ⟨by omega, by omega⟩
                          obtain ⟨z189516, hz189516⟩ : ∃ z : Int32, z = g188775 + Int32.ofInt 1 := ⟨_, rfl⟩
                          have ez189516 : z189516.toInt = g188775.toInt + 1 := gI_inc hz189516 (by decide) bg188775'' (by decide) (by decide)
                          have bz189516 : gB z189516 1 1000000 := ⟨by omega, by omega⟩
                          refine G_iinc (L' := [(5, .int z189516), (6, .ref q189168), (4, .ref q187989), (3, .int g187931), (0, .ref q165994), (1, .int p165995), (2, .int p165996)]) z189516 1 dr_cX17_rename_138 rfl hz189516.symm (Nat.le_of_ble_eq_true rfl) rfl ?_
                          refine G_goto 20 dr_cX17_rename_141 (by decide +kernel) ?_
                          refine G_lv (L' := [(5, .int z189516), (4, .ref q187989), (3, .int g187931), (0, .ref q165994), (1, .int p165995), (2, .int p165996)]) [0, 2, 3, 4, 5, 6] rfl ?_
                          exact ih20_188778 F189496 z189516 (gB_w bz189516 (by decide) (by decide)) hT189507 hs189506 (by omega)
                        · have r189517 : o189513.toInt ≠ 0 := gj_neq hc189514 (show Int32.toInt 0 = 0 by decide)
                          have bo189513' : gB o189513 1 1 := ⟨by omega, by omega⟩
                          refine G_aload 0 dr_cX17_rename_123 rfl ?_
                          refine Gp_get 1 hm189178 he189505 dr_cX17_rename_125 (gk_X15 D I) (Nat.le_of_ble_eq_true rfl) wr_9_182 rfl ?_
                          refine G_iload_n 5 dr_cX17_rename_128 rfl ?_
                          refine G_icmp_ne 138 dr_cX17_rename_129 (by decide +kernel) (fun hc189518 => ?_) (fun hc189518 => ?_)
                          · have r189519 : p189181.toInt ≠ p165995.toInt := gC_ne hc189518
                            obtain ⟨z189520, hz189520⟩ : ∃ z : Int32, z = g188775 + Int32.ofInt 1 := ⟨_, rfl⟩
                            have ez189520 : z189520.toInt = g188775.toInt + 1 := gI_inc hz189520 (by decide) bg188775'' (by decide) (by decide)
                            have bz189520 : gB z189520 1 1000000 := ⟨by omega, by omega⟩
                            refine G_iinc (L' := [(5, .int z189520), (6, .ref q189168), (4, .ref q187989), (3, .int g187931), (0, .ref q165994), (1, .int p165995), (2, .int p165996)]) z189520 1 dr_cX17_rename_138 rfl hz189520.symm (Nat.le_of_ble_eq_true rfl) rfl ?_
                            refine G_goto 20 dr_cX17_rename_141 (by decide +kernel) ?_
                            refine G_lv (L' := [(5, .int z189520), (4, .ref q187989), (3, .int g187931), (0, .ref q165994), (1, .int p165995), (2, .int p165996)]) [0, 2, 3, 4, 5, 6] rfl ?_
                            exact ih20_188778 F189496 z189520 (gB_w bz189520 (by decide) (by decide)) hT189507 hs189506 (by omega)
                          · have r189521 : p189181.toInt = p165995.toInt := gC_eq hc189518
                            refine G_aload 0 dr_cX17_rename_132 rfl ?_
                            refine G_iload_n 6 dr_cX17_rename_134 rfl ?_
                            refine Gp_put 1 hm189178 he189505 dr_cX17_rename_135 (gk_X15 D I) (Nat.le_of_ble_eq_true rfl) wr_9_182 rfl rfl rfl (Nat.le_of_ble_eq_true rfl) (fun F189522 e189523 n189524 => ?_)
                            have he189525 : F189522 q165994 = .inr (18, [.ref q187940, .ref q187941, .int p187942, .int p187943]) := (n189524 q165994 (rn_oo he189499 he189505 (by decide))).trans he189499
                            have he189526 : F189522 q187940 = .inr (4, [.int p187970, .ref q187972, .int p187971]) := (n189524 q187940 (rn_oo he189500 he189505 (by decide))).trans he189500
                            have he189527 : F189522 q187972 = .inl (I (.object "java/lang/Object"), n187986, .inr (.inr (.inr (.inr f187987)))) := (n189524 q187972 (rn_ao he189501 he189505)).trans he189501
                            have he189528 : F189522 q187989 = .inr (17, [.ref q187998, .ref q187999, .int p188000, .int p188001]) := (n189524 q187989 (rn_oo he189502 he189505 (by decide))).trans he189502
                            have he189529 : F189522 q187998 = .inr (4, [.int p188788, .ref q188790, .int p188789]) := (n189524 q187998 (rn_oo he189503 he189505 (by decide))).trans he189503
                            have he189530 : F189522 q188790 = .inl (I (.object "java/lang/Object"), n189165, .inr (.inr (.inr (.inr f189166)))) := (n189524 q188790 (rn_ao he189504 he189505)).trans he189504
                            have he189531 : F189522 q189168 = .inr (20, [.int p189180, .int p165996, .int p165996, .int p165996, .int p189184, .int p189185, .int p189186]) := e189523
                            have hs189532 : rStr γ [1] F165993 F189522 := rStr_pu2 hs189506 n189524 ht189171 (by decide)
                            obtain ⟨z189533, hz189533⟩ : ∃ z : Int32, z = g188775 + Int32.ofInt 1 := ⟨_, rfl⟩
                            have ez189533 : z189533.toInt = g188775.toInt + 1 := gI_inc hz189533 (by decide) bg188775'' (by decide) (by decide)
                            have bz189533 : gB z189533 1 1000000 := ⟨by omega, by omega⟩
                            refine G_iinc (L' := [(5, .int z189533), (6, .ref q189168), (4, .ref q187989), (3, .int g187931), (0, .ref q165994), (1, .int p165995), (2, .int p165996)]) z189533 1 dr_cX17_rename_138 rfl hz189533.symm (Nat.le_of_ble_eq_true rfl) rfl ?_
                            refine G_goto 20 dr_cX17_rename_141 (by decide +kernel) ?_
                            have hT189534 : RS D I P165992 F189522 γ el := RS_set hT189507 n189524 ht189171 (by decide) ⟨p189180, p165996, p165996, p165996, p189184, p189185, p189186, he189531, bp189180, bp165996, bp189184, bp189185, bp189186, (by omega), (by omega), (by omega), (by omega), (by omega)⟩
                            refine G_lv (L' := [(5, .int z189533), (4, .ref q187989), (3, .int g187931), (0, .ref q165994), (1, .int p165995), (2, .int p165996)]) [0, 2, 3, 4, 5, 6] rfl ?_
                            exact ih20_188778 F189522 z189533 (gB_w bz189533 (by decide) (by decide)) hT189534 hs189532 (by omega)
        exact hlp20_188778 (((1000002 : Int) - 0).toNat + 1) F187932 0 (gB_w (gBl (show Int32.toInt 0 = 0 by decide)) (by decide) (by decide)) hT187933 hs187934 (Nat.lt_succ_self _)
  exact hlp2_187934 (((1000001 : Int) - 0).toNat + 1) F165993 0 (gB_w (gBl (show Int32.toInt 0 = 0 by decide)) (by decide) (by decide)) hT (rStr_rf (γ := γ) (W := [1]) (F := F165993)) (Nat.lt_succ_self _)
