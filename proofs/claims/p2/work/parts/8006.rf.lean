theorem dr_cX17_giveAll_0 : decode cX17_giveAll 0 = .ok (.aload_n 0, 1) := by decide +kernel
theorem dr_cX17_giveAll_1 : decode cX17_giveAll 1 = .ok (.iconst 0, 1) := by decide +kernel
theorem dr_cX17_giveAll_2 : decode cX17_giveAll 2 = .ok (.putfield 224, 3) := by decide +kernel
theorem dr_cX17_giveAll_5 : decode cX17_giveAll 5 = .ok (.aload_n 0, 1) := by decide +kernel
theorem dr_cX17_giveAll_6 : decode cX17_giveAll 6 = .ok (.iconst 0, 1) := by decide +kernel
theorem dr_cX17_giveAll_7 : decode cX17_giveAll 7 = .ok (.putfield 237, 3) := by decide +kernel
theorem wr_7_86 : (Jvm.Cond.fieldLink "SpillForgeModel" (237 : Nat) "SpillForgeModel" "spilled" "I") ∈ gw := gw_7 86 rfl rfl
theorem dr_cX17_giveAll_10 : decode cX17_giveAll 10 = .ok (.aload_n 0, 1) := by decide +kernel
theorem dr_cX17_giveAll_11 : decode cX17_giveAll 11 = .ok (.iconst 0, 1) := by decide +kernel
theorem dr_cX17_giveAll_12 : decode cX17_giveAll 12 = .ok (.putfield 195, 3) := by decide +kernel
theorem dr_cX17_giveAll_15 : decode cX17_giveAll 15 = .ok (.aload_n 0, 1) := by decide +kernel
theorem dr_cX17_giveAll_16 : decode cX17_giveAll 16 = .ok (.bipush 100, 2) := by decide +kernel
theorem dr_cX17_giveAll_18 : decode cX17_giveAll 18 = .ok (.putfield 231, 3) := by decide +kernel
theorem dr_cX17_giveAll_21 : decode cX17_giveAll 21 = .ok (.aload_n 0, 1) := by decide +kernel
theorem dr_cX17_giveAll_22 : decode cX17_giveAll 22 = .ok (.aload_n 1, 1) := by decide +kernel
theorem dr_cX17_giveAll_23 : decode cX17_giveAll 23 = .ok (.invokevirtual 240, 3) := by decide +kernel
theorem wr_10_152 : (Jvm.Cond.methodLink "SpillForgeModel" (240 : Nat) ({ cls := "SpillForgeModel", name := "zeros", desc := "(LSpillForgeModel$Code;)V" } : Jvm.MethodName)) ∈ gw := gw_10 152 rfl rfl
theorem wr_10_155 : (Jvm.Cond.code ({ cls := "SpillForgeModel", name := "zeros", desc := "(LSpillForgeModel$Code;)V" } : Jvm.MethodName) prog_14_method_16_code (5 : Nat) (Option.none : Option Jvm.ClassFile.FieldType)) ∈ gw := gw_10 155 rfl rfl
theorem wr_10_154 : (Jvm.Cond.instanceMethod ({ cls := "SpillForgeModel", name := "zeros", desc := "(LSpillForgeModel$Code;)V" } : Jvm.MethodName)) ∈ gw := gw_10 154 rfl rfl
theorem wr_p_93 : Cond.selects "SpillForgeModel" ⟨"SpillForgeModel", "zeros", "(LSpillForgeModel$Code;)V"⟩ ⟨"SpillForgeModel", "zeros", "(LSpillForgeModel$Code;)V"⟩ ∈ gw := gw_p _ 93 rfl rfl rfl
theorem dr_cX17_giveAll_26 : decode cX17_giveAll 26 = .ok (.iconst 1, 1) := by decide +kernel
theorem dr_cX17_giveAll_27 : decode cX17_giveAll 27 = .ok (.istore_n 3, 1) := by decide +kernel
theorem dr_cX17_giveAll_28 : decode cX17_giveAll 28 = .ok (.iload_n 3, 1) := by decide +kernel
theorem dr_cX17_giveAll_29 : decode cX17_giveAll 29 = .ok (.bipush 40, 2) := by decide +kernel
theorem dr_cX17_giveAll_31 : decode cX17_giveAll 31 = .ok (.if_icmp .gt 176, 3) := by decide +kernel
theorem dr_cX17_giveAll_207 : decode cX17_giveAll 207 = .ok (.iconst (-1), 1) := by decide +kernel
theorem dr_cX17_giveAll_208 : decode cX17_giveAll 208 = .ok (.ireturn, 1) := by decide +kernel
theorem dr_cX17_giveAll_34 : decode cX17_giveAll 34 = .ok (.aload_n 1, 1) := by decide +kernel
theorem dr_cX17_giveAll_35 : decode cX17_giveAll 35 = .ok (.invokevirtual 234, 3) := by decide +kernel
theorem dr_cX17_giveAll_38 : decode cX17_giveAll 38 = .ok (.sipush 4000, 3) := by decide +kernel
theorem dr_cX17_giveAll_41 : decode cX17_giveAll 41 = .ok (.if_icmp .le 5, 3) := by decide +kernel
theorem dr_cX17_giveAll_46 : decode cX17_giveAll 46 = .ok (.aload_n 0, 1) := by decide +kernel
theorem dr_cX17_giveAll_47 : decode cX17_giveAll 47 = .ok (.aload_n 1, 1) := by decide +kernel
theorem dr_cX17_giveAll_48 : decode cX17_giveAll 48 = .ok (.iconst 0, 1) := by decide +kernel
theorem dr_cX17_giveAll_49 : decode cX17_giveAll 49 = .ok (.invokevirtual 243, 3) := by decide +kernel
theorem dr_cX17_giveAll_52 : decode cX17_giveAll 52 = .ok (.aload_n 0, 1) := by decide +kernel
theorem dr_cX17_giveAll_53 : decode cX17_giveAll 53 = .ok (.aload_n 1, 1) := by decide +kernel
theorem dr_cX17_giveAll_54 : decode cX17_giveAll 54 = .ok (.iload_n 2, 1) := by decide +kernel
theorem dr_cX17_giveAll_55 : decode cX17_giveAll 55 = .ok (.invokevirtual 246, 3) := by decide +kernel
theorem wr_11_8 : (Jvm.Cond.methodLink "SpillForgeModel" (246 : Nat) ({ cls := "SpillForgeModel", name := "merge", desc := "(LSpillForgeModel$Code;I)Z" } : Jvm.MethodName)) ∈ gw := gw_11 8 rfl rfl
theorem wr_11_11 : (Jvm.Cond.code ({ cls := "SpillForgeModel", name := "merge", desc := "(LSpillForgeModel$Code;I)Z" } : Jvm.MethodName) prog_14_method_17_code (9 : Nat) (Option.some Jvm.ClassFile.FieldType.boolean)) ∈ gw := gw_11 11 rfl rfl
theorem wr_11_10 : (Jvm.Cond.instanceMethod ({ cls := "SpillForgeModel", name := "merge", desc := "(LSpillForgeModel$Code;I)Z" } : Jvm.MethodName)) ∈ gw := gw_11 10 rfl rfl
theorem wr_p_101 : Cond.selects "SpillForgeModel" ⟨"SpillForgeModel", "merge", "(LSpillForgeModel$Code;I)Z"⟩ ⟨"SpillForgeModel", "merge", "(LSpillForgeModel$Code;I)Z"⟩ ∈ gw := gw_p _ 101 rfl rfl rfl
theorem dr_cX17_giveAll_58 : decode cX17_giveAll 58 = .ok (.ifCond .eq 12, 3) := by decide +kernel
theorem dr_cX17_giveAll_70 : decode cX17_giveAll 70 = .ok (.aload_n 0, 1) := by decide +kernel
theorem dr_cX17_giveAll_71 : decode cX17_giveAll 71 = .ok (.aload_n 1, 1) := by decide +kernel
theorem dr_cX17_giveAll_72 : decode cX17_giveAll 72 = .ok (.invokevirtual 250, 3) := by decide +kernel
theorem wr_11_33 : (Jvm.Cond.methodLink "SpillForgeModel" (250 : Nat) ({ cls := "SpillForgeModel", name := "weigh", desc := "(LSpillForgeModel$Code;)V" } : Jvm.MethodName)) ∈ gw := gw_11 33 rfl rfl
theorem wr_11_36 : (Jvm.Cond.code ({ cls := "SpillForgeModel", name := "weigh", desc := "(LSpillForgeModel$Code;)V" } : Jvm.MethodName) prog_14_method_15_code (7 : Nat) (Option.none : Option Jvm.ClassFile.FieldType)) ∈ gw := gw_11 36 rfl rfl
theorem wr_11_35 : (Jvm.Cond.instanceMethod ({ cls := "SpillForgeModel", name := "weigh", desc := "(LSpillForgeModel$Code;)V" } : Jvm.MethodName)) ∈ gw := gw_11 35 rfl rfl
theorem wr_p_104 : Cond.selects "SpillForgeModel" ⟨"SpillForgeModel", "weigh", "(LSpillForgeModel$Code;)V"⟩ ⟨"SpillForgeModel", "weigh", "(LSpillForgeModel$Code;)V"⟩ ∈ gw := gw_p _ 104 rfl rfl rfl
theorem dr_cX17_giveAll_75 : decode cX17_giveAll 75 = .ok (.aload_n 0, 1) := by decide +kernel
theorem dr_cX17_giveAll_76 : decode cX17_giveAll 76 = .ok (.iload_n 2, 1) := by decide +kernel
theorem dr_cX17_giveAll_77 : decode cX17_giveAll 77 = .ok (.invokevirtual 253, 3) := by decide +kernel
theorem wr_11_47 : (Jvm.Cond.methodLink "SpillForgeModel" (253 : Nat) ({ cls := "SpillForgeModel", name := "colours", desc := "(I)I" } : Jvm.MethodName)) ∈ gw := gw_11 47 rfl rfl
theorem wr_11_50 : (Jvm.Cond.code ({ cls := "SpillForgeModel", name := "colours", desc := "(I)I" } : Jvm.MethodName) prog_14_method_21_code (8 : Nat) (Option.some Jvm.ClassFile.FieldType.int)) ∈ gw := gw_11 50 rfl rfl
theorem wr_11_49 : (Jvm.Cond.instanceMethod ({ cls := "SpillForgeModel", name := "colours", desc := "(I)I" } : Jvm.MethodName)) ∈ gw := gw_11 49 rfl rfl
theorem wr_p_106 : Cond.selects "SpillForgeModel" ⟨"SpillForgeModel", "colours", "(I)I"⟩ ⟨"SpillForgeModel", "colours", "(I)I"⟩ ∈ gw := gw_p _ 106 rfl rfl rfl
theorem dr_cX17_giveAll_80 : decode cX17_giveAll 80 = .ok (.istore 4, 2) := by decide +kernel
theorem dr_cX17_giveAll_82 : decode cX17_giveAll 82 = .ok (.iload 4, 2) := by decide +kernel
theorem dr_cX17_giveAll_84 : decode cX17_giveAll 84 = .ok (.ifCond .ne 96, 3) := by decide +kernel
theorem dr_cX17_giveAll_180 : decode cX17_giveAll 180 = .ok (.aload_n 0, 1) := by decide +kernel
theorem dr_cX17_giveAll_181 : decode cX17_giveAll 181 = .ok (.dup, 1) := by decide +kernel
theorem dr_cX17_giveAll_182 : decode cX17_giveAll 182 = .ok (.getfield 237, 3) := by decide +kernel
theorem dr_cX17_giveAll_185 : decode cX17_giveAll 185 = .ok (.iload 4, 2) := by decide +kernel
theorem dr_cX17_giveAll_187 : decode cX17_giveAll 187 = .ok (.iadd, 1) := by decide +kernel
theorem dr_cX17_giveAll_188 : decode cX17_giveAll 188 = .ok (.putfield 237, 3) := by decide +kernel
theorem dr_cX17_giveAll_191 : decode cX17_giveAll 191 = .ok (.aload_n 0, 1) := by decide +kernel
theorem dr_cX17_giveAll_192 : decode cX17_giveAll 192 = .ok (.aload_n 1, 1) := by decide +kernel
theorem dr_cX17_giveAll_193 : decode cX17_giveAll 193 = .ok (.invokevirtual 263, 3) := by decide +kernel
theorem wr_11_63 : (Jvm.Cond.methodLink "SpillForgeModel" (263 : Nat) ({ cls := "SpillForgeModel", name := "spill", desc := "(LSpillForgeModel$Code;)Z" } : Jvm.MethodName)) ∈ gw := gw_11 63 rfl rfl
theorem wr_11_66 : (Jvm.Cond.code ({ cls := "SpillForgeModel", name := "spill", desc := "(LSpillForgeModel$Code;)Z" } : Jvm.MethodName) prog_14_method_22_code (10 : Nat) (Option.some Jvm.ClassFile.FieldType.boolean)) ∈ gw := gw_11 66 rfl rfl
theorem wr_11_65 : (Jvm.Cond.instanceMethod ({ cls := "SpillForgeModel", name := "spill", desc := "(LSpillForgeModel$Code;)Z" } : Jvm.MethodName)) ∈ gw := gw_11 65 rfl rfl
theorem wr_p_110 : Cond.selects "SpillForgeModel" ⟨"SpillForgeModel", "spill", "(LSpillForgeModel$Code;)Z"⟩ ⟨"SpillForgeModel", "spill", "(LSpillForgeModel$Code;)Z"⟩ ∈ gw := gw_p _ 110 rfl rfl rfl
theorem dr_cX17_giveAll_196 : decode cX17_giveAll 196 = .ok (.ifCond .ne 5, 3) := by decide +kernel
theorem dr_cX17_giveAll_201 : decode cX17_giveAll 201 = .ok (.iinc 3 1, 3) := by decide +kernel
theorem dr_cX17_giveAll_204 : decode cX17_giveAll 204 = .ok (.goto (-176), 3) := by decide +kernel
theorem dr_cX17_giveAll_199 : decode cX17_giveAll 199 = .ok (.iconst (-1), 1) := by decide +kernel
theorem dr_cX17_giveAll_200 : decode cX17_giveAll 200 = .ok (.ireturn, 1) := by decide +kernel
theorem dr_cX17_giveAll_87 : decode cX17_giveAll 87 = .ok (.iconst 0, 1) := by decide +kernel
theorem dr_cX17_giveAll_88 : decode cX17_giveAll 88 = .ok (.istore 5, 2) := by decide +kernel
theorem dr_cX17_giveAll_90 : decode cX17_giveAll 90 = .ok (.iload 5, 2) := by decide +kernel
theorem dr_cX17_giveAll_92 : decode cX17_giveAll 92 = .ok (.aload_n 1, 1) := by decide +kernel
theorem dr_cX17_giveAll_93 : decode cX17_giveAll 93 = .ok (.invokevirtual 96, 3) := by decide +kernel
theorem dr_cX17_giveAll_96 : decode cX17_giveAll 96 = .ok (.if_icmp .ge 77, 3) := by decide +kernel
theorem dr_cX17_giveAll_173 : decode cX17_giveAll 173 = .ok (.aload_n 0, 1) := by decide +kernel
theorem dr_cX17_giveAll_174 : decode cX17_giveAll 174 = .ok (.aload_n 1, 1) := by decide +kernel
theorem dr_cX17_giveAll_175 : decode cX17_giveAll 175 = .ok (.invokevirtual 260, 3) := by decide +kernel
theorem wr_11_59 : (Jvm.Cond.methodLink "SpillForgeModel" (260 : Nat) ({ cls := "SpillForgeModel", name := "share", desc := "(LSpillForgeModel$Code;)V" } : Jvm.MethodName)) ∈ gw := gw_11 59 rfl rfl
theorem wr_11_62 : (Jvm.Cond.code ({ cls := "SpillForgeModel", name := "share", desc := "(LSpillForgeModel$Code;)V" } : Jvm.MethodName) prog_14_method_26_code (7 : Nat) (Option.none : Option Jvm.ClassFile.FieldType)) ∈ gw := gw_11 62 rfl rfl
theorem wr_11_61 : (Jvm.Cond.instanceMethod ({ cls := "SpillForgeModel", name := "share", desc := "(LSpillForgeModel$Code;)V" } : Jvm.MethodName)) ∈ gw := gw_11 61 rfl rfl
theorem wr_p_109 : Cond.selects "SpillForgeModel" ⟨"SpillForgeModel", "share", "(LSpillForgeModel$Code;)V"⟩ ⟨"SpillForgeModel", "share", "(LSpillForgeModel$Code;)V"⟩ ∈ gw := gw_p _ 109 rfl rfl rfl
theorem dr_cX17_giveAll_178 : decode cX17_giveAll 178 = .ok (.iload_n 3, 1) := by decide +kernel
theorem dr_cX17_giveAll_179 : decode cX17_giveAll 179 = .ok (.ireturn, 1) := by decide +kernel
theorem dr_cX17_giveAll_99 : decode cX17_giveAll 99 = .ok (.aload_n 1, 1) := by decide +kernel
theorem dr_cX17_giveAll_100 : decode cX17_giveAll 100 = .ok (.iload 5, 2) := by decide +kernel
theorem dr_cX17_giveAll_102 : decode cX17_giveAll 102 = .ok (.invokevirtual 101, 3) := by decide +kernel
theorem dr_cX17_giveAll_105 : decode cX17_giveAll 105 = .ok (.astore 6, 2) := by decide +kernel
theorem dr_cX17_giveAll_107 : decode cX17_giveAll 107 = .ok (.iconst 0, 1) := by decide +kernel
theorem dr_cX17_giveAll_108 : decode cX17_giveAll 108 = .ok (.istore 7, 2) := by decide +kernel
theorem dr_cX17_giveAll_110 : decode cX17_giveAll 110 = .ok (.iload 7, 2) := by decide +kernel
theorem dr_cX17_giveAll_112 : decode cX17_giveAll 112 = .ok (.aload 6, 2) := by decide +kernel
theorem dr_cX17_giveAll_114 : decode cX17_giveAll 114 = .ok (.getfield 117, 3) := by decide +kernel
theorem dr_cX17_giveAll_117 : decode cX17_giveAll 117 = .ok (.invokevirtual 121, 3) := by decide +kernel
theorem dr_cX17_giveAll_120 : decode cX17_giveAll 120 = .ok (.if_icmp .gt 47, 3) := by decide +kernel
theorem dr_cX17_giveAll_167 : decode cX17_giveAll 167 = .ok (.iinc 5 1, 3) := by decide +kernel
theorem dr_cX17_giveAll_170 : decode cX17_giveAll 170 = .ok (.goto (-80), 3) := by decide +kernel
theorem dr_cX17_giveAll_123 : decode cX17_giveAll 123 = .ok (.aload_n 0, 1) := by decide +kernel
theorem dr_cX17_giveAll_124 : decode cX17_giveAll 124 = .ok (.iload 7, 2) := by decide +kernel
theorem dr_cX17_giveAll_126 : decode cX17_giveAll 126 = .ok (.aload 6, 2) := by decide +kernel
theorem dr_cX17_giveAll_128 : decode cX17_giveAll 128 = .ok (.getfield 117, 3) := by decide +kernel
theorem dr_cX17_giveAll_131 : decode cX17_giveAll 131 = .ok (.invokevirtual 121, 3) := by decide +kernel
theorem dr_cX17_giveAll_134 : decode cX17_giveAll 134 = .ok (.if_icmp .ge 19, 3) := by decide +kernel
theorem dr_cX17_giveAll_153 : decode cX17_giveAll 153 = .ok (.aload 6, 2) := by decide +kernel
theorem dr_cX17_giveAll_155 : decode cX17_giveAll 155 = .ok (.getfield 109, 3) := by decide +kernel
theorem dr_cX17_giveAll_158 : decode cX17_giveAll 158 = .ok (.invokevirtual 256, 3) := by decide +kernel
theorem wr_11_55 : (Jvm.Cond.methodLink "SpillForgeModel" (256 : Nat) ({ cls := "SpillForgeModel", name := "coloured", desc := "(LSpillForgeModel$Row;)V" } : Jvm.MethodName)) ∈ gw := gw_11 55 rfl rfl
theorem wr_11_58 : (Jvm.Cond.code ({ cls := "SpillForgeModel", name := "coloured", desc := "(LSpillForgeModel$Row;)V" } : Jvm.MethodName) prog_14_method_25_code (2 : Nat) (Option.none : Option Jvm.ClassFile.FieldType)) ∈ gw := gw_11 58 rfl rfl
theorem wr_11_57 : (Jvm.Cond.instanceMethod ({ cls := "SpillForgeModel", name := "coloured", desc := "(LSpillForgeModel$Row;)V" } : Jvm.MethodName)) ∈ gw := gw_11 57 rfl rfl
theorem wr_p_108 : Cond.selects "SpillForgeModel" ⟨"SpillForgeModel", "coloured", "(LSpillForgeModel$Row;)V"⟩ ⟨"SpillForgeModel", "coloured", "(LSpillForgeModel$Row;)V"⟩ ∈ gw := gw_p _ 108 rfl rfl rfl
theorem dr_cX17_giveAll_161 : decode cX17_giveAll 161 = .ok (.iinc 7 1, 3) := by decide +kernel
theorem dr_cX17_giveAll_164 : decode cX17_giveAll 164 = .ok (.goto (-54), 3) := by decide +kernel
theorem dr_cX17_giveAll_137 : decode cX17_giveAll 137 = .ok (.aload 6, 2) := by decide +kernel
theorem dr_cX17_giveAll_139 : decode cX17_giveAll 139 = .ok (.getfield 117, 3) := by decide +kernel
theorem dr_cX17_giveAll_142 : decode cX17_giveAll 142 = .ok (.iload 7, 2) := by decide +kernel
theorem dr_cX17_giveAll_144 : decode cX17_giveAll 144 = .ok (.invokevirtual 124, 3) := by decide +kernel
theorem dr_cX17_giveAll_147 : decode cX17_giveAll 147 = .ok (.checkcast 40, 3) := by decide +kernel
theorem dr_cX17_giveAll_150 : decode cX17_giveAll 150 = .ok (.goto 8, 3) := by decide +kernel
theorem dr_cX17_giveAll_61 : decode cX17_giveAll 61 = .ok (.aload_n 0, 1) := by decide +kernel
theorem dr_cX17_giveAll_62 : decode cX17_giveAll 62 = .ok (.aload_n 1, 1) := by decide +kernel
theorem dr_cX17_giveAll_63 : decode cX17_giveAll 63 = .ok (.iconst 0, 1) := by decide +kernel
theorem dr_cX17_giveAll_64 : decode cX17_giveAll 64 = .ok (.invokevirtual 243, 3) := by decide +kernel
theorem dr_cX17_giveAll_67 : decode cX17_giveAll 67 = .ok (.goto (-15), 3) := by decide +kernel
theorem dr_cX17_giveAll_44 : decode cX17_giveAll 44 = .ok (.iconst (-1), 1) := by decide +kernel
theorem dr_cX17_giveAll_45 : decode cX17_giveAll 45 = .ok (.ireturn, 1) := by decide +kernel
abbrev ky_601776_SpillForgeModel_giveAll : gKey := (cX17_giveAll, 8, "SpillForgeModel", (some FieldType.int), [], "giveAll", fun _ _ => True)
def pg_601776_SpillForgeModel_giveAll (D : va_G) (I : FieldType → ClassId) (γ0 el0 : Nat → Nat → Nat) (f : Nat) (B : Nat) (P601768 : List Nat) (F601769 : Nat → va_E) (q601770 : Nat) (q601771 : Nat) (p601772 : Int32) : Option Value → va_W → Nat → Nat → Prop := fun r w dc ds => ∃ (P627007 : List Nat) (F627008 : Nat → va_E) (γ el : Nat → Nat → Nat) (o627006 : Int32), r = some (.int o627006) ∧ w = va_pl P627007 F627008 ∧ rSk f [101] ([1, 3, 5, 6, 8, 9, 101] ++ npk) D I P601768 F601769 γ0 el0 P627007 F627008 γ el ∧ (18 * dc + rPh γ0 el0 f ≤ rPh γ el f ∧ ds + rPh γ0 el0 f ≤ rPh γ el f) ∧ rBd γ el f B ∧ gB o627006 (-1) 40 ∧ γ 6 f = γ0 6 f ∧ mKp (F601769 q601770) (F627008 q601770)
set_option maxRecDepth 100000 in
set_option maxHeartbeats 20000000 in
theorem cg_601776_SpillForgeModel_giveAll (l : Launch) (hl0 : l.stackTraces = false) (D : va_G) (I : FieldType → ClassId) (γ0 el0 : Nat → Nat → Nat) (f : Nat) (B : Nat) (P601768 : List Nat) (F601769 : Nat → va_E) (q601770 : Nat) (q601771 : Nat) (p601772 : Int32) (hT0 : RS D I P601768 F601769 γ0 el0) (hzq601770 : rKd γ0 q601770 10) (hzq601771 : rKd γ0 q601771 9) (hf0 : γ0 1 q601771 = f) (hB0 : rBd γ0 el0 f B) (hBk : B ≤ 100000) (bp601772 : gB p601772 1 32) (x601773 : 0 < γ0 6 f) (x601774 : γ0 7 f = 0) (x601775 : γ0 16 f + 3900 ≤ B) : CtA (gV D I) l yX17_giveAll cX17_giveAll 8 (some FieldType.int) 10 224 (((387 * B + 6000) - rPh γ0 el0 f) / 18) ((387 * B + 6000) - rPh γ0 el0 f) [.ref q601770, .ref q601771, .int p601772] (va_pl P601768 F601769) (pg_601776_SpillForgeModel_giveAll D I γ0 el0 f B P601768 F601769 q601770 q601771 p601772) gNA := by
  refine CtA_of hl0 (by decide) (Nat.le_of_ble_eq_true rfl) ?_
  obtain ⟨γ, hγ0⟩ : ∃ z, z = γ0 := ⟨_, rfl⟩
  obtain ⟨el, hel0⟩ : ∃ z, z = el0 := ⟨_, rfl⟩
  have hT : RS D I P601768 F601769 γ el := by rw [hγ0, hel0]; exact hT0
  have hst : rSk f [101] ([1, 3, 5, 6, 8, 9, 101] ++ npk) D I P601768 F601769 γ0 el0 P601768 F601769 γ el := by rw [hγ0, hel0]; exact rSk_rf hT0
  have hph : rPh γ0 el0 f ≤ rPh γ el f := by rw [hγ0, hel0]; exact Nat.le_refl _
  have hB : rBd γ el f B := by rw [hγ0, hel0]; exact hB0
  have htq601770 : rKd γ q601770 10 := by rw [hγ0]; exact hzq601770
  have htq601771 : rKd γ q601771 9 := by rw [hγ0]; exact hzq601771
  have hf1 : γ 1 q601771 = f := by rw [hγ0]; exact hf0
  have x601773n : 0 < γ 6 f := by rw [hγ0]; exact x601773
  have x601774n : γ 7 f = 0 := by rw [hγ0]; exact x601774
  have x601775n : γ 16 f + 3900 ≤ B := by rw [hγ0]; exact x601775
  have pk601777 : rPh γ el f ≤ 387 * B + 6000 := rm_pk (rM_ge hT htq601771 hf1).1 (rM_bd hB)
  refine G_widen (cs' := ((rPh γ el f - rPh γ0 el0 f) / 18)) (sl' := (rPh γ el f - rPh γ0 el0 f)) (Nat.zero_le _) (Nat.zero_le _) ?_
  have lz0 : Int32.toInt 0 = 0 := by decide
  have r601778 : γ 6 f = γ0 6 f := by rw [hγ0]
  have r601779 : γ 7 f = γ0 7 f := by rw [hγ0]
  have r601780 : γ 16 f = γ0 16 f := by rw [hγ0]
  have r601781 : γ 18 f = γ0 18 f := by rw [hγ0]
  have r601782 : γ 19 f = γ0 19 f := by rw [hγ0]
  have hm601783 : q601770 ∈ P601768 := RS_m hT htq601770 (by decide)
  refine rk10_e (show rk_10 γ (F601769 q601770) from RS_o hT htq601770) (fun q601785 q601786 p601787 p601788 p601789 p601790 p601791 p601792 p601793 p601794 p601795 p601796 p601797 p601798 p601799 p601800 p601801 he601784 hB601828 ht601802 ht601803 ht601804 ht601805 ht601806 ht601807 ht601808 ht601809 ht601810 ht601811 ht601812 ht601813 ht601814 ht601815 ht601816 ht601817 ht601818 ht601819 ht601820 ht601821 ht601822 ht601823 ht601824 ht601825 hB601829 => ?_)
  have k0_3 : rKd γ0 (γ0 9 3) 14 := by rw [← hγ0]; exact ht601807
  have k0_17 : rKd γ0 (γ0 9 17) 20 := by rw [← hγ0]; exact ht601815
  refine G_aload_n 0 dr_cX17_giveAll_0 rfl ?_
  refine G_iconst 0 dr_cX17_giveAll_1 (by decide +kernel) ?_
  refine Gp_put 11 hm601783 he601784 dr_cX17_giveAll_2 (gk_X17 D I) (Nat.le_of_ble_eq_true rfl) wr_7_85 rfl rfl rfl (Nat.le_of_ble_eq_true rfl) (fun F601830 e601831 n601832 => ?_)
  have he601833 : F601830 q601770 = .inr (22, [.ref (γ 9 0), .ref (γ 9 1), .ref (γ 9 2), .ref (γ 9 3), .ref (γ 9 4), .ref (γ 9 5), .ref (γ 9 6), .ref (γ 9 7), .ref (γ 9 8), .int p601787, .int p601788, .int 0, .int p601790, .int p601791, .int p601792, .ref (γ 9 15), .ref (γ 9 16), .ref (γ 9 17), .ref (γ 9 18), .ref (γ 9 19), .ref (γ 9 20), .ref (γ 9 21), .ref (γ 9 22), .int p601793, .int p601794, .int p601795, .int p601796, .int p601797, .ref q601785, .ref (γ 9 29), .int p601798, .ref (γ 9 31), .int p601799, .int p601800, .int p601801, .ref q601786]) := e601831
  have mk601834 : mKp (F601769 q601770) (F601830 q601770) := mKp_tr mKp_rf (by rw [he601784, he601833]; exact ⟨rfl, rfl⟩)
  have kp601835 : F601830 (γ0 9 3) = F601769 (γ0 9 3) := n601832 (γ0 9 3) (rn_ty (rSk_k hst k0_3 (by decide) (by decide)) htq601770 (by decide))
  have kp601836 : F601830 (γ0 9 17) = F601769 (γ0 9 17) := n601832 (γ0 9 17) (rn_ty (rSk_k hst k0_17 (by decide) (by decide)) htq601770 (by decide))
  refine G_aload_n 0 dr_cX17_giveAll_5 rfl ?_
  refine G_iconst 0 dr_cX17_giveAll_6 (by decide +kernel) ?_
  refine Gp_put 12 hm601783 he601833 dr_cX17_giveAll_7 (gk_X17 D I) (Nat.le_of_ble_eq_true rfl) wr_7_86 rfl rfl rfl (Nat.le_of_ble_eq_true rfl) (fun F601837 e601838 n601839 => ?_)
  have he601840 : F601837 q601770 = .inr (22, [.ref (γ 9 0), .ref (γ 9 1), .ref (γ 9 2), .ref (γ 9 3), .ref (γ 9 4), .ref (γ 9 5), .ref (γ 9 6), .ref (γ 9 7), .ref (γ 9 8), .int p601787, .int p601788, .int 0, .int 0, .int p601791, .int p601792, .ref (γ 9 15), .ref (γ 9 16), .ref (γ 9 17), .ref (γ 9 18), .ref (γ 9 19), .ref (γ 9 20), .ref (γ 9 21), .ref (γ 9 22), .int p601793, .int p601794, .int p601795, .int p601796, .int p601797, .ref q601785, .ref (γ 9 29), .int p601798, .ref (γ 9 31), .int p601799, .int p601800, .int p601801, .ref q601786]) := e601838
  have mk601841 : mKp (F601769 q601770) (F601837 q601770) := mKp_tr mk601834 (by rw [he601833, he601840]; exact ⟨rfl, rfl⟩)
  have n601842 : ∀ b, b ≠ q601770 → F601837 b = F601769 b := fun b hb => (n601839 b hb).trans (n601832 b hb)
  have kp601843 : F601837 (γ0 9 3) = F601769 (γ0 9 3) := (n601839 (γ0 9 3) (rn_ty (rSk_k hst k0_3 (by decide) (by decide)) htq601770 (by decide))).trans kp601835
  have kp601844 : F601837 (γ0 9 17) = F601769 (γ0 9 17) := (n601839 (γ0 9 17) (rn_ty (rSk_k hst k0_17 (by decide) (by decide)) htq601770 (by decide))).trans kp601836
  refine G_aload_n 0 dr_cX17_giveAll_10 rfl ?_
  refine G_iconst 0 dr_cX17_giveAll_11 (by decide +kernel) ?_
  refine Gp_put 13 hm601783 he601840 dr_cX17_giveAll_12 (gk_X17 D I) (Nat.le_of_ble_eq_true rfl) wr_7_87 rfl rfl rfl (Nat.le_of_ble_eq_true rfl) (fun F601845 e601846 n601847 => ?_)
  have he601848 : F601845 q601770 = .inr (22, [.ref (γ 9 0), .ref (γ 9 1), .ref (γ 9 2), .ref (γ 9 3), .ref (γ 9 4), .ref (γ 9 5), .ref (γ 9 6), .ref (γ 9 7), .ref (γ 9 8), .int p601787, .int p601788, .int 0, .int 0, .int 0, .int p601792, .ref (γ 9 15), .ref (γ 9 16), .ref (γ 9 17), .ref (γ 9 18), .ref (γ 9 19), .ref (γ 9 20), .ref (γ 9 21), .ref (γ 9 22), .int p601793, .int p601794, .int p601795, .int p601796, .int p601797, .ref q601785, .ref (γ 9 29), .int p601798, .ref (γ 9 31), .int p601799, .int p601800, .int p601801, .ref q601786]) := e601846
  have mk601849 : mKp (F601769 q601770) (F601845 q601770) := mKp_tr mk601841 (by rw [he601840, he601848]; exact ⟨rfl, rfl⟩)
  have n601850 : ∀ b, b ≠ q601770 → F601845 b = F601769 b := fun b hb => (n601847 b hb).trans (n601842 b hb)
  have kp601851 : F601845 (γ0 9 3) = F601769 (γ0 9 3) := (n601847 (γ0 9 3) (rn_ty (rSk_k hst k0_3 (by decide) (by decide)) htq601770 (by decide))).trans kp601843
  have kp601852 : F601845 (γ0 9 17) = F601769 (γ0 9 17) := (n601847 (γ0 9 17) (rn_ty (rSk_k hst k0_17 (by decide) (by decide)) htq601770 (by decide))).trans kp601844
  refine G_aload_n 0 dr_cX17_giveAll_15 rfl ?_
  refine G_bipush 100 dr_cX17_giveAll_16 (by decide +kernel) ?_
  refine Gp_put 14 hm601783 he601848 dr_cX17_giveAll_18 (gk_X17 D I) (Nat.le_of_ble_eq_true rfl) wr_7_88 rfl rfl rfl (Nat.le_of_ble_eq_true rfl) (fun F601853 e601854 n601855 => ?_)
  have he601856 : F601853 q601770 = .inr (22, [.ref (γ 9 0), .ref (γ 9 1), .ref (γ 9 2), .ref (γ 9 3), .ref (γ 9 4), .ref (γ 9 5), .ref (γ 9 6), .ref (γ 9 7), .ref (γ 9 8), .int p601787, .int p601788, .int 0, .int 0, .int 0, .int 100, .ref (γ 9 15), .ref (γ 9 16), .ref (γ 9 17), .ref (γ 9 18), .ref (γ 9 19), .ref (γ 9 20), .ref (γ 9 21), .ref (γ 9 22), .int p601793, .int p601794, .int p601795, .int p601796, .int p601797, .ref q601785, .ref (γ 9 29), .int p601798, .ref (γ 9 31), .int p601799, .int p601800, .int p601801, .ref q601786]) := e601854
  have mk601857 : mKp (F601769 q601770) (F601853 q601770) := mKp_tr mk601849 (by rw [he601848, he601856]; exact ⟨rfl, rfl⟩)
  have n601858 : ∀ b, b ≠ q601770 → F601853 b = F601769 b := fun b hb => (n601855 b hb).trans (n601850 b hb)
  have kp601859 : F601853 (γ0 9 3) = F601769 (γ0 9 3) := (n601855 (γ0 9 3) (rn_ty (rSk_k hst k0_3 (by decide) (by decide)) htq601770 (by decide))).trans kp601851
  have kp601860 : F601853 (γ0 9 17) = F601769 (γ0 9 17) := (n601855 (γ0 9 17) (rn_ty (rSk_k hst k0_17 (by decide) (by decide)) htq601770 (by decide))).trans kp601852
  refine G_aload_n 0 dr_cX17_giveAll_21 rfl ?_
  have hT601861 : RS D I P601768 F601853 γ el := RS_set hT n601858 htq601770 (by decide) ⟨q601785, q601786, p601787, p601788, 0, 0, 0, 100, p601793, p601794, p601795, p601796, p601797, p601798, p601799, p601800, p601801, he601856, ⟨(hB601828.1), (hB601828.2.1), (gB_w (gBl (show Int32.toInt 0 = 0 by decide)) (by decide) (by decide)), (gB_w (gBl (show Int32.toInt 100 = 100 by decide)) (by decide) (by decide)), (hB601828.2.2.2.2.1), (hB601828.2.2.2.2.2.1), (hB601828.2.2.2.2.2.2.1), (hB601828.2.2.2.2.2.2.2.1), (hB601828.2.2.2.2.2.2.2.2)⟩, ht601802, ht601803, ht601804, ht601805, ht601806, ht601807, ht601808, ht601809, ht601810, ht601811, ht601812, ht601813, ht601814, ht601815, ht601816, ht601817, ht601818, ht601819, ht601820, ht601821, ht601822, ht601823, ht601824, ht601825, hB601829⟩
  have hs601862 := rSk_put hst hT601861 n601858 htq601770 (by decide) (by decide)
  have ac601863 : (fI (F601853 q601770) 11).toInt = 0 := by rw [he601856]; show Int32.toInt 0 = 0; decide
  have ac601864 : (fI (F601853 q601770) 14).toInt = 100 := by rw [he601856]; show Int32.toInt 100 = 100; decide
  refine G_aload_n 1 dr_cX17_giveAll_22 rfl ?_
  have rg601865 := rM_ge hT601861 htq601771 hf1
  have rm601866 := rM_bd hB
  have bd601867 := rBd_c hT601861 htq601771 hf1 hB
  have rc601868 := rc_at hT601861 htq601771 hf1
  refine Gw_callV (As := [.ref q601771]) (gV_ok D I) (cg_355897_SpillForgeModel_zeros l hl0 D I γ el f B P601768 F601853 q601770 q601771 hT601861 htq601770 htq601771 hf1 hB hBk (by omega) (by omega)) dr_cX17_giveAll_23 ⟨wr_10_152, wr_1_14, wr_10_155, by decide, rfl, (Nat.le_of_ble_eq_true rfl), (Nat.le_of_ble_eq_true rfl)⟩ wr_10_154 wr_p_93 hm601783 he601856 rfl (rm_gc hph pk601777) (rm_gs hph pk601777) (Nat.le_of_ble_eq_true rfl) (fun r601872 w601873 dc601869 ds601870 hp601871 => ?_) (fun _ _ _ _ _ z => z.elim)
  obtain ⟨P601879, F601880, γ, el, rfl, rfl, hk601881, ⟨hr601882, hr601883⟩, hB601884, x601874, x601875, x601876, x601877, x601878⟩ := hp601871
  have hT601885 := hk601881.1
  have hs601886 := rSk_tr hs601862 hk601881 (by decide) (by decide) (by decide)
  have ht601887 : rKd γ q601770 10 := rSk_k hk601881 htq601770 (by decide) (by decide)
  have ht601888 : rKd γ q601771 9 := rSk_k hk601881 htq601771 (by decide) (by decide)
  have hf601889 : γ 1 q601771 = f := rSk_1 hk601881 htq601771 (by decide) hf1
  clear rg601865 rm601866 bd601867 rc601868
  have mk601890 : mKp (F601769 q601770) (F601880 q601770) := mKp_tr mk601857 (mKp_eq x601878)
  have hph601891 : rPh γ0 el0 f ≤ rPh γ el f := rm_ph hph hr601883
  have pk601892 : rPh γ el f ≤ 387 * B + 6000 := rm_pk (rM_ge hT601885 ht601888 hf601889).1 (rM_bd hB601884)
  change G _ _ _ _ _ _ _ _ _ _ _
  refine G_widen (cs' := ((rPh γ el f - rPh γ0 el0 f) / 18)) (sl' := (rPh γ el f - rPh γ0 el0 f)) (rm_wc hph hr601882) (rm_ws hph hr601883) ?_
  have r601893 : 0 < γ 6 (γ 1 q601771) := by rw [hf601889]; omega
  have ac601894 : (fI (F601880 q601770) 11).toInt = (fI (F601853 q601770) 11).toInt := by rw [x601878]
  have ac601895 : (fI (F601880 q601770) 14).toInt = (fI (F601853 q601770) 14).toInt := by rw [x601878]
  have hm601896 : q601770 ∈ P601879 := RS_m hT601885 ht601887 (by decide)
  refine rk10_e (show rk_10 γ (F601880 q601770) from RS_o hT601885 ht601887) (fun q601898 q601899 p601900 p601901 p601902 p601903 p601904 p601905 p601906 p601907 p601908 p601909 p601910 p601911 p601912 p601913 p601914 he601897 hB601941 ht601915 ht601916 ht601917 ht601918 ht601919 ht601920 ht601921 ht601922 ht601923 ht601924 ht601925 ht601926 ht601927 ht601928 ht601929 ht601930 ht601931 ht601932 ht601933 ht601934 ht601935 ht601936 ht601937 ht601938 hB601942 => ?_)
  have ac601943 : (fI (F601880 q601770) 11).toInt = p601902.toInt := by rw [he601897]; rfl
  have bp601902 : gB p601902 0 100 := (hB601941.2.2.1)
  have ac601944 : (fI (F601880 q601770) 14).toInt = p601905.toInt := by rw [he601897]; rfl
  have bp601905 : gB p601905 0 2000 := (hB601941.2.2.2.1)
  have ni601945 : rNI γ el F601880 q601771 (γ 6 f) (fI (F601880 q601770) 11).toInt := rNI_s (rNI_0 hT601885 ht601888 hf601889 (by omega)) (by omega)
  refine G_iconst 1 dr_cX17_giveAll_26 (by decide +kernel) ?_
  refine G_istore_n (L' := [(3, .int 1), (0, .ref q601770), (1, .ref q601771), (2, .int p601772)]) dr_cX17_giveAll_27 (Nat.le_of_ble_eq_true rfl) rfl ?_
  have hlp28_623906 : ∀ (n28_623906 : Nat) (P623895 : List Nat) (F623896 : Nat → va_E) (γ el : Nat → Nat → Nat) (g623894 : Int32), gB g623894 1 41 → RS D I P623895 F623896 γ el → rSk f [101] ([1, 3, 5, 6, 8, 9, 101] ++ npk) D I P601768 F601769 γ0 el0 P623895 F623896 γ el → rPh γ0 el0 f ≤ rPh γ el f → rBd γ el f B → γ 6 f = γ0 6 f → ((γ 7 f : Nat) : Int) = (fI (F623896 q601770) 11).toInt → ((γ 16 f : Nat) : Int) + 2000 ≤ (B : Int) + (fI (F623896 q601770) 14).toInt → 100 ≤ (fI (F623896 q601770) 14).toInt → rNI γ el F623896 q601771 (γ 6 f) (fI (F623896 q601770) 11).toInt → mKp (F601769 q601770) (F623896 q601770) → ((42 : Int) - g623894.toInt).toNat < n28_623906 → G (gV D I) l (gRm 10 224 (((387 * B + 6000) - rPh γ0 el0 f) / 18) ((387 * B + 6000) - rPh γ0 el0 f)) (gMA (gV D I) (pg_601776_SpillForgeModel_giveAll D I γ0 el0 f B P601768 F601769 q601770 q601771 p601772) gNA (((387 * B + 6000) - rPh γ0 el0 f) / 18) ((387 * B + 6000) - rPh γ0 el0 f)) ky_601776_SpillForgeModel_giveAll 28 [(3, .int g623894), (0, .ref q601770), (1, .ref q601771), (2, .int p601772)] [] (va_pl P623895 F623896) ((rPh γ el f - rPh γ0 el0 f) / 18) (rPh γ el f - rPh γ0 el0 f) := by
    intro n28_623906
    induction n28_623906 with
    | zero => intro P623895 F623896 γ el g623894 bg623894 hT623897 hs623898 hph623899 hB623900 x623901 x623902 x623903 x623904 x623905 x623906 hm28_623906; exact absurd hm28_623906 (Nat.not_lt_zero _)
    | succ n28_623906 ih28_623906 =>
      intro P623895 F623896 γ el g623894 bg623894 hT623897 hs623898 hph623899 hB623900 x623901 x623902 x623903 x623904 x623905 x623906 hm28_623906
      clear r601778 r601779 r601780 r601781 r601782 hr601882 hr601883 hph601891 pk601892 r601893
      have ht623908 : rKd γ q601770 10 := rSk_k hs623898 hzq601770 (by decide) (by decide)
      have ht623909 : rKd γ q601771 9 := rSk_k hs623898 hzq601771 (by decide) (by decide)
      have hf623910 : γ 1 q601771 = f := rSk_1 hs623898 hzq601771 (by decide) hf0
      have pk623911 : rPh γ el f ≤ 387 * B + 6000 := rm_pk (rM_ge hT623897 ht623909 hf623910).1 (rM_bd hB623900)
      have r623912 : 0 < γ 6 (γ 1 q601771) := by rw [hf623910]; omega
      have hm623913 : q601770 ∈ P623895 := RS_m hT623897 ht623908 (by decide)
      refine rk10_e (show rk_10 γ (F623896 q601770) from RS_o hT623897 ht623908) (fun q623915 q623916 p623917 p623918 p623919 p623920 p623921 p623922 p623923 p623924 p623925 p623926 p623927 p623928 p623929 p623930 p623931 he623914 hB623958 ht623932 ht623933 ht623934 ht623935 ht623936 ht623937 ht623938 ht623939 ht623940 ht623941 ht623942 ht623943 ht623944 ht623945 ht623946 ht623947 ht623948 ht623949 ht623950 ht623951 ht623952 ht623953 ht623954 ht623955 hB623959 => ?_)
      have ac623960 : (fI (F623896 q601770) 11).toInt = p623919.toInt := by rw [he623914]; rfl
      have bp623919 : gB p623919 0 100 := (hB623958.2.2.1)
      have ac623961 : (fI (F623896 q601770) 14).toInt = p623922.toInt := by rw [he623914]; rfl
      have bp623922 : gB p623922 0 2000 := (hB623958.2.2.2.1)
      refine G_iload_n 0 dr_cX17_giveAll_28 rfl ?_
      refine G_bipush 40 dr_cX17_giveAll_29 (by decide +kernel) ?_
      refine G_icmp_gt 207 dr_cX17_giveAll_31 (by decide +kernel) (fun hc623962 => ?_) (fun hc623962 => ?_)
      · have r623963 : 40 < g623894.toInt := gj_ltL hc623962 (show Int32.toInt 40 = 40 by decide)
        have bg623894' : gB g623894 41 41 := ⟨by omega, by omega⟩
        refine G_iconst (-1) dr_cX17_giveAll_207 (by decide +kernel) ?_
        exact G_iretA dr_cX17_giveAll_208 rfl (show ((rPh γ el f - rPh γ0 el0 f) / 18) ≤ (((387 * B + 6000) - rPh γ0 el0 f) / 18) by omega) (show (rPh γ el f - rPh γ0 el0 f) ≤ ((387 * B + 6000) - rPh γ0 el0 f) by omega) ⟨P623895, F623896, γ, el, (-1), rfl, rfl, hs623898, ⟨by omega, by omega⟩, hB623900, (gB_w (gBl (show Int32.toInt (-1) = (-1) by decide)) (by decide) (by decide)), (by have qa0 : Int32.toInt (-1) = (-1) := (by decide); omega), x623906⟩
      · have r623964 : g623894.toInt ≤ 40 := gj_nltL hc623962 (show Int32.toInt 40 = 40 by decide)
        have bg623894' : gB g623894 1 40 := ⟨by omega, by omega⟩
        refine G_aload_n 2 dr_cX17_giveAll_34 rfl ?_
        have hm623970 : q601771 ∈ P623895 := RS_m hT623897 ht623909 (by decide)
        obtain ⟨q623972, q623973, p623974, p623975, he623971, ht623991, ht623976, ht623977, ht623978, ht623979, r623980, r623981, r623982, r623983, r623984, r623985, r623986, r623987, r623988, r623989, r623990⟩ := show rk_9 γ el q601771 (F623896 q601771) from RS_o hT623897 ht623909
        have bp623974 : gB p623974 0 1000000 := ⟨by omega, by omega⟩
        have bp623975 : gB p623975 0 1000000 := ⟨by omega, by omega⟩
        have hf623992 : γ 1 q623972 = f := (show γ 1 q623972 = γ 1 q601771 from ht623977).trans hf623910
        have hf623993 : γ 1 q623973 = f := (show γ 1 q623973 = γ 1 q601771 from ht623979).trans hf623910
        have r623994 : γ 6 (γ 1 q601771) = γ 6 f := by rw [hf623910]
        have r623995 : γ 16 (γ 1 q601771) = γ 16 f := by rw [hf623910]
        have r623996 : p623975.toInt = γ 6 f ∧ p623975.toInt ≤ 40 := by omega
        clear r623986
        refine Gw_callV (As := []) (gV_ok D I) (ct_7632_Code_countRows l hl0 D I γ el P623895 F623896 q601771 hT623897 ht623909 (by omega)) dr_cX17_giveAll_35 ⟨wr_10_229, wr_1_15, wr_10_232, by decide, rfl, (Nat.le_of_ble_eq_true rfl), (Nat.le_of_ble_eq_true rfl)⟩ wr_10_230 wr_10_231 hm623970 he623971 rfl (rm_zc pk623911) (rm_zs pk623911) (Nat.le_of_ble_eq_true rfl) (fun r623968 w623969 dc623965 ds623966 hp623967 => ?_) (fun _ _ _ _ _ z => z.elim)
        obtain ⟨o623997, rfl, rfl, hdc, hds⟩ := hp623967
        have bo623997 := gB_any o623997
        change G _ _ _ _ _ _ _ (.int o623997 :: _) _ _ _
        refine G_widen (cs' := ((rPh γ el f - rPh γ0 el0 f) / 18)) (sl' := (rPh γ el f - rPh γ0 el0 f)) (rm_d0 hdc) (rm_d0 hds) ?_
        refine G_sipush 4000 dr_cX17_giveAll_38 (by decide +kernel) ?_
        refine G_icmp_le 46 dr_cX17_giveAll_41 (by decide +kernel) (fun hc623998 => ?_) (fun hc623998 => ?_)
        · have r623999 : o623997.toInt ≤ 4000 := gj_le hc623998 (show Int32.toInt 4000 = 4000 by decide)
          have bo623997' : gB o623997 (-2147483648) 4000 := ⟨by omega, by omega⟩
          refine G_aload_n 1 dr_cX17_giveAll_46 rfl ?_
          refine G_aload_n 2 dr_cX17_giveAll_47 rfl ?_
          refine G_iconst 0 dr_cX17_giveAll_48 (by decide +kernel) ?_
          refine Gw_callV (As := [.ref q601771, .int 0]) (gV_ok D I) (ct_269178_SpillForgeModel_graph l hl0 D I γ el P623895 F623896 q601770 q601771 0 hT623897 ht623908 ht623909 (gB_w (gBl (show Int32.toInt 0 = 0 by decide)) (by decide) (by decide)) (by omega)) dr_cX17_giveAll_49 ⟨wr_10_233, wr_1_14, wr_10_236, by decide, rfl, (Nat.le_of_ble_eq_true rfl), (Nat.le_of_ble_eq_true rfl)⟩ wr_10_235 wr_p_99 hm623913 he623914 rfl (rm_zc pk623911) (rm_zs pk623911) (Nat.le_of_ble_eq_true rfl) (fun r624003 w624004 dc624000 ds624001 hp624002 => ?_) (fun _ _ _ _ _ z => z.elim)
          obtain ⟨F624007, rfl, rfl, hT624008, hs624009, hdc, hds, x624005, x624006⟩ := hp624002
          have he624010 : F624007 q601771 = .inr (18, [.ref q623972, .ref q623973, .int p623974, .int p623975]) := (hs624009 q601771 (rT0 ht623909 (by decide)) (rT1 ht623909 (by decide)) (rT2 ht623909 (by decide))).trans he623971
          have hs624011 := rSk_str hs623898 hT624008 hs624009 (by decide) (by decide) (by decide)
          have kp624012 : F624007 q601770 = F623896 q601770 := x624006
          have mk624013 : mKp (F601769 q601770) (F624007 q601770) := mKp_tr x623906 (mKp_eq x624006)
          have he624014 : F624007 q601770 = .inr (22, [.ref (γ 9 0), .ref (γ 9 1), .ref (γ 9 2), .ref (γ 9 3), .ref (γ 9 4), .ref (γ 9 5), .ref (γ 9 6), .ref (γ 9 7), .ref (γ 9 8), .int p623917, .int p623918, .int p623919, .int p623920, .int p623921, .int p623922, .ref (γ 9 15), .ref (γ 9 16), .ref (γ 9 17), .ref (γ 9 18), .ref (γ 9 19), .ref (γ 9 20), .ref (γ 9 21), .ref (γ 9 22), .int p623923, .int p623924, .int p623925, .int p623926, .int p623927, .ref q623915, .ref (γ 9 29), .int p623928, .ref (γ 9 31), .int p623929, .int p623930, .int p623931, .ref q623916]) := (x624006).trans he623914
          rw [show Int32.toInt 0 = 0 from by decide] at x624005
          change G _ _ _ _ _ _ _ _ _ _ _
          refine G_widen (cs' := ((rPh γ el f - rPh γ0 el0 f) / 18)) (sl' := (rPh γ el f - rPh γ0 el0 f)) (rm_d0 hdc) (rm_d0 hds) ?_
          have ni624015 : rNI γ el F624007 q601771 (γ 6 f) (fI (F624007 q601770) 11).toInt := rNI_s (rNI_str hT623897 ht623909 hf623910 hs624009 (by decide) x623905) (by rw [x624006])
          have gr624016 : rGr γ el F624007 q601771 (γ 6 f) (cB (F624007 (γ0 9 3))) (vA (γ 6 f)) := by have z := x624005 (by decide); rw [hf623910] at z; rw [← congrFun (rSk_9 hs624011) 3]; exact gq_str hT623897 ht623909 hf623910 hs624009 (by decide) z
          have ac624017 : (fI (F624007 q601770) 11).toInt = (fI (F623896 q601770) 11).toInt := by rw [kp624012]
          have ac624018 : (fI (F624007 q601770) 14).toInt = (fI (F623896 q601770) 14).toInt := by rw [kp624012]
          have hlp52_625499 : ∀ (n52_625499 : Nat) (P625487 : List Nat) (F625488 : Nat → va_E) (γ el : Nat → Nat → Nat) , RS D I P625487 F625488 γ el → rSk f [101] ([1, 3, 5, 6, 8, 9, 101] ++ npk) D I P601768 F601769 γ0 el0 P625487 F625488 γ el → rPh γ0 el0 f ≤ rPh γ el f → rBd γ el f B → γ 6 f = γ0 6 f → ((γ 7 f : Nat) : Int) = (fI (F625488 q601770) 11).toInt → ((γ 16 f : Nat) : Int) + 2000 ≤ (B : Int) + (fI (F625488 q601770) 14).toInt → 100 ≤ (fI (F625488 q601770) 14).toInt → rNI γ el F625488 q601771 (γ 6 f) (fI (F625488 q601770) 11).toInt → rGr γ el F625488 q601771 (γ 6 f) (cB (F625488 (γ0 9 3))) (vA (γ 6 f)) → mKp (F601769 q601770) (F625488 q601770) → rsum (fun i => γ 2 (γ 14 (el (γ 14 q601771) i))) (γ 6 f) < n52_625499 → G (gV D I) l (gRm 10 224 (((387 * B + 6000) - rPh γ0 el0 f) / 18) ((387 * B + 6000) - rPh γ0 el0 f)) (gMA (gV D I) (pg_601776_SpillForgeModel_giveAll D I γ0 el0 f B P601768 F601769 q601770 q601771 p601772) gNA (((387 * B + 6000) - rPh γ0 el0 f) / 18) ((387 * B + 6000) - rPh γ0 el0 f)) ky_601776_SpillForgeModel_giveAll 52 [(3, .int g623894), (0, .ref q601770), (1, .ref q601771), (2, .int p601772)] [] (va_pl P625487 F625488) ((rPh γ el f - rPh γ0 el0 f) / 18) (rPh γ el f - rPh γ0 el0 f) := by
            intro n52_625499
            induction n52_625499 with
            | zero => intro P625487 F625488 γ el hT625489 hs625490 hph625491 hB625492 x625493 x625494 x625495 x625496 x625497 x625498 x625499 hm52_625499; exact absurd hm52_625499 (Nat.not_lt_zero _)
            | succ n52_625499 ih52_625499 =>
              intro P625487 F625488 γ el hT625489 hs625490 hph625491 hB625492 x625493 x625494 x625495 x625496 x625497 x625498 x625499 hm52_625499
              clear r623980 r623981 r623982 r623983 r623984 r623985 r623987 r623988 r623989 r623990 bp623974 bp623975 r623994 r623995 r623996
              have ht625501 : rKd γ q601770 10 := rSk_k hs625490 hzq601770 (by decide) (by decide)
              have ht625502 : rKd γ q601771 9 := rSk_k hs625490 hzq601771 (by decide) (by decide)
              have hf625503 : γ 1 q601771 = f := rSk_1 hs625490 hzq601771 (by decide) hf0
              have pk625504 : rPh γ el f ≤ 387 * B + 6000 := rm_pk (rM_ge hT625489 ht625502 hf625503).1 (rM_bd hB625492)
              have r625505 : 0 < γ 6 (γ 1 q601771) := by rw [hf625503]; omega
              have hm625506 : q601770 ∈ P625487 := RS_m hT625489 ht625501 (by decide)
              refine rk10_e (show rk_10 γ (F625488 q601770) from RS_o hT625489 ht625501) (fun q625508 q625509 p625510 p625511 p625512 p625513 p625514 p625515 p625516 p625517 p625518 p625519 p625520 p625521 p625522 p625523 p625524 he625507 hB625551 ht625525 ht625526 ht625527 ht625528 ht625529 ht625530 ht625531 ht625532 ht625533 ht625534 ht625535 ht625536 ht625537 ht625538 ht625539 ht625540 ht625541 ht625542 ht625543 ht625544 ht625545 ht625546 ht625547 ht625548 hB625552 => ?_)
              have ac625553 : (fI (F625488 q601770) 11).toInt = p625512.toInt := by rw [he625507]; rfl
              have bp625512 : gB p625512 0 100 := (hB625551.2.2.1)
              have ac625554 : (fI (F625488 q601770) 14).toInt = p625515.toInt := by rw [he625507]; rfl
              have bp625515 : gB p625515 0 2000 := (hB625551.2.2.2.1)
              refine G_aload_n 1 dr_cX17_giveAll_52 rfl ?_
              refine G_aload_n 2 dr_cX17_giveAll_53 rfl ?_
              refine G_iload_n 3 dr_cX17_giveAll_54 rfl ?_
              have rg625555 := rM_ge hT625489 ht625502 hf625503
              have rm625556 := rM_bd hB625492
              have bd625557 := rBd_c hT625489 ht625502 hf625503 hB625492
              have rc625558 := rc_at hT625489 ht625502 hf625503
              refine Gw_callV (As := [.ref q601771, .int p601772]) (gV_ok D I) (cg_386425_SpillForgeModel_merge l hl0 D I γ el f B P625487 F625488 q601770 q601771 p601772 hT625489 ht625501 ht625502 hf625503 hB625492 hBk (by omega)) dr_cX17_giveAll_55 ⟨wr_11_8, wr_1_14, wr_11_11, by decide, rfl, (Nat.le_of_ble_eq_true rfl), (Nat.le_of_ble_eq_true rfl)⟩ wr_11_10 wr_p_101 hm625506 he625507 rfl (rm_gc hph625491 pk625504) (rm_gs hph625491 pk625504) (Nat.le_of_ble_eq_true rfl) (fun r625562 w625563 dc625559 ds625560 hp625561 => ?_) (fun _ _ _ _ _ z => z.elim)
              obtain ⟨P625575, F625576, γ, el, o625564, rfl, rfl, hk625577, ⟨hr625578, hr625579⟩, hB625580, bo625564, x625565, x625566, x625567, x625568, x625569, x625570, x625571, x625572, x625573, x625574⟩ := hp625561
              have hT625581 := hk625577.1
              have hs625582 := rSk_tr hs625490 hk625577 (by decide) (by decide) (by decide)
              have ht625583 : rKd γ q601770 10 := rSk_k hk625577 ht625501 (by decide) (by decide)
              have ht625584 : rKd γ q601771 9 := rSk_k hk625577 ht625502 (by decide) (by decide)
              have hf625585 : γ 1 q601771 = f := rSk_1 hk625577 ht625502 (by decide) hf625503
              clear rg625555 rm625556 bd625557 rc625558
              have mk625586 : mKp (F601769 q601770) (F625576 q601770) := mKp_tr x625499 x625574
              have hph625587 : rPh γ0 el0 f ≤ rPh γ el f := rm_ph hph625491 hr625579
              have pk625588 : rPh γ el f ≤ 387 * B + 6000 := rm_pk (rM_ge hT625581 ht625584 hf625585).1 (rM_bd hB625580)
              change G _ _ _ _ _ _ _ (.int o625564 :: _) _ _ _
              refine G_widen (cs' := ((rPh γ el f - rPh γ0 el0 f) / 18)) (sl' := (rPh γ el f - rPh γ0 el0 f)) (rm_wc hph625491 hr625578) (rm_ws hph625491 hr625579) ?_
              have r625589 : 0 < γ 6 (γ 1 q601771) := by rw [hf625585]; omega
              have hm625590 : q601770 ∈ P625575 := RS_m hT625581 ht625583 (by decide)
              refine rk10_e (show rk_10 γ (F625576 q601770) from RS_o hT625581 ht625583) (fun q625592 q625593 p625594 p625595 p625596 p625597 p625598 p625599 p625600 p625601 p625602 p625603 p625604 p625605 p625606 p625607 p625608 he625591 hB625635 ht625609 ht625610 ht625611 ht625612 ht625613 ht625614 ht625615 ht625616 ht625617 ht625618 ht625619 ht625620 ht625621 ht625622 ht625623 ht625624 ht625625 ht625626 ht625627 ht625628 ht625629 ht625630 ht625631 ht625632 hB625636 => ?_)
              have ac625637 : (fI (F625576 q601770) 11).toInt = p625596.toInt := by rw [he625591]; rfl
              have bp625596 : gB p625596 0 100 := (hB625635.2.2.1)
              have ac625638 : (fI (F625576 q601770) 14).toInt = p625599.toInt := by rw [he625591]; rfl
              have bp625599 : gB p625599 0 2000 := (hB625635.2.2.2.1)
              have ni625639 : rNI γ el F625576 q601771 (γ 6 f) (fI (F625576 q601770) 11).toInt := rNI_s (rNI_mg x625570 x625497) x625571
              refine G_if_eq 70 dr_cX17_giveAll_58 (by decide +kernel) (fun hc625640 => ?_) (fun hc625640 => ?_)
              · have r625641 : o625564.toInt = 0 := gj_eq hc625640 (show Int32.toInt 0 = 0 by decide)
                have bo625564' : gB o625564 0 0 := gB_t0 r625641
                have r625642 := x625573 (by omega)
                have gr625643 : rGr γ el F625576 q601771 (γ 6 f) (cB (F625576 (γ0 9 3))) (vA (γ 6 f)) := by rw [r625642.1, r625642.2.1, r625642.2.2]; exact x625498
                refine G_aload_n 1 dr_cX17_giveAll_70 rfl ?_
                refine G_aload_n 2 dr_cX17_giveAll_71 rfl ?_
                refine Gw_callV (As := [.ref q601771]) (gV_ok D I) (ct_397402_SpillForgeModel_weigh l hl0 D I γ el P625575 F625576 q601770 q601771 hT625581 ht625583 ht625584 (by omega)) dr_cX17_giveAll_72 ⟨wr_11_33, wr_1_14, wr_11_36, by decide, rfl, (Nat.le_of_ble_eq_true rfl), (Nat.le_of_ble_eq_true rfl)⟩ wr_11_35 wr_p_104 hm625590 he625591 rfl (rm_zc pk625588) (rm_zs pk625588) (Nat.le_of_ble_eq_true rfl) (fun r625647 w625648 dc625644 ds625645 hp625646 => ?_) (fun _ _ _ _ _ z => z.elim)
                obtain ⟨F625651, rfl, rfl, hT625652, hs625653, hdc, hds, x625649, x625650⟩ := hp625646
                have hs625654 := rSk_str hs625582 hT625652 hs625653 (by decide) (by decide) (by decide)
                have kp625655 : F625651 q601770 = F625576 q601770 := x625649
                have kp625656 : F625651 (γ0 9 3) = F625576 (γ0 9 3) := (show F625651 (γ0 9 3) = F625576 (γ0 9 3) by rw [← congrFun (rSk_9 hs625654) 3]; exact x625650)
                have mk625657 : mKp (F601769 q601770) (F625651 q601770) := mKp_tr mk625586 (mKp_eq x625649)
                have he625658 : F625651 q601770 = .inr (22, [.ref (γ 9 0), .ref (γ 9 1), .ref (γ 9 2), .ref (γ 9 3), .ref (γ 9 4), .ref (γ 9 5), .ref (γ 9 6), .ref (γ 9 7), .ref (γ 9 8), .int p625594, .int p625595, .int p625596, .int p625597, .int p625598, .int p625599, .ref (γ 9 15), .ref (γ 9 16), .ref (γ 9 17), .ref (γ 9 18), .ref (γ 9 19), .ref (γ 9 20), .ref (γ 9 21), .ref (γ 9 22), .int p625600, .int p625601, .int p625602, .int p625603, .int p625604, .ref q625592, .ref (γ 9 29), .int p625605, .ref (γ 9 31), .int p625606, .int p625607, .int p625608, .ref q625593]) := (x625649).trans he625591
                change G _ _ _ _ _ _ _ _ _ _ _
                refine G_widen (cs' := ((rPh γ el f - rPh γ0 el0 f) / 18)) (sl' := (rPh γ el f - rPh γ0 el0 f)) (rm_d0 hdc) (rm_d0 hds) ?_
                have ni625659 : rNI γ el F625651 q601771 (γ 6 f) (fI (F625651 q601770) 11).toInt := rNI_s (rNI_str hT625581 ht625584 hf625585 hs625653 (by decide) ni625639) (by rw [x625649])
                have gr625660 : rGr γ el F625651 q601771 (γ 6 f) (cB (F625651 (γ0 9 3))) (vA (γ 6 f)) := by rw [← congrFun (rSk_9 hs625654) 3, x625650, congrFun (rSk_9 hs625654) 3]; exact gq_str hT625581 ht625584 hf625585 hs625653 (by decide) gr625643
                have ac625661 : (fI (F625651 q601770) 11).toInt = (fI (F625576 q601770) 11).toInt := by rw [kp625655]
                have ac625662 : (fI (F625651 q601770) 14).toInt = (fI (F625576 q601770) 14).toInt := by rw [kp625655]
                refine G_aload_n 1 dr_cX17_giveAll_75 rfl ?_
                refine G_iload_n 3 dr_cX17_giveAll_76 rfl ?_
                refine Gw_callV (As := [.int p601772]) (gV_ok D I) (ct_326340_SpillForgeModel_colours l hl0 D I γ el P625575 F625651 q601770 p601772 hT625652 ht625583 bp601772) dr_cX17_giveAll_77 ⟨wr_11_47, wr_1_14, wr_11_50, by decide, rfl, (Nat.le_of_ble_eq_true rfl), (Nat.le_of_ble_eq_true rfl)⟩ wr_11_49 wr_p_106 hm625590 he625658 rfl (rm_zc pk625588) (rm_zs pk625588) (Nat.le_of_ble_eq_true rfl) (fun r625666 w625667 dc625663 ds625664 hp625665 => ?_) (fun _ _ _ _ _ z => z.elim)
                obtain ⟨F625672, o625668, rfl, rfl, hT625673, hs625674, hdc, hds, bo625668, x625669, x625670, x625671⟩ := hp625665
                have hs625675 := rSk_str hs625654 hT625673 hs625674 (by decide) (by decide) (by decide)
                have kp625676 : F625672 q601770 = F625576 q601770 := (x625670).trans kp625655
                have kp625677 : F625672 (γ0 9 3) = F625576 (γ0 9 3) := ((show F625672 (γ0 9 3) = F625651 (γ0 9 3) by rw [← congrFun (rSk_9 hs625675) 3]; exact x625671)).trans kp625656
                have mk625678 : mKp (F601769 q601770) (F625672 q601770) := mKp_tr mk625657 (mKp_eq x625670)
                have he625679 : F625672 q601770 = .inr (22, [.ref (γ 9 0), .ref (γ 9 1), .ref (γ 9 2), .ref (γ 9 3), .ref (γ 9 4), .ref (γ 9 5), .ref (γ 9 6), .ref (γ 9 7), .ref (γ 9 8), .int p625594, .int p625595, .int p625596, .int p625597, .int p625598, .int p625599, .ref (γ 9 15), .ref (γ 9 16), .ref (γ 9 17), .ref (γ 9 18), .ref (γ 9 19), .ref (γ 9 20), .ref (γ 9 21), .ref (γ 9 22), .int p625600, .int p625601, .int p625602, .int p625603, .int p625604, .ref q625592, .ref (γ 9 29), .int p625605, .ref (γ 9 31), .int p625606, .int p625607, .int p625608, .ref q625593]) := (x625670).trans he625658
                change G _ _ _ _ _ _ _ (.int o625668 :: _) _ _ _
                refine G_widen (cs' := ((rPh γ el f - rPh γ0 el0 f) / 18)) (sl' := (rPh γ el f - rPh γ0 el0 f)) (rm_d0 hdc) (rm_d0 hds) ?_
                have ni625680 : rNI γ el F625672 q601771 (γ 6 f) (fI (F625672 q601770) 11).toInt := rNI_s (rNI_str hT625652 ht625584 hf625585 hs625674 (by decide) ni625659) (by rw [x625670])
                have gr625681 : rGr γ el F625672 q601771 (γ 6 f) (cB (F625672 (γ0 9 3))) (vA (γ 6 f)) := by rw [← congrFun (rSk_9 hs625675) 3, x625671, congrFun (rSk_9 hs625675) 3]; exact gq_str hT625652 ht625584 hf625585 hs625674 (by decide) gr625660
                have ac625682 : (fI (F625672 q601770) 11).toInt = (fI (F625576 q601770) 11).toInt := by rw [kp625676]
                have ac625683 : (fI (F625672 q601770) 14).toInt = (fI (F625576 q601770) 14).toInt := by rw [kp625676]
                refine G_istore (L' := [(4, .int o625668), (3, .int g623894), (0, .ref q601770), (1, .ref q601771), (2, .int p601772)]) dr_cX17_giveAll_80 (Nat.le_of_ble_eq_true rfl) rfl ?_
                refine G_iload 0 dr_cX17_giveAll_82 rfl ?_
                refine G_if_ne 180 dr_cX17_giveAll_84 (by decide +kernel) (fun hc625684 => ?_) (fun hc625684 => ?_)
                · have r625685 : o625668.toInt ≠ 0 := gj_neq hc625684 (show Int32.toInt 0 = 0 by decide)
                  have bo625668' : gB o625668 1 2000 := ⟨by omega, by omega⟩
                  have ac625686 : (fI (F625672 q601770) 11).toInt = p625596.toInt := by rw [he625679]; rfl
                  have ac625687 : (fI (F625672 q601770) 14).toInt = p625599.toInt := by rw [he625679]; rfl
                  refine G_aload_n 2 dr_cX17_giveAll_180 rfl ?_
                  refine G_dup dr_cX17_giveAll_181 rfl ?_
                  refine Gp_get 12 hm625590 he625679 dr_cX17_giveAll_182 (gk_X17 D I) (Nat.le_of_ble_eq_true rfl) wr_7_86 rfl ?_
                  have bp625597 : gB p625597 (-2147483648) 2147483647 := (gB_any p625597)
                  refine G_iload 0 dr_cX17_giveAll_185 rfl ?_
                  refine G_iadd dr_cX17_giveAll_187 (G_nam fun z625688 hz625688 => ?_)
                  have bz625688 : gB z625688 (-2147483648) 2147483647 := gB_any z625688
                  refine Gp_put 12 hm625590 he625679 dr_cX17_giveAll_188 (gk_X17 D I) (Nat.le_of_ble_eq_true rfl) wr_7_86 rfl rfl rfl (Nat.le_of_ble_eq_true rfl) (fun F625689 e625690 n625691 => ?_)
                  have he625692 : F625689 q601770 = .inr (22, [.ref (γ 9 0), .ref (γ 9 1), .ref (γ 9 2), .ref (γ 9 3), .ref (γ 9 4), .ref (γ 9 5), .ref (γ 9 6), .ref (γ 9 7), .ref (γ 9 8), .int p625594, .int p625595, .int p625596, .int z625688, .int p625598, .int p625599, .ref (γ 9 15), .ref (γ 9 16), .ref (γ 9 17), .ref (γ 9 18), .ref (γ 9 19), .ref (γ 9 20), .ref (γ 9 21), .ref (γ 9 22), .int p625600, .int p625601, .int p625602, .int p625603, .int p625604, .ref q625592, .ref (γ 9 29), .int p625605, .ref (γ 9 31), .int p625606, .int p625607, .int p625608, .ref q625593]) := e625690
                  have mk625693 : mKp (F601769 q601770) (F625689 q601770) := mKp_tr mk625678 (by rw [he625679, he625692]; exact ⟨rfl, rfl⟩)
                  have kp625694 : F625689 (γ0 9 3) = F625576 (γ0 9 3) := (n625691 (γ0 9 3) (rn_ty (rSk_k hs625675 k0_3 (by decide) (by decide)) ht625583 (by decide))).trans kp625677
                  have kp625695 : F625689 (γ0 9 17) = F625672 (γ0 9 17) := n625691 (γ0 9 17) (rn_ty (rSk_k hs625675 k0_17 (by decide) (by decide)) ht625583 (by decide))
                  have hT625696 : RS D I P625575 F625689 γ el := RS_set hT625673 n625691 ht625583 (by decide) ⟨q625592, q625593, p625594, p625595, p625596, z625688, p625598, p625599, p625600, p625601, p625602, p625603, p625604, p625605, p625606, p625607, p625608, he625692, ⟨(hB625635.1), (hB625635.2.1), bp625596, bp625599, (hB625635.2.2.2.2.1), (hB625635.2.2.2.2.2.1), (hB625635.2.2.2.2.2.2.1), (hB625635.2.2.2.2.2.2.2.1), (hB625635.2.2.2.2.2.2.2.2)⟩, ht625609, ht625610, ht625611, ht625612, ht625613, ht625614, ht625615, ht625616, ht625617, ht625618, ht625619, ht625620, ht625621, ht625622, ht625623, ht625624, ht625625, ht625626, ht625627, ht625628, ht625629, ht625630, ht625631, ht625632, hB625636⟩
                  have hs625697 := rSk_put hs625675 hT625696 n625691 ht625583 (by decide) (by decide)
                  have ac625698 : (fI (F625689 q601770) 11).toInt = p625596.toInt := by rw [he625692]; rfl
                  have ac625699 : (fI (F625689 q601770) 14).toInt = p625599.toInt := by rw [he625692]; rfl
                  have gr625701 := rNI_gr ni625680 gr625681
                  have p3625702 : (fI (F625689 q601770) 11).toInt + (rcn (cB (F625689 (γ0 9 3))) 100 : Nat) ≤ 100 := by rw [(n625691 (γ0 9 3) (rn_ty (rSk_k hs625697 k0_3 (by decide) (by decide)) ht625583 (by decide)))]; have z := gr625701.1; omega
                  have p4625703 : rPl γ el F625689 q601771 (γ 6 f) (fun _ _ => rNx (rSd (cB (F625689 (γ0 9 3))))) := by rw [(n625691 (γ0 9 3) (rn_ty (rSk_k hs625697 k0_3 (by decide) (by decide)) ht625583 (by decide)))]; exact rPl_fr hT625673 ht625584 hf625585 gr625701.2 (fun b hb _ => n625691 b (rn_ty (show rKd γ b 1 from hb) ht625583 (by decide)))
                  refine G_aload_n 2 dr_cX17_giveAll_191 rfl ?_
                  refine G_aload_n 3 dr_cX17_giveAll_192 rfl ?_
                  have rg625704 := rM_ge hT625696 ht625584 hf625585
                  have rm625705 := rM_bd hB625580
                  have bd625706 := rBd_c hT625696 ht625584 hf625585 hB625580
                  have rc625707 := rc_at hT625696 ht625584 hf625585
                  refine Gw_callV (As := [.ref q601771]) (gV_ok D I) (cg_561374_SpillForgeModel_spill l hl0 D I γ el f B P625575 F625689 q601770 q601771 hT625696 ht625583 ht625584 hf625585 hB625580 hBk (by omega) (by omega) (by omega) (by rw [congrFun (rSk_9 hs625697) 3]; exact p3625702) (by rw [congrFun (rSk_9 hs625697) 3]; exact p4625703) (by omega)) dr_cX17_giveAll_193 ⟨wr_11_63, wr_1_14, wr_11_66, by decide, rfl, (Nat.le_of_ble_eq_true rfl), (Nat.le_of_ble_eq_true rfl)⟩ wr_11_65 wr_p_110 hm625590 he625692 rfl (rm_gc hph625587 pk625588) (rm_gs hph625587 pk625588) (Nat.le_of_ble_eq_true rfl) (fun r625711 w625712 dc625708 ds625709 hp625710 => ?_) (fun _ _ _ _ _ z => z.elim)
                  obtain ⟨P625718, F625719, γ, el, o625713, rfl, rfl, hk625720, ⟨hr625721, hr625722⟩, hB625723, bo625713, x625714, x625715, x625716, x625717⟩ := hp625710
                  have hT625724 := hk625720.1
                  have hs625725 := rSk_tr hs625697 hk625720 (by decide) (by decide) (by decide)
                  have ht625726 : rKd γ q601770 10 := rSk_k hk625720 ht625583 (by decide) (by decide)
                  have ht625727 : rKd γ q601771 9 := rSk_k hk625720 ht625584 (by decide) (by decide)
                  have hf625728 : γ 1 q601771 = f := rSk_1 hk625720 ht625584 (by decide) hf625585
                  clear rg625704 rm625705 bd625706 rc625707
                  have mk625729 : mKp (F601769 q601770) (F625719 q601770) := mKp_tr mk625693 x625717
                  have hph625730 : rPh γ0 el0 f ≤ rPh γ el f := rm_ph hph625587 hr625722
                  have pk625731 : rPh γ el f ≤ 387 * B + 6000 := rm_pk (rM_ge hT625724 ht625727 hf625728).1 (rM_bd hB625723)
                  change G _ _ _ _ _ _ _ (.int o625713 :: _) _ _ _
                  refine G_widen (cs' := ((rPh γ el f - rPh γ0 el0 f) / 18)) (sl' := (rPh γ el f - rPh γ0 el0 f)) (rm_wc hph625587 hr625721) (rm_ws hph625587 hr625722) ?_
                  have r625732 : 0 < γ 6 (γ 1 q601771) := by rw [hf625728]; omega
                  have hm625733 : q601770 ∈ P625718 := RS_m hT625724 ht625726 (by decide)
                  refine rk10_e (show rk_10 γ (F625719 q601770) from RS_o hT625724 ht625726) (fun q625735 q625736 p625737 p625738 p625739 p625740 p625741 p625742 p625743 p625744 p625745 p625746 p625747 p625748 p625749 p625750 p625751 he625734 hB625778 ht625752 ht625753 ht625754 ht625755 ht625756 ht625757 ht625758 ht625759 ht625760 ht625761 ht625762 ht625763 ht625764 ht625765 ht625766 ht625767 ht625768 ht625769 ht625770 ht625771 ht625772 ht625773 ht625774 ht625775 hB625779 => ?_)
                  have ac625780 : (fI (F625719 q601770) 11).toInt = p625739.toInt := by rw [he625734]; rfl
                  have bp625739 : gB p625739 0 100 := (hB625778.2.2.1)
                  have ac625781 : (fI (F625719 q601770) 14).toInt = p625742.toInt := by rw [he625734]; rfl
                  have bp625742 : gB p625742 0 2000 := (hB625778.2.2.2.1)
                  refine G_if_ne 201 dr_cX17_giveAll_196 (by decide +kernel) (fun hc625782 => ?_) (fun hc625782 => ?_)
                  · have r625783 : o625713.toInt ≠ 0 := gj_neq hc625782 (show Int32.toInt 0 = 0 by decide)
                    have bo625713' : gB o625713 1 1 := gB_t1 bo625713 r625783
                    have ni625784 := x625715.resolve_left (by omega)
                    clear x625715
                    obtain ⟨rni625784a, rni625784b, rni625784c, rni625784d, rni625784e, rni625784f⟩ := ni625784
                    obtain ⟨z625785, hz625785⟩ : ∃ z : Int32, z = g623894 + Int32.ofInt 1 := ⟨_, rfl⟩
                    have ez625785 : z625785.toInt = g623894.toInt + 1 := gI_inc hz625785 (by decide) bg623894' (by decide) (by decide)
                    have bz625785 : gB z625785 2 41 := ⟨by omega, by omega⟩
                    refine G_iinc (L' := [(3, .int z625785), (4, .int o625668), (0, .ref q601770), (1, .ref q601771), (2, .int p601772)]) z625785 1 dr_cX17_giveAll_201 rfl hz625785.symm (Nat.le_of_ble_eq_true rfl) rfl ?_
                    refine G_goto 28 dr_cX17_giveAll_204 (by decide +kernel) ?_
                    refine G_lv (L' := [(3, .int z625785), (0, .ref q601770), (1, .ref q601771), (2, .int p601772)]) [0, 2, 3, 4] rfl ?_
                    have ac625786 : (fI (F625719 q601770) 11).toInt = p625739.toInt := by rw [he625734]; rfl
                    have ac625787 : (fI (F625719 q601770) 14).toInt = p625742.toInt := by rw [he625734]; rfl
                    exact ih28_623906 P625718 F625719 γ el z625785 (gB_w bz625785 (by decide) (by decide)) hT625724 hs625725 hph625730 hB625723 (by omega) (by omega) (by omega) (by omega) rni625784f mk625729 (by omega)
                  · have r625788 : o625713.toInt = 0 := gj_eq hc625782 (show Int32.toInt 0 = 0 by decide)
                    have bo625713' : gB o625713 0 0 := gB_t0 r625788
                    refine G_iconst (-1) dr_cX17_giveAll_199 (by decide +kernel) ?_
                    exact G_iretA dr_cX17_giveAll_200 rfl (show ((rPh γ el f - rPh γ0 el0 f) / 18) ≤ (((387 * B + 6000) - rPh γ0 el0 f) / 18) by omega) (show (rPh γ el f - rPh γ0 el0 f) ≤ ((387 * B + 6000) - rPh γ0 el0 f) by omega) ⟨P625718, F625719, γ, el, (-1), rfl, rfl, hs625725, ⟨by omega, by omega⟩, hB625723, (gB_w (gBl (show Int32.toInt (-1) = (-1) by decide)) (by decide) (by decide)), (by have qa0 : Int32.toInt (-1) = (-1) := (by decide); omega), mk625729⟩
                · have r625789 : o625668.toInt = 0 := gj_eq hc625684 (show Int32.toInt 0 = 0 by decide)
                  have bo625668' : gB o625668 0 0 := ⟨by omega, by omega⟩
                  have cq625790 : rPl γ el F625672 q601771 (γ 6 f) (cqR (cB (F625672 (γ0 9 17))) 0 0) := cq_0 gr625681 (fun m hm => by have z := x625669 (by omega); rw [congrFun (rSk_9 hs625675) 3, congrFun (rSk_9 hs625675) 17] at z; exact z m hm)
                  refine G_iconst 0 dr_cX17_giveAll_87 (by decide +kernel) ?_
                  refine G_istore (L' := [(5, .int 0), (4, .int o625668), (3, .int g623894), (0, .ref q601770), (1, .ref q601771), (2, .int p601772)]) dr_cX17_giveAll_88 (Nat.le_of_ble_eq_true rfl) rfl ?_
                  have hlp90_626387 : ∀ (n90_626387 : Nat) (P626375 : List Nat) (F626376 : Nat → va_E) (γ el : Nat → Nat → Nat) (g626374 : Int32), gB g626374 0 1000000 → RS D I P626375 F626376 γ el → rSk f [101] ([1, 3, 5, 6, 8, 9, 101] ++ npk) D I P601768 F601769 γ0 el0 P626375 F626376 γ el → rPh γ0 el0 f ≤ rPh γ el f → rBd γ el f B → γ 6 f = γ0 6 f → ((γ 7 f : Nat) : Int) = (fI (F626376 q601770) 11).toInt → ((γ 16 f : Nat) : Int) + 2000 ≤ (B : Int) + (fI (F626376 q601770) 14).toInt → 100 ≤ (fI (F626376 q601770) 14).toInt → (F626376 (γ0 9 17) = F625672 (γ0 9 17)) → rPl γ el F626376 q601771 (γ 6 f) (cqR (cB (F625672 (γ0 9 17))) (g626374.toInt : Int).toNat 0) → mKp (F601769 q601770) (F626376 q601770) → ((1000001 : Int) - g626374.toInt).toNat < n90_626387 → G (gV D I) l (gRm 10 224 (((387 * B + 6000) - rPh γ0 el0 f) / 18) ((387 * B + 6000) - rPh γ0 el0 f)) (gMA (gV D I) (pg_601776_SpillForgeModel_giveAll D I γ0 el0 f B P601768 F601769 q601770 q601771 p601772) gNA (((387 * B + 6000) - rPh γ0 el0 f) / 18) ((387 * B + 6000) - rPh γ0 el0 f)) ky_601776_SpillForgeModel_giveAll 90 [(5, .int g626374), (4, .int o625668), (3, .int g623894), (0, .ref q601770), (1, .ref q601771), (2, .int p601772)] [] (va_pl P626375 F626376) ((rPh γ el f - rPh γ0 el0 f) / 18) (rPh γ el f - rPh γ0 el0 f) := by
                    intro n90_626387
                    induction n90_626387 with
                    | zero => intro P626375 F626376 γ el g626374 bg626374 hT626377 hs626378 hph626379 hB626380 x626381 x626382 x626383 x626384 x626385 x626386 x626387 hm90_626387; exact absurd hm90_626387 (Nat.not_lt_zero _)
                    | succ n90_626387 ih90_626387 =>
                      intro P626375 F626376 γ el g626374 bg626374 hT626377 hs626378 hph626379 hB626380 x626381 x626382 x626383 x626384 x626385 x626386 x626387 hm90_626387
                      clear hr625578 hr625579 hph625587 pk625588 r625589 r625642
                      have ht626389 : rKd γ q601770 10 := rSk_k hs626378 hzq601770 (by decide) (by decide)
                      have ht626390 : rKd γ q601771 9 := rSk_k hs626378 hzq601771 (by decide) (by decide)
                      have hf626391 : γ 1 q601771 = f := rSk_1 hs626378 hzq601771 (by decide) hf0
                      have pk626392 : rPh γ el f ≤ 387 * B + 6000 := rm_pk (rM_ge hT626377 ht626390 hf626391).1 (rM_bd hB626380)
                      have r626393 : 0 < γ 6 (γ 1 q601771) := by rw [hf626391]; omega
                      have hm626394 : q601770 ∈ P626375 := RS_m hT626377 ht626389 (by decide)
                      refine rk10_e (show rk_10 γ (F626376 q601770) from RS_o hT626377 ht626389) (fun q626396 q626397 p626398 p626399 p626400 p626401 p626402 p626403 p626404 p626405 p626406 p626407 p626408 p626409 p626410 p626411 p626412 he626395 hB626439 ht626413 ht626414 ht626415 ht626416 ht626417 ht626418 ht626419 ht626420 ht626421 ht626422 ht626423 ht626424 ht626425 ht626426 ht626427 ht626428 ht626429 ht626430 ht626431 ht626432 ht626433 ht626434 ht626435 ht626436 hB626440 => ?_)
                      have ac626441 : (fI (F626376 q601770) 11).toInt = p626400.toInt := by rw [he626395]; rfl
                      have bp626400 : gB p626400 0 100 := (hB626439.2.2.1)
                      have ac626442 : (fI (F626376 q601770) 14).toInt = p626403.toInt := by rw [he626395]; rfl
                      have bp626403 : gB p626403 0 2000 := (hB626439.2.2.2.1)
                      refine G_iload 0 dr_cX17_giveAll_90 rfl ?_
                      refine G_aload_n 4 dr_cX17_giveAll_92 rfl ?_
                      have hm626443 : q601771 ∈ P626375 := RS_m hT626377 ht626390 (by decide)
                      obtain ⟨q626445, q626446, p626447, p626448, he626444, ht626464, ht626449, ht626450, ht626451, ht626452, r626453, r626454, r626455, r626456, r626457, r626458, r626459, r626460, r626461, r626462, r626463⟩ := show rk_9 γ el q601771 (F626376 q601771) from RS_o hT626377 ht626390
                      have bp626447 : gB p626447 0 1000000 := ⟨by omega, by omega⟩
                      have bp626448 : gB p626448 0 1000000 := ⟨by omega, by omega⟩
                      have hf626465 : γ 1 q626445 = f := (show γ 1 q626445 = γ 1 q601771 from ht626450).trans hf626391
                      have hf626466 : γ 1 q626446 = f := (show γ 1 q626446 = γ 1 q601771 from ht626452).trans hf626391
                      have r626467 : γ 6 (γ 1 q601771) = γ 6 f := by rw [hf626391]
                      have r626468 : γ 16 (γ 1 q601771) = γ 16 f := by rw [hf626391]
                      have r626469 : p626448.toInt = γ 6 f ∧ p626448.toInt ≤ 40 := by omega
                      clear r626459
                      refine Gw_callV (As := []) (gV_ok D I) (cp_12451_Code_size l hl0 D I P626375 F626376 q601771 q626445 q626446 p626447 p626448 hm626443 he626444) dr_cX17_giveAll_93 ⟨wr_10_160, wr_1_15, wr_9_131, by decide, rfl, (Nat.le_of_ble_eq_true rfl), (Nat.le_of_ble_eq_true rfl)⟩ wr_9_129 wr_9_130 hm626443 he626444 rfl (rm_zc pk626392) (rm_zs pk626392) (Nat.le_of_ble_eq_true rfl) (fun r626473 w626474 dc626470 ds626471 hp626472 => ?_) (fun _ _ _ _ _ z => z.elim)
                      obtain ⟨rfl, rfl, hdc, hds⟩ := hp626472
                      change G _ _ _ _ _ _ _ (.int p626448 :: _) _ _ _
                      refine G_widen (cs' := ((rPh γ el f - rPh γ0 el0 f) / 18)) (sl' := (rPh γ el f - rPh γ0 el0 f)) (rm_d0 hdc) (rm_d0 hds) ?_
                      refine G_icmp_ge 173 dr_cX17_giveAll_96 (by decide +kernel) (fun hc626475 => ?_) (fun hc626475 => ?_)
                      · have r626476 : p626448.toInt ≤ g626374.toInt := gC_le hc626475
                        have r626477 : γ 7 (γ 1 q601771) = γ 7 f := by rw [hf626391]
                        have ac626478 : (fI (F626376 q601770) 11).toInt = p626400.toInt := by rw [he626395]; rfl
                        have ac626479 : (fI (F626376 q601770) 14).toInt = p626403.toInt := by rw [he626395]; rfl
                        refine G_aload_n 3 dr_cX17_giveAll_173 rfl ?_
                        refine G_aload_n 4 dr_cX17_giveAll_174 rfl ?_
                        refine Gw_callV (As := [.ref q601771]) (gV_ok D I) (ct_335053_SpillForgeModel_share l hl0 D I γ el P626375 F626376 q601770 q601771 hT626377 ht626389 ht626390 (by omega) (by omega)) dr_cX17_giveAll_175 ⟨wr_11_59, wr_1_14, wr_11_62, by decide, rfl, (Nat.le_of_ble_eq_true rfl), (Nat.le_of_ble_eq_true rfl)⟩ wr_11_61 wr_p_109 hm626394 he626395 rfl (rm_zc pk626392) (rm_zs pk626392) (Nat.le_of_ble_eq_true rfl) (fun r626483 w626484 dc626480 ds626481 hp626482 => ?_) (fun _ _ _ _ _ z => z.elim)
                        obtain ⟨F626486, rfl, rfl, hT626487, hs626488, hdc, hds, x626485⟩ := hp626482
                        have he626489 : F626486 q601771 = .inr (18, [.ref q626445, .ref q626446, .int p626447, .int p626448]) := (hs626488 q601771 (rT0 ht626390 (by decide)) (rT1 ht626390 (by decide)) (rT2 ht626390 (by decide))).trans he626444
                        have hs626490 := rSk_str hs626378 hT626487 hs626488 (by decide) (by decide) (by decide)
                        have mk626491 : mKp (F601769 q601770) (F626486 q601770) := mKp_tr x626387 x626485
                        change G _ _ _ _ _ _ _ _ _ _ _
                        refine G_widen (cs' := ((rPh γ el f - rPh γ0 el0 f) / 18)) (sl' := (rPh γ el f - rPh γ0 el0 f)) (rm_d0 hdc) (rm_d0 hds) ?_
                        refine G_iload_n 2 dr_cX17_giveAll_178 rfl ?_
                        exact G_iretA dr_cX17_giveAll_179 rfl (show ((rPh γ el f - rPh γ0 el0 f) / 18) ≤ (((387 * B + 6000) - rPh γ0 el0 f) / 18) by omega) (show (rPh γ el f - rPh γ0 el0 f) ≤ ((387 * B + 6000) - rPh γ0 el0 f) by omega) ⟨P626375, F626486, γ, el, g623894, rfl, rfl, hs626490, ⟨by omega, by omega⟩, hB626380, (gB_w bg623894' (by decide) (by decide)), (by omega), mk626491⟩
                      · have r626492 : g626374.toInt < p626448.toInt := gC_nle hc626475
                        have bg626374' : gB g626374 0 999999 := ⟨by omega, by omega⟩
                        have bp626448' : gB p626448 1 1000000 := ⟨by omega, by omega⟩
                        refine G_aload_n 4 dr_cX17_giveAll_99 rfl ?_
                        refine G_iload 0 dr_cX17_giveAll_100 rfl ?_
                        have hm626493 : q626445 ∈ P626375 := RS_m hT626377 ht626449 (by decide)
                        obtain ⟨⟨p626495, p626496, q626497, he626494, r626498, r626499, r626500, r626502⟩, r626501⟩ := show rk_4 D I γ el F626376 q626445 from RS_o hT626377 ht626449
                        have bp626495 := gB_any p626495
                        have bp626496 : gB p626496 0 1000000 := ⟨by omega, by omega⟩
                        obtain ⟨r626503, r626504, n626511, f626512, r626505, r626506, r626507, r626508, r626509, r626510⟩ := rLC_n r626500 (by omega)
                        have hm626513 : q626497 ∈ P626375 := RS_m hT626377 r626503 (by decide)
                        obtain ⟨q626514, hx626515⟩ : ∃ x, x = el q626445 g626374.toInt.toNat := ⟨_, rfl⟩
                        have hx626516 : f626512 g626374.toNatClampNeg = some q626514 := (r626509 _ (show g626374.toInt.toNat < γ 2 q626445 by first | assumption | omega)).trans (by rw [hx626515])
                        have ht626519 : rKd γ q626514 2 := by rw [hx626515]; exact (r626460 _ (by omega)).resolve_right (fun z => absurd z.1 (by omega))
                        have ht626520 : rFm γ q626514 q626445 := by rw [hx626515]; exact (r626501 _ (show g626374.toInt.toNat < γ 2 q626445 by omega)).2.1
                        have hm626521 : q626514 ∈ P626375 := RS_m hT626377 ht626519 (by decide)
                        obtain ⟨q626523, q626524, p626525, p626526, he626522, ht626533, ht626527, ht626528, ht626529, ht626530, ht626531, bp626525, bp626526, r626532, r626534, r626535⟩ := show rk_2 γ q626514 (F626376 q626514) from RS_o hT626377 ht626519
                        refine Gw_callV (As := [.int g626374]) (gV_ok D I) (cp_7723_Code_get l hl0 D I P626375 F626376 q601771 q626445 q626497 g626374 q626446 p626447 p626448 p626495 p626496 f626512 n626511 q626514 q626523 q626524 p626525 p626526 hm626443 hm626493 hm626513 hm626521 he626444 he626494 r626505 he626522 (gB_w bg626374' (by decide) (by decide)) (gB_w bp626496 (by decide) (by decide)) (by omega) (by omega) (by assumption) (by omega)) dr_cX17_giveAll_102 ⟨wr_10_161, wr_1_15, wr_10_141, by decide, rfl, (Nat.le_of_ble_eq_true rfl), (Nat.le_of_ble_eq_true rfl)⟩ wr_10_139 wr_10_140 hm626443 he626444 rfl (rm_zc pk626392) (rm_zs pk626392) (Nat.le_of_ble_eq_true rfl) (fun r626539 w626540 dc626536 ds626537 hp626538 => ?_) (fun _ _ _ _ _ z => z.elim)
                        obtain ⟨rfl, rfl, hdc, hds⟩ := hp626538
                        change G _ _ _ _ _ _ _ (.ref q626514 :: _) _ _ _
                        refine G_widen (cs' := ((rPh γ el f - rPh γ0 el0 f) / 18)) (sl' := (rPh γ el f - rPh γ0 el0 f)) (rm_d0 hdc) (rm_d0 hds) ?_
                        have hf626541 : γ 1 q626514 = f := (show γ 1 q626514 = γ 1 q626445 from ht626520).trans ((show γ 1 q626445 = γ 1 q601771 from ht626450).trans hf626391)
                        have hf626542 : γ 1 q626523 = f := (show γ 1 q626523 = γ 1 q626514 from ht626528).trans hf626541
                        have hf626543 : γ 1 q626524 = f := (show γ 1 q626524 = γ 1 q626514 from ht626530).trans hf626541
                        have r626544 : γ 6 (γ 1 q626514) = γ 6 f := by rw [hf626541]
                        have r626545 : γ 7 (γ 1 q626514) = γ 7 f := by rw [hf626541]
                        have r626546 : γ 19 (γ 1 q626514) = γ 19 f := by rw [hf626541]
                        have r626547 := r626532.resolve_left (by omega)
                        clear r626532
                        have r626548 : γ 2 (γ 14 q626514) = γ 2 q626523 := by rw [ht626533.1]
                        have r626549 : g626374.toInt.toNat < γ 2 (γ 14 q601771) := by rw [ht626464.1]; omega
                        have r626550 : el (γ 14 q601771) g626374.toInt.toNat = q626514 := by rw [ht626464.1, hx626515]
                        refine G_astore (L' := [(6, .ref q626514), (5, .int g626374), (4, .int o625668), (3, .int g623894), (0, .ref q601770), (1, .ref q601771), (2, .int p601772)]) dr_cX17_giveAll_105 (Nat.le_of_ble_eq_true rfl) rfl ?_
                        refine G_iconst 0 dr_cX17_giveAll_107 (by decide +kernel) ?_
                        refine G_istore (L' := [(7, .int 0), (6, .ref q626514), (5, .int g626374), (4, .int o625668), (3, .int g623894), (0, .ref q601770), (1, .ref q601771), (2, .int p601772)]) dr_cX17_giveAll_108 (Nat.le_of_ble_eq_true rfl) rfl ?_
                        have hlp110_626772 : ∀ (n110_626772 : Nat) (P626754 : List Nat) (F626755 : Nat → va_E) (γ el : Nat → Nat → Nat) (g626753 : Int32), gB g626753 0 1000001 → RS D I P626754 F626755 γ el → rSk f [101] ([1, 3, 5, 6, 8, 9, 101] ++ npk) D I P601768 F601769 γ0 el0 P626754 F626755 γ el → rPh γ0 el0 f ≤ rPh γ el f → rBd γ el f B → rKd γ q626514 2 → γ 1 q626514 = f → g626374.toInt.toNat < γ 2 (γ 14 q601771) → el (γ 14 q601771) g626374.toInt.toNat = q626514 → γ 6 f = γ0 6 f → ((γ 7 f : Nat) : Int) = (fI (F626755 q601770) 11).toInt → ((γ 16 f : Nat) : Int) + 2000 ≤ (B : Int) + (fI (F626755 q601770) 14).toInt → 100 ≤ (fI (F626755 q601770) 14).toInt → (F626755 (γ0 9 17) = F625672 (γ0 9 17)) → rPl γ el F626755 q601771 (γ 6 f) (cqR (cB (F625672 (γ0 9 17))) (g626374.toInt : Int).toNat (g626753.toInt : Int).toNat) → (g626753.toInt : Int) ≤ γ 2 (γ 14 q626514) + 1 → (g626374.toInt : Int) < γ 6 f → mKp (F601769 q601770) (F626755 q601770) → ((1000002 : Int) - g626753.toInt).toNat < n110_626772 → G (gV D I) l (gRm 10 224 (((387 * B + 6000) - rPh γ0 el0 f) / 18) ((387 * B + 6000) - rPh γ0 el0 f)) (gMA (gV D I) (pg_601776_SpillForgeModel_giveAll D I γ0 el0 f B P601768 F601769 q601770 q601771 p601772) gNA (((387 * B + 6000) - rPh γ0 el0 f) / 18) ((387 * B + 6000) - rPh γ0 el0 f)) ky_601776_SpillForgeModel_giveAll 110 [(7, .int g626753), (6, .ref q626514), (5, .int g626374), (4, .int o625668), (3, .int g623894), (0, .ref q601770), (1, .ref q601771), (2, .int p601772)] [] (va_pl P626754 F626755) ((rPh γ el f - rPh γ0 el0 f) / 18) (rPh γ el f - rPh γ0 el0 f) := by
                          intro n110_626772
                          induction n110_626772 with
                          | zero => intro P626754 F626755 γ el g626753 bg626753 hT626756 hs626757 hph626758 hB626759 ht626760 hf626761 r626762 r626763 x626764 x626765 x626766 x626767 x626768 x626769 x626770 x626771 x626772 hm110_626772; exact absurd hm110_626772 (Nat.not_lt_zero _)
                          | succ n110_626772 ih110_626772 =>
                            intro P626754 F626755 γ el g626753 bg626753 hT626756 hs626757 hph626758 hB626759 ht626760 hf626761 r626762 r626763 x626764 x626765 x626766 x626767 x626768 x626769 x626770 x626771 x626772 hm110_626772
                            clear r626453 r626454 r626455 r626456 r626457 r626458 r626460 r626461 r626462 r626463 bp626447 bp626448 bp626525 bp626526 r626534 r626535 r626467 r626468 r626469 r626498 r626499 r626500 r626502 r626501 r626503 r626504 r626505 r626506 r626507 r626508 r626509 r626510 r626544 r626545 r626546 r626547 r626548 r626549 r626550
                            have ht626774 : rKd γ q601770 10 := rSk_k hs626757 hzq601770 (by decide) (by decide)
                            have ht626775 : rKd γ q601771 9 := rSk_k hs626757 hzq601771 (by decide) (by decide)
                            have hf626776 : γ 1 q601771 = f := rSk_1 hs626757 hzq601771 (by decide) hf0
                            have pk626777 : rPh γ el f ≤ 387 * B + 6000 := rm_pk (rM_ge hT626756 ht626775 hf626776).1 (rM_bd hB626759)
                            have r626778 : 0 < γ 6 (γ 1 q601771) := by rw [hf626776]; omega
                            have hm626779 : q601770 ∈ P626754 := RS_m hT626756 ht626774 (by decide)
                            refine rk10_e (show rk_10 γ (F626755 q601770) from RS_o hT626756 ht626774) (fun q626781 q626782 p626783 p626784 p626785 p626786 p626787 p626788 p626789 p626790 p626791 p626792 p626793 p626794 p626795 p626796 p626797 he626780 hB626824 ht626798 ht626799 ht626800 ht626801 ht626802 ht626803 ht626804 ht626805 ht626806 ht626807 ht626808 ht626809 ht626810 ht626811 ht626812 ht626813 ht626814 ht626815 ht626816 ht626817 ht626818 ht626819 ht626820 ht626821 hB626825 => ?_)
                            have ac626826 : (fI (F626755 q601770) 11).toInt = p626785.toInt := by rw [he626780]; rfl
                            have bp626785 : gB p626785 0 100 := (hB626824.2.2.1)
                            have ac626827 : (fI (F626755 q601770) 14).toInt = p626788.toInt := by rw [he626780]; rfl
                            have bp626788 : gB p626788 0 2000 := (hB626824.2.2.2.1)
                            refine G_iload 0 dr_cX17_giveAll_110 rfl ?_
                            refine G_aload 1 dr_cX17_giveAll_112 rfl ?_
                            have hm626828 : q626514 ∈ P626754 := RS_m hT626756 ht626760 (by decide)
                            obtain ⟨q626830, q626831, p626832, p626833, he626829, ht626840, ht626834, ht626835, ht626836, ht626837, ht626838, bp626832, bp626833, r626839, r626841, r626842⟩ := show rk_2 γ q626514 (F626755 q626514) from RS_o hT626756 ht626760
                            have hf626843 : γ 1 q626830 = f := (show γ 1 q626830 = γ 1 q626514 from ht626835).trans hf626761
                            have hf626844 : γ 1 q626831 = f := (show γ 1 q626831 = γ 1 q626514 from ht626837).trans hf626761
                            have r626845 : γ 6 (γ 1 q626514) = γ 6 f := by rw [hf626761]
                            have r626846 : γ 7 (γ 1 q626514) = γ 7 f := by rw [hf626761]
                            have r626847 : γ 19 (γ 1 q626514) = γ 19 f := by rw [hf626761]
                            have r626848 := r626839.resolve_left (by omega)
                            clear r626839
                            have r626849 : γ 2 (γ 14 q626514) = γ 2 q626830 := by rw [ht626840.1]
                            refine Gp_get 0 hm626828 he626829 dr_cX17_giveAll_114 (gk_X12 D I) (Nat.le_of_ble_eq_true rfl) wr_9_220 rfl ?_
                            have hm626850 : q626830 ∈ P626754 := RS_m hT626756 ht626834 (by decide)
                            obtain ⟨⟨p626852, p626853, q626854, he626851, r626855, r626856, r626857, r626859⟩, r626858⟩ := show rk_3 D I γ el F626755 q626830 from RS_o hT626756 ht626834
                            have bp626852 := gB_any p626852
                            have bp626853 : gB p626853 0 1000000 := ⟨by omega, by omega⟩
                            refine Gw_callV (As := []) (gV_ok D I) (cp_7_ArrayList_size l hl0 D I P626754 F626755 q626830 p626852 q626854 p626853 hm626850 he626851 (gB_w bp626853 (by decide) (by decide))) dr_cX17_giveAll_117 ⟨wr_10_200, wr_1_18, wr_9_160, by decide, rfl, (Nat.le_of_ble_eq_true rfl), (Nat.le_of_ble_eq_true rfl)⟩ wr_9_158 wr_9_159 hm626850 he626851 rfl (rm_zc pk626777) (rm_zs pk626777) (Nat.le_of_ble_eq_true rfl) (fun r626863 w626864 dc626860 ds626861 hp626862 => ?_) (fun _ _ _ _ _ z => z.elim)
                            obtain ⟨rfl, rfl, hdc, hds⟩ := hp626862
                            change G _ _ _ _ _ _ _ (.int p626853 :: _) _ _ _
                            refine G_widen (cs' := ((rPh γ el f - rPh γ0 el0 f) / 18)) (sl' := (rPh γ el f - rPh γ0 el0 f)) (rm_d0 hdc) (rm_d0 hds) ?_
                            refine G_icmp_gt 167 dr_cX17_giveAll_120 (by decide +kernel) (fun hc626865 => ?_) (fun hc626865 => ?_)
                            · have r626866 : p626853.toInt < g626753.toInt := gC_lt hc626865
                              have bg626753' : gB g626753 1 1000001 := ⟨by omega, by omega⟩
                              obtain ⟨z626867, hz626867⟩ : ∃ z : Int32, z = g626374 + Int32.ofInt 1 := ⟨_, rfl⟩
                              have ez626867 : z626867.toInt = g626374.toInt + 1 := gI_inc hz626867 (by decide) bg626374' (by decide) (by decide)
                              have bz626867 : gB z626867 1 1000000 := ⟨by omega, by omega⟩
                              refine G_iinc (L' := [(5, .int z626867), (7, .int g626753), (6, .ref q626514), (4, .int o625668), (3, .int g623894), (0, .ref q601770), (1, .ref q601771), (2, .int p601772)]) z626867 2 dr_cX17_giveAll_167 rfl hz626867.symm (Nat.le_of_ble_eq_true rfl) rfl ?_
                              refine G_goto 90 dr_cX17_giveAll_170 (by decide +kernel) ?_
                              refine G_lv (L' := [(5, .int z626867), (4, .int o625668), (3, .int g623894), (0, .ref q601770), (1, .ref q601771), (2, .int p601772)]) [0, 3, 4, 5, 6, 7] rfl ?_
                              have ac626868 : (fI (F626755 q601770) 11).toInt = p626785.toInt := by rw [he626780]; rfl
                              have ac626869 : (fI (F626755 q601770) 14).toInt = p626788.toInt := by rw [he626780]; rfl
                              exact ih90_626387 P626754 F626755 γ el z626867 (gB_w bz626867 (by decide) (by decide)) hT626756 hs626757 hph626758 hB626759 (by omega) (by omega) (by omega) (by omega) x626768 (cq_nx x626769 (by omega)) x626772 (by omega)
                            · have r626870 : g626753.toInt ≤ p626853.toInt := gC_nlt hc626865
                              have bg626753' : gB g626753 0 1000000 := ⟨by omega, by omega⟩
                              refine G_aload_n 5 dr_cX17_giveAll_123 rfl ?_
                              refine G_iload 0 dr_cX17_giveAll_124 rfl ?_
                              refine G_aload 1 dr_cX17_giveAll_126 rfl ?_
                              refine Gp_get 0 hm626828 he626829 dr_cX17_giveAll_128 (gk_X12 D I) (Nat.le_of_ble_eq_true rfl) wr_9_220 rfl ?_
                              refine Gw_callV (As := []) (gV_ok D I) (cp_7_ArrayList_size l hl0 D I P626754 F626755 q626830 p626852 q626854 p626853 hm626850 he626851 (gB_w bp626853 (by decide) (by decide))) dr_cX17_giveAll_131 ⟨wr_10_200, wr_1_18, wr_9_160, by decide, rfl, (Nat.le_of_ble_eq_true rfl), (Nat.le_of_ble_eq_true rfl)⟩ wr_9_158 wr_9_159 hm626850 he626851 rfl (rm_zc pk626777) (rm_zs pk626777) (Nat.le_of_ble_eq_true rfl) (fun r626874 w626875 dc626871 ds626872 hp626873 => ?_) (fun _ _ _ _ _ z => z.elim)
                              obtain ⟨rfl, rfl, hdc, hds⟩ := hp626873
                              change G _ _ _ _ _ _ _ (.int p626853 :: _) _ _ _
                              refine G_widen (cs' := ((rPh γ el f - rPh γ0 el0 f) / 18)) (sl' := (rPh γ el f - rPh γ0 el0 f)) (rm_d0 hdc) (rm_d0 hds) ?_
                              refine G_icmp_ge 153 dr_cX17_giveAll_134 (by decide +kernel) (fun hc626876 => ?_) (fun hc626876 => ?_)
                              · have r626877 : p626853.toInt ≤ g626753.toInt := gC_le hc626876
                                refine G_aload 1 dr_cX17_giveAll_153 rfl ?_
                                refine Gp_get 1 hm626828 he626829 dr_cX17_giveAll_155 (gk_X12 D I) (Nat.le_of_ble_eq_true rfl) wr_9_223 rfl ?_
                                have fl626880 : p626853.toInt = γ 2 q626830 := r626855
                                have hp626878 : rAt γ el q601771 (g626374.toInt : Int).toNat (g626753.toInt : Int).toNat = q626831 := (rAt_e r626763 ht626840.1 (by omega)).trans ht626840.2.1
                                have hL626879 : (g626753.toInt : Int).toNat ≤ γ 2 (rwL γ el q601771 (g626374.toInt : Int).toNat) := by unfold rwL; rw [r626763, ht626840.1]; omega
                                have cn626881 : rNm (fun n => 0 ≤ (cB (F626755 (γ 9 17)) n).toInt) (F626755 q626831) := by rw [congrFun (rSk_9 hs626757) 17, x626768]; exact cq_at x626769 hp626878 (show (g626374.toInt : Int).toNat < γ 6 f by omega) hL626879
                                refine Gw_callV (As := [.ref q626831]) (gV_ok D I) (ct_334813_SpillForgeModel_coloured l hl0 D I γ el P626754 F626755 q601770 q626831 hT626756 ht626774 ht626836 (by omega)) dr_cX17_giveAll_158 ⟨wr_11_55, wr_1_14, wr_11_58, by decide, rfl, (Nat.le_of_ble_eq_true rfl), (Nat.le_of_ble_eq_true rfl)⟩ wr_11_57 wr_p_108 hm626779 he626780 rfl (rm_zc pk626777) (rm_zs pk626777) (Nat.le_of_ble_eq_true rfl) (fun r626885 w626886 dc626882 ds626883 hp626884 => ?_) (fun _ _ _ _ _ z => z.elim)
                                obtain ⟨F626891, rfl, rfl, hT626892, hs626893, hdc, hds, x626887, x626888, x626889, x626890⟩ := hp626884
                                have he626894 : F626891 q626514 = .inr (17, [.ref q626830, .ref q626831, .int p626832, .int p626833]) := (hs626893 q626514 (rT0 ht626760 (by decide)) (rT1 ht626760 (by decide)) (rT2 ht626760 (by decide))).trans he626829
                                have he626895 : F626891 q626830 = .inr (4, [.int p626852, .ref q626854, .int p626853]) := (hs626893 q626830 (rT0 ht626834 (by decide)) (rT1 ht626834 (by decide)) (rT2 ht626834 (by decide))).trans he626851
                                have hs626896 := rSk_str hs626757 hT626892 hs626893 (by decide) (by decide) (by decide)
                                have kp626897 : F626891 q601770 = F626755 q601770 := x626888
                                have kp626898 : F626891 (γ0 9 3) = F626755 (γ0 9 3) := (show F626891 (γ0 9 3) = F626755 (γ0 9 3) by rw [← congrFun (rSk_9 hs626896) 3]; exact x626889)
                                have kp626899 : F626891 (γ0 9 17) = F625672 (γ0 9 17) := ((show F626891 (γ0 9 17) = F626755 (γ0 9 17) by rw [← congrFun (rSk_9 hs626896) 17]; exact x626890)).trans x626768
                                have mk626900 : mKp (F601769 q601770) (F626891 q601770) := mKp_tr x626772 (mKp_eq x626888)
                                have he626901 : F626891 q601770 = .inr (22, [.ref (γ 9 0), .ref (γ 9 1), .ref (γ 9 2), .ref (γ 9 3), .ref (γ 9 4), .ref (γ 9 5), .ref (γ 9 6), .ref (γ 9 7), .ref (γ 9 8), .int p626783, .int p626784, .int p626785, .int p626786, .int p626787, .int p626788, .ref (γ 9 15), .ref (γ 9 16), .ref (γ 9 17), .ref (γ 9 18), .ref (γ 9 19), .ref (γ 9 20), .ref (γ 9 21), .ref (γ 9 22), .int p626789, .int p626790, .int p626791, .int p626792, .int p626793, .ref q626781, .ref (γ 9 29), .int p626794, .ref (γ 9 31), .int p626795, .int p626796, .int p626797, .ref q626782]) := (x626888).trans he626780
                                change G _ _ _ _ _ _ _ _ _ _ _
                                refine G_widen (cs' := ((rPh γ el f - rPh γ0 el0 f) / 18)) (sl' := (rPh γ el f - rPh γ0 el0 f)) (rm_d0 hdc) (rm_d0 hds) ?_
                                have cq626902 := cq_put (j1 := (g626753.toInt : Int).toNat + 1) hT626756 ht626775 hf626776 x626769 x626887 hp626878 (show (g626374.toInt : Int).toNat < γ 6 f by omega) hL626879 rfl
                                have ac626903 : (fI (F626891 q601770) 11).toInt = (fI (F626755 q601770) 11).toInt := by rw [kp626897]
                                have ac626904 : (fI (F626891 q601770) 14).toInt = (fI (F626755 q601770) 14).toInt := by rw [kp626897]
                                obtain ⟨z626905, hz626905⟩ : ∃ z : Int32, z = g626753 + Int32.ofInt 1 := ⟨_, rfl⟩
                                have ez626905 : z626905.toInt = g626753.toInt + 1 := gI_inc hz626905 (by decide) bg626753' (by decide) (by decide)
                                have bz626905 : gB z626905 1 1000001 := ⟨by omega, by omega⟩
                                refine G_iinc (L' := [(7, .int z626905), (6, .ref q626514), (5, .int g626374), (4, .int o625668), (3, .int g623894), (0, .ref q601770), (1, .ref q601771), (2, .int p601772)]) z626905 0 dr_cX17_giveAll_161 rfl hz626905.symm (Nat.le_of_ble_eq_true rfl) rfl ?_
                                refine G_goto 110 dr_cX17_giveAll_164 (by decide +kernel) ?_
                                have ac626906 : (fI (F626891 q601770) 11).toInt = p626785.toInt := by rw [he626901]; rfl
                                have ac626907 : (fI (F626891 q601770) 14).toInt = p626788.toInt := by rw [he626901]; rfl
                                exact ih110_626772 P626754 F626891 γ el z626905 (gB_w bz626905 (by decide) (by decide)) hT626892 hs626896 hph626758 hB626759 ht626760 hf626761 r626762 r626763 (by omega) (by omega) (by omega) (by omega) kp626899 (by rw [show (z626905.toInt : Int).toNat = ((g626753.toInt : Int).toNat + 1) by omega]; exact cq626902) (by omega) (by omega) mk626900 (by omega)
                              · have r626908 : g626753.toInt < p626853.toInt := gC_nle hc626876
                                have bg626753'' : gB g626753 0 999999 := ⟨by omega, by omega⟩
                                have bp626853' : gB p626853 1 1000000 := ⟨by omega, by omega⟩
                                refine G_aload 1 dr_cX17_giveAll_137 rfl ?_
                                refine Gp_get 0 hm626828 he626829 dr_cX17_giveAll_139 (gk_X12 D I) (Nat.le_of_ble_eq_true rfl) wr_9_220 rfl ?_
                                refine G_iload 0 dr_cX17_giveAll_142 rfl ?_
                                obtain ⟨r626909, r626910, n626917, f626918, r626911, r626912, r626913, r626914, r626915, r626916⟩ := rLC_n r626857 (by omega)
                                have hm626919 : q626854 ∈ P626754 := RS_m hT626756 r626909 (by decide)
                                obtain ⟨q626920, hx626921⟩ : ∃ x, x = el q626830 g626753.toInt.toNat := ⟨_, rfl⟩
                                have hx626922 : f626918 g626753.toNatClampNeg = some q626920 := (r626915 _ (show g626753.toInt.toNat < γ 2 q626830 by first | assumption | omega)).trans (by rw [hx626921])
                                have ht626923 : rKd γ q626920 1 := by rw [hx626921]; exact (r626858 _ (show g626753.toInt.toNat < γ 2 q626830 by first | assumption | omega)).1
                                have ht626924 : rFm γ q626920 q626830 := by rw [hx626921]; exact (r626858 _ (show g626753.toInt.toNat < γ 2 q626830 by first | assumption | omega)).2.1
                                have hf626925 : γ 1 q626920 = f := (show γ 1 q626920 = γ 1 q626830 from ht626924).trans hf626843
                                refine Gw_callV (As := [.int g626753]) (gV_ok D I) (cp_22_ArrayList_get l hl0 D I P626754 F626755 q626830 q626854 g626753 p626852 p626853 f626918 n626917 q626920 hm626850 hm626919 he626851 r626911 (gB_w bg626753'' (by decide) (by decide)) (gB_w bp626853' (by decide) (by decide)) (by omega) (by omega) (by assumption) (by omega)) dr_cX17_giveAll_144 ⟨wr_10_201, wr_1_18, wr_10_65, by decide, rfl, (Nat.le_of_ble_eq_true rfl), (Nat.le_of_ble_eq_true rfl)⟩ wr_10_63 wr_10_64 hm626850 he626851 rfl (rm_zc pk626777) (rm_zs pk626777) (Nat.le_of_ble_eq_true rfl) (fun r626929 w626930 dc626926 ds626927 hp626928 => ?_) (fun _ _ _ _ _ z => z.elim)
                                obtain ⟨rfl, rfl, hdc, hds⟩ := hp626928
                                change G _ _ _ _ _ _ _ (.ref q626920 :: _) _ _ _
                                refine G_widen (cs' := ((rPh γ el f - rPh γ0 el0 f) / 18)) (sl' := (rPh γ el f - rPh γ0 el0 f)) (rm_d0 hdc) (rm_d0 hds) ?_
                                have hm626931 : q626920 ∈ P626754 := RS_m hT626756 ht626923 (by decide)
                                obtain ⟨p626933, p626934, p626935, p626936, p626937, p626938, p626939, he626932, bp626933, bp626934, bp626937, bp626938, bp626939, r626940, r626941, r626942, r626943⟩ := show rk_1 γ q626920 (F626755 q626920) from RS_o hT626756 ht626923
                                have bp626935 := gB_any p626935
                                have bp626936 := gB_any p626936
                                have r626944 : γ 7 (γ 1 q626920) = γ 7 f := by rw [hf626925]
                                refine Gp_cast hm626931 he626932 rfl dr_cX17_giveAll_147 wr_10_202 (gr_cast 1 rfl) ?_
                                refine G_goto 158 dr_cX17_giveAll_150 (by decide +kernel) ?_
                                have fl626947 : p626853.toInt = γ 2 q626830 := r626855
                                have hp626945 : rAt γ el q601771 (g626374.toInt : Int).toNat (g626753.toInt : Int).toNat = q626920 := (rAt_r r626763 ht626840.1 (by omega)).trans (by rw [hx626921])
                                have hL626946 : (g626753.toInt : Int).toNat ≤ γ 2 (rwL γ el q601771 (g626374.toInt : Int).toNat) := by unfold rwL; rw [r626763, ht626840.1]; omega
                                have cn626948 : rNm (fun n => 0 ≤ (cB (F626755 (γ 9 17)) n).toInt) (F626755 q626920) := by rw [congrFun (rSk_9 hs626757) 17, x626768]; exact cq_at x626769 hp626945 (show (g626374.toInt : Int).toNat < γ 6 f by omega) hL626946
                                refine Gw_callV (As := [.ref q626920]) (gV_ok D I) (ct_334813_SpillForgeModel_coloured l hl0 D I γ el P626754 F626755 q601770 q626920 hT626756 ht626774 ht626923 (by omega)) dr_cX17_giveAll_158 ⟨wr_11_55, wr_1_14, wr_11_58, by decide, rfl, (Nat.le_of_ble_eq_true rfl), (Nat.le_of_ble_eq_true rfl)⟩ wr_11_57 wr_p_108 hm626779 he626780 rfl (rm_zc pk626777) (rm_zs pk626777) (Nat.le_of_ble_eq_true rfl) (fun r626952 w626953 dc626949 ds626950 hp626951 => ?_) (fun _ _ _ _ _ z => z.elim)
                                obtain ⟨F626958, rfl, rfl, hT626959, hs626960, hdc, hds, x626954, x626955, x626956, x626957⟩ := hp626951
                                have he626961 : F626958 q626514 = .inr (17, [.ref q626830, .ref q626831, .int p626832, .int p626833]) := (hs626960 q626514 (rT0 ht626760 (by decide)) (rT1 ht626760 (by decide)) (rT2 ht626760 (by decide))).trans he626829
                                have he626962 : F626958 q626830 = .inr (4, [.int p626852, .ref q626854, .int p626853]) := (hs626960 q626830 (rT0 ht626834 (by decide)) (rT1 ht626834 (by decide)) (rT2 ht626834 (by decide))).trans he626851
                                have he626963 : F626958 q626854 = .inl (I (.object "java/lang/Object"), n626917, .inr (.inr (.inr (.inr f626918)))) := (hs626960 q626854 (rT0 r626909 (by decide)) (rT1 r626909 (by decide)) (rT2 r626909 (by decide))).trans r626911
                                have hs626964 := rSk_str hs626757 hT626959 hs626960 (by decide) (by decide) (by decide)
                                have kp626965 : F626958 q601770 = F626755 q601770 := x626955
                                have kp626966 : F626958 (γ0 9 3) = F626755 (γ0 9 3) := (show F626958 (γ0 9 3) = F626755 (γ0 9 3) by rw [← congrFun (rSk_9 hs626964) 3]; exact x626956)
                                have kp626967 : F626958 (γ0 9 17) = F625672 (γ0 9 17) := ((show F626958 (γ0 9 17) = F626755 (γ0 9 17) by rw [← congrFun (rSk_9 hs626964) 17]; exact x626957)).trans x626768
                                have mk626968 : mKp (F601769 q601770) (F626958 q601770) := mKp_tr x626772 (mKp_eq x626955)
                                have he626969 : F626958 q601770 = .inr (22, [.ref (γ 9 0), .ref (γ 9 1), .ref (γ 9 2), .ref (γ 9 3), .ref (γ 9 4), .ref (γ 9 5), .ref (γ 9 6), .ref (γ 9 7), .ref (γ 9 8), .int p626783, .int p626784, .int p626785, .int p626786, .int p626787, .int p626788, .ref (γ 9 15), .ref (γ 9 16), .ref (γ 9 17), .ref (γ 9 18), .ref (γ 9 19), .ref (γ 9 20), .ref (γ 9 21), .ref (γ 9 22), .int p626789, .int p626790, .int p626791, .int p626792, .int p626793, .ref q626781, .ref (γ 9 29), .int p626794, .ref (γ 9 31), .int p626795, .int p626796, .int p626797, .ref q626782]) := (x626955).trans he626780
                                change G _ _ _ _ _ _ _ _ _ _ _
                                refine G_widen (cs' := ((rPh γ el f - rPh γ0 el0 f) / 18)) (sl' := (rPh γ el f - rPh γ0 el0 f)) (rm_d0 hdc) (rm_d0 hds) ?_
                                have cq626970 := cq_put (j1 := (g626753.toInt : Int).toNat + 1) hT626756 ht626775 hf626776 x626769 x626954 hp626945 (show (g626374.toInt : Int).toNat < γ 6 f by omega) hL626946 rfl
                                have ac626971 : (fI (F626958 q601770) 11).toInt = (fI (F626755 q601770) 11).toInt := by rw [kp626965]
                                have ac626972 : (fI (F626958 q601770) 14).toInt = (fI (F626755 q601770) 14).toInt := by rw [kp626965]
                                obtain ⟨z626973, hz626973⟩ : ∃ z : Int32, z = g626753 + Int32.ofInt 1 := ⟨_, rfl⟩
                                have ez626973 : z626973.toInt = g626753.toInt + 1 := gI_inc hz626973 (by decide) bg626753'' (by decide) (by decide)
                                have bz626973 : gB z626973 1 1000000 := ⟨by omega, by omega⟩
                                refine G_iinc (L' := [(7, .int z626973), (6, .ref q626514), (5, .int g626374), (4, .int o625668), (3, .int g623894), (0, .ref q601770), (1, .ref q601771), (2, .int p601772)]) z626973 0 dr_cX17_giveAll_161 rfl hz626973.symm (Nat.le_of_ble_eq_true rfl) rfl ?_
                                refine G_goto 110 dr_cX17_giveAll_164 (by decide +kernel) ?_
                                have ac626974 : (fI (F626958 q601770) 11).toInt = p626785.toInt := by rw [he626969]; rfl
                                have ac626975 : (fI (F626958 q601770) 14).toInt = p626788.toInt := by rw [he626969]; rfl
                                exact ih110_626772 P626754 F626958 γ el z626973 (gB_w bz626973 (by decide) (by decide)) hT626959 hs626964 hph626758 hB626759 ht626760 hf626761 r626762 r626763 (by omega) (by omega) (by omega) (by omega) kp626967 (by rw [show (z626973.toInt : Int).toNat = ((g626753.toInt : Int).toNat + 1) by omega]; exact cq626970) (by omega) (by omega) mk626968 (by omega)
                        have ac626976 : (fI (F626376 q601770) 11).toInt = p626400.toInt := by rw [he626395]; rfl
                        have ac626977 : (fI (F626376 q601770) 14).toInt = p626403.toInt := by rw [he626395]; rfl
                        exact hlp110_626772 (((1000002 : Int) - 0).toNat + 1) P626375 F626376 γ el 0 (gB_w (gBl (show Int32.toInt 0 = 0 by decide)) (by decide) (by decide)) hT626377 hs626378 hph626379 hB626380 ht626519 hf626541 r626549 r626550 (by have qa0 : Int32.toInt 0 = 0 := (by decide); omega) (by have qa0 : Int32.toInt 0 = 0 := (by decide); omega) (by have qa0 : Int32.toInt 0 = 0 := (by decide); omega) (by have qa0 : Int32.toInt 0 = 0 := (by decide); omega) x626385 (by have qa : Int32.toInt 0 = 0 := (by decide); rw [qa]; exact x626386) (by have qa0 : Int32.toInt 0 = 0 := (by decide); omega) (by have qa0 : Int32.toInt 0 = 0 := (by decide); omega) x626387 (Nat.lt_succ_self _)
                  have ac626978 : (fI (F625672 q601770) 11).toInt = p625596.toInt := by rw [he625679]; rfl
                  have ac626979 : (fI (F625672 q601770) 14).toInt = p625599.toInt := by rw [he625679]; rfl
                  exact hlp90_626387 (((1000001 : Int) - 0).toNat + 1) P625575 F625672 γ el 0 (gB_w (gBl (show Int32.toInt 0 = 0 by decide)) (by decide) (by decide)) hT625673 hs625675 hph625587 hB625580 (by have qa0 : Int32.toInt 0 = 0 := (by decide); omega) (by have qa0 : Int32.toInt 0 = 0 := (by decide); omega) (by have qa0 : Int32.toInt 0 = 0 := (by decide); omega) (by have qa0 : Int32.toInt 0 = 0 := (by decide); omega) rfl (by have qa : Int32.toInt 0 = 0 := (by decide); rw [qa]; exact cq625790) mk625678 (Nat.lt_succ_self _)
              · have r626980 : o625564.toInt ≠ 0 := gj_neq hc625640 (show Int32.toInt 0 = 0 by decide)
                have bo625564' : gB o625564 1 1 := gB_t1 bo625564 r626980
                refine G_aload_n 1 dr_cX17_giveAll_61 rfl ?_
                refine G_aload_n 2 dr_cX17_giveAll_62 rfl ?_
                refine G_iconst 0 dr_cX17_giveAll_63 (by decide +kernel) ?_
                refine Gw_callV (As := [.ref q601771, .int 0]) (gV_ok D I) (ct_269178_SpillForgeModel_graph l hl0 D I γ el P625575 F625576 q601770 q601771 0 hT625581 ht625583 ht625584 (gB_w (gBl (show Int32.toInt 0 = 0 by decide)) (by decide) (by decide)) (by omega)) dr_cX17_giveAll_64 ⟨wr_10_233, wr_1_14, wr_10_236, by decide, rfl, (Nat.le_of_ble_eq_true rfl), (Nat.le_of_ble_eq_true rfl)⟩ wr_10_235 wr_p_99 hm625590 he625591 rfl (rm_zc pk625588) (rm_zs pk625588) (Nat.le_of_ble_eq_true rfl) (fun r626984 w626985 dc626981 ds626982 hp626983 => ?_) (fun _ _ _ _ _ z => z.elim)
                obtain ⟨F626988, rfl, rfl, hT626989, hs626990, hdc, hds, x626986, x626987⟩ := hp626983
                have hs626991 := rSk_str hs625582 hT626989 hs626990 (by decide) (by decide) (by decide)
                have kp626992 : F626988 q601770 = F625576 q601770 := x626987
                have mk626993 : mKp (F601769 q601770) (F626988 q601770) := mKp_tr mk625586 (mKp_eq x626987)
                have he626994 : F626988 q601770 = .inr (22, [.ref (γ 9 0), .ref (γ 9 1), .ref (γ 9 2), .ref (γ 9 3), .ref (γ 9 4), .ref (γ 9 5), .ref (γ 9 6), .ref (γ 9 7), .ref (γ 9 8), .int p625594, .int p625595, .int p625596, .int p625597, .int p625598, .int p625599, .ref (γ 9 15), .ref (γ 9 16), .ref (γ 9 17), .ref (γ 9 18), .ref (γ 9 19), .ref (γ 9 20), .ref (γ 9 21), .ref (γ 9 22), .int p625600, .int p625601, .int p625602, .int p625603, .int p625604, .ref q625592, .ref (γ 9 29), .int p625605, .ref (γ 9 31), .int p625606, .int p625607, .int p625608, .ref q625593]) := (x626987).trans he625591
                rw [show Int32.toInt 0 = 0 from by decide] at x626986
                change G _ _ _ _ _ _ _ _ _ _ _
                refine G_widen (cs' := ((rPh γ el f - rPh γ0 el0 f) / 18)) (sl' := (rPh γ el f - rPh γ0 el0 f)) (rm_d0 hdc) (rm_d0 hds) ?_
                have ni626995 : rNI γ el F626988 q601771 (γ 6 f) (fI (F626988 q601770) 11).toInt := rNI_s (rNI_str hT625581 ht625584 hf625585 hs626990 (by decide) ni625639) (by rw [x626987])
                have gr626996 : rGr γ el F626988 q601771 (γ 6 f) (cB (F626988 (γ0 9 3))) (vA (γ 6 f)) := by have z := x626986 (by decide); rw [hf625585] at z; rw [← congrFun (rSk_9 hs626991) 3]; exact gq_str hT625581 ht625584 hf625585 hs626990 (by decide) z
                have ac626997 : (fI (F626988 q601770) 11).toInt = (fI (F625576 q601770) 11).toInt := by rw [kp626992]
                have ac626998 : (fI (F626988 q601770) 14).toInt = (fI (F625576 q601770) 14).toInt := by rw [kp626992]
                refine G_goto 52 dr_cX17_giveAll_67 (by decide +kernel) ?_
                have ac626999 : (fI (F626988 q601770) 11).toInt = p625596.toInt := by rw [he626994]; rfl
                have ac627000 : (fI (F626988 q601770) 14).toInt = p625599.toInt := by rw [he626994]; rfl
                exact ih52_625499 P625575 F626988 γ el hT626989 hs626991 hph625587 hB625580 (by omega) (by omega) (by omega) (by omega) ni626995 gr626996 mk626993 (by have z := x625569.resolve_left (by omega); omega)
          have ac627001 : (fI (F624007 q601770) 11).toInt = p623919.toInt := by rw [he624014]; rfl
          have ac627002 : (fI (F624007 q601770) 14).toInt = p623922.toInt := by rw [he624014]; rfl
          exact hlp52_625499 (rsum (fun i => γ 2 (γ 14 (el (γ 14 q601771) i))) (γ 6 f) + 1) P623895 F624007 γ el hT624008 hs624011 hph623899 hB623900 (by omega) (by omega) (by omega) (by omega) ni624015 gr624016 mk624013 (Nat.lt_succ_self _)
        · have r627003 : 4000 < o623997.toInt := gj_nle hc623998 (show Int32.toInt 4000 = 4000 by decide)
          have bo623997' : gB o623997 4001 2147483647 := ⟨by omega, by omega⟩
          refine G_iconst (-1) dr_cX17_giveAll_44 (by decide +kernel) ?_
          exact G_iretA dr_cX17_giveAll_45 rfl (show ((rPh γ el f - rPh γ0 el0 f) / 18) ≤ (((387 * B + 6000) - rPh γ0 el0 f) / 18) by omega) (show (rPh γ el f - rPh γ0 el0 f) ≤ ((387 * B + 6000) - rPh γ0 el0 f) by omega) ⟨P623895, F623896, γ, el, (-1), rfl, rfl, hs623898, ⟨by omega, by omega⟩, hB623900, (gB_w (gBl (show Int32.toInt (-1) = (-1) by decide)) (by decide) (by decide)), (by have qa0 : Int32.toInt (-1) = (-1) := (by decide); omega), x623906⟩
  have ac627004 : (fI (F601880 q601770) 11).toInt = p601902.toInt := by rw [he601897]; rfl
  have ac627005 : (fI (F601880 q601770) 14).toInt = p601905.toInt := by rw [he601897]; rfl
  exact hlp28_623906 (((42 : Int) - 1).toNat + 1) P601879 F601880 γ el 1 (gB_w (gBl (show Int32.toInt 1 = 1 by decide)) (by decide) (by decide)) hT601885 hs601886 hph601891 hB601884 (by have qa0 : Int32.toInt 1 = 1 := (by decide); omega) (by have qa0 : Int32.toInt 1 = 1 := (by decide); omega) (by have qa0 : Int32.toInt 1 = 1 := (by decide); omega) (by have qa0 : Int32.toInt 1 = 1 := (by decide); omega) ni601945 mk601890 (Nat.lt_succ_self _)
