theorem dr_cX17_giveAll_0 : decode cX17_giveAll 0 = .ok (.aload_n 0, 1) := by decide +kernel
theorem dr_cX17_giveAll_1 : decode cX17_giveAll 1 = .ok (.iconst 0, 1) := by decide +kernel
theorem dr_cX17_giveAll_2 : decode cX17_giveAll 2 = .ok (.putfield 224, 3) := by decide +kernel
theorem dr_cX17_giveAll_5 : decode cX17_giveAll 5 = .ok (.aload_n 0, 1) := by decide +kernel
theorem dr_cX17_giveAll_6 : decode cX17_giveAll 6 = .ok (.iconst 0, 1) := by decide +kernel
theorem dr_cX17_giveAll_7 : decode cX17_giveAll 7 = .ok (.putfield 237, 3) := by decide +kernel
theorem dr_cX17_giveAll_10 : decode cX17_giveAll 10 = .ok (.aload_n 0, 1) := by decide +kernel
theorem dr_cX17_giveAll_11 : decode cX17_giveAll 11 = .ok (.iconst 0, 1) := by decide +kernel
theorem dr_cX17_giveAll_12 : decode cX17_giveAll 12 = .ok (.putfield 195, 3) := by decide +kernel
theorem dr_cX17_giveAll_15 : decode cX17_giveAll 15 = .ok (.aload_n 0, 1) := by decide +kernel
theorem dr_cX17_giveAll_16 : decode cX17_giveAll 16 = .ok (.bipush 100, 2) := by decide +kernel
theorem dr_cX17_giveAll_18 : decode cX17_giveAll 18 = .ok (.putfield 231, 3) := by decide +kernel
theorem dr_cX17_giveAll_21 : decode cX17_giveAll 21 = .ok (.aload_n 0, 1) := by decide +kernel
theorem dr_cX17_giveAll_22 : decode cX17_giveAll 22 = .ok (.aload_n 1, 1) := by decide +kernel
theorem dr_cX17_giveAll_23 : decode cX17_giveAll 23 = .ok (.invokevirtual 240, 3) := by decide +kernel
theorem dr_cX17_giveAll_26 : decode cX17_giveAll 26 = .ok (.iconst 1, 1) := by decide +kernel
theorem dr_cX17_giveAll_27 : decode cX17_giveAll 27 = .ok (.istore_n 3, 1) := by decide +kernel
theorem dr_cX17_giveAll_28 : decode cX17_giveAll 28 = .ok (.iload_n 3, 1) := by decide +kernel
theorem dr_cX17_giveAll_29 : decode cX17_giveAll 29 = .ok (.bipush 40, 2) := by decide +kernel
theorem dr_cX17_giveAll_31 : decode cX17_giveAll 31 = .ok (.if_icmp .gt 176, 3) := by decide +kernel
theorem dr_cX17_giveAll_207 : decode cX17_giveAll 207 = .ok (.iconst (-1), 1) := by decide +kernel
theorem dr_cX17_giveAll_208 : decode cX17_giveAll 208 = .ok (.ireturn, 1) := by decide +kernel
theorem dr_cX17_giveAll_34 : decode cX17_giveAll 34 = .ok (.aload_n 1, 1) := by decide +kernel
theorem dr_cX17_giveAll_35 : decode cX17_giveAll 35 = .ok (.invokevirtual 234, 3) := by decide +kernel
theorem dr_cX17_giveAll_38 : decode cX17_giveAll 38 = .ok (.sipush 4000, 3) := by decide +kernel
theorem dr_cX17_giveAll_41 : decode cX17_giveAll 41 = .ok (.if_icmp .le 5, 3) := by decide +kernel
theorem dr_cX17_giveAll_46 : decode cX17_giveAll 46 = .ok (.aload_n 0, 1) := by decide +kernel
theorem dr_cX17_giveAll_47 : decode cX17_giveAll 47 = .ok (.aload_n 1, 1) := by decide +kernel
theorem dr_cX17_giveAll_48 : decode cX17_giveAll 48 = .ok (.iconst 0, 1) := by decide +kernel
theorem dr_cX17_giveAll_49 : decode cX17_giveAll 49 = .ok (.invokevirtual 243, 3) := by decide +kernel
theorem dr_cX17_giveAll_52 : decode cX17_giveAll 52 = .ok (.aload_n 0, 1) := by decide +kernel
theorem dr_cX17_giveAll_53 : decode cX17_giveAll 53 = .ok (.aload_n 1, 1) := by decide +kernel
theorem dr_cX17_giveAll_54 : decode cX17_giveAll 54 = .ok (.iload_n 2, 1) := by decide +kernel
theorem dr_cX17_giveAll_55 : decode cX17_giveAll 55 = .ok (.invokevirtual 246, 3) := by decide +kernel
theorem wr_11_8 : (Jvm.Cond.methodLink "SpillForgeModel" (246 : Nat) ({ cls := "SpillForgeModel", name := "merge", desc := "(LSpillForgeModel$Code;I)Z" } : Jvm.MethodName)) ∈ gw := gw_11 8 rfl rfl
theorem wr_11_11 : (Jvm.Cond.code ({ cls := "SpillForgeModel", name := "merge", desc := "(LSpillForgeModel$Code;I)Z" } : Jvm.MethodName) prog_14_method_17_code (9 : Nat) (Option.some Jvm.ClassFile.FieldType.boolean)) ∈ gw := gw_11 11 rfl rfl
theorem wr_11_10 : (Jvm.Cond.instanceMethod ({ cls := "SpillForgeModel", name := "merge", desc := "(LSpillForgeModel$Code;I)Z" } : Jvm.MethodName)) ∈ gw := gw_11 10 rfl rfl
theorem wr_p_101 : Cond.selects "SpillForgeModel" ⟨"SpillForgeModel", "merge", "(LSpillForgeModel$Code;I)Z"⟩ ⟨"SpillForgeModel", "merge", "(LSpillForgeModel$Code;I)Z"⟩ ∈ gw := gw_p _ 101 rfl rfl rfl
theorem dr_cX17_giveAll_58 : decode cX17_giveAll 58 = .ok (.ifCond .eq 12, 3) := by decide +kernel
theorem dr_cX17_giveAll_70 : decode cX17_giveAll 70 = .ok (.aload_n 0, 1) := by decide +kernel
theorem dr_cX17_giveAll_71 : decode cX17_giveAll 71 = .ok (.aload_n 1, 1) := by decide +kernel
theorem dr_cX17_giveAll_72 : decode cX17_giveAll 72 = .ok (.invokevirtual 250, 3) := by decide +kernel
theorem dr_cX17_giveAll_75 : decode cX17_giveAll 75 = .ok (.aload_n 0, 1) := by decide +kernel
theorem dr_cX17_giveAll_76 : decode cX17_giveAll 76 = .ok (.iload_n 2, 1) := by decide +kernel
theorem dr_cX17_giveAll_77 : decode cX17_giveAll 77 = .ok (.invokevirtual 253, 3) := by decide +kernel
theorem wr_11_47 : (Jvm.Cond.methodLink "SpillForgeModel" (253 : Nat) ({ cls := "SpillForgeModel", name := "colours", desc := "(I)I" } : Jvm.MethodName)) ∈ gw := gw_11 47 rfl rfl
theorem wr_11_50 : (Jvm.Cond.code ({ cls := "SpillForgeModel", name := "colours", desc := "(I)I" } : Jvm.MethodName) prog_14_method_21_code (8 : Nat) (Option.some Jvm.ClassFile.FieldType.int)) ∈ gw := gw_11 50 rfl rfl
theorem wr_11_49 : (Jvm.Cond.instanceMethod ({ cls := "SpillForgeModel", name := "colours", desc := "(I)I" } : Jvm.MethodName)) ∈ gw := gw_11 49 rfl rfl
theorem wr_p_106 : Cond.selects "SpillForgeModel" ⟨"SpillForgeModel", "colours", "(I)I"⟩ ⟨"SpillForgeModel", "colours", "(I)I"⟩ ∈ gw := gw_p _ 106 rfl rfl rfl
theorem dr_cX17_giveAll_80 : decode cX17_giveAll 80 = .ok (.istore 4, 2) := by decide +kernel
theorem dr_cX17_giveAll_82 : decode cX17_giveAll 82 = .ok (.iload 4, 2) := by decide +kernel
theorem dr_cX17_giveAll_84 : decode cX17_giveAll 84 = .ok (.ifCond .ne 96, 3) := by decide +kernel
theorem dr_cX17_giveAll_180 : decode cX17_giveAll 180 = .ok (.aload_n 0, 1) := by decide +kernel
theorem dr_cX17_giveAll_181 : decode cX17_giveAll 181 = .ok (.dup, 1) := by decide +kernel
theorem dr_cX17_giveAll_182 : decode cX17_giveAll 182 = .ok (.getfield 237, 3) := by decide +kernel
theorem dr_cX17_giveAll_185 : decode cX17_giveAll 185 = .ok (.iload 4, 2) := by decide +kernel
theorem dr_cX17_giveAll_187 : decode cX17_giveAll 187 = .ok (.iadd, 1) := by decide +kernel
theorem dr_cX17_giveAll_188 : decode cX17_giveAll 188 = .ok (.putfield 237, 3) := by decide +kernel
theorem dr_cX17_giveAll_191 : decode cX17_giveAll 191 = .ok (.aload_n 0, 1) := by decide +kernel
theorem dr_cX17_giveAll_192 : decode cX17_giveAll 192 = .ok (.aload_n 1, 1) := by decide +kernel
theorem dr_cX17_giveAll_193 : decode cX17_giveAll 193 = .ok (.invokevirtual 263, 3) := by decide +kernel
theorem wr_11_63 : (Jvm.Cond.methodLink "SpillForgeModel" (263 : Nat) ({ cls := "SpillForgeModel", name := "spill", desc := "(LSpillForgeModel$Code;)Z" } : Jvm.MethodName)) ∈ gw := gw_11 63 rfl rfl
theorem wr_11_66 : (Jvm.Cond.code ({ cls := "SpillForgeModel", name := "spill", desc := "(LSpillForgeModel$Code;)Z" } : Jvm.MethodName) prog_14_method_22_code (10 : Nat) (Option.some Jvm.ClassFile.FieldType.boolean)) ∈ gw := gw_11 66 rfl rfl
theorem wr_11_65 : (Jvm.Cond.instanceMethod ({ cls := "SpillForgeModel", name := "spill", desc := "(LSpillForgeModel$Code;)Z" } : Jvm.MethodName)) ∈ gw := gw_11 65 rfl rfl
theorem wr_p_110 : Cond.selects "SpillForgeModel" ⟨"SpillForgeModel", "spill", "(LSpillForgeModel$Code;)Z"⟩ ⟨"SpillForgeModel", "spill", "(LSpillForgeModel$Code;)Z"⟩ ∈ gw := gw_p _ 110 rfl rfl rfl
theorem dr_cX17_giveAll_196 : decode cX17_giveAll 196 = .ok (.ifCond .ne 5, 3) := by decide +kernel
theorem dr_cX17_giveAll_201 : decode cX17_giveAll 201 = .ok (.iinc 3 1, 3) := by decide +kernel
theorem dr_cX17_giveAll_204 : decode cX17_giveAll 204 = .ok (.goto (-176), 3) := by decide +kernel
theorem dr_cX17_giveAll_199 : decode cX17_giveAll 199 = .ok (.iconst (-1), 1) := by decide +kernel
theorem dr_cX17_giveAll_200 : decode cX17_giveAll 200 = .ok (.ireturn, 1) := by decide +kernel
theorem dr_cX17_giveAll_87 : decode cX17_giveAll 87 = .ok (.iconst 0, 1) := by decide +kernel
theorem dr_cX17_giveAll_88 : decode cX17_giveAll 88 = .ok (.istore 5, 2) := by decide +kernel
theorem dr_cX17_giveAll_90 : decode cX17_giveAll 90 = .ok (.iload 5, 2) := by decide +kernel
theorem dr_cX17_giveAll_92 : decode cX17_giveAll 92 = .ok (.aload_n 1, 1) := by decide +kernel
theorem dr_cX17_giveAll_93 : decode cX17_giveAll 93 = .ok (.invokevirtual 96, 3) := by decide +kernel
theorem dr_cX17_giveAll_96 : decode cX17_giveAll 96 = .ok (.if_icmp .ge 77, 3) := by decide +kernel
theorem dr_cX17_giveAll_173 : decode cX17_giveAll 173 = .ok (.aload_n 0, 1) := by decide +kernel
theorem dr_cX17_giveAll_174 : decode cX17_giveAll 174 = .ok (.aload_n 1, 1) := by decide +kernel
theorem dr_cX17_giveAll_175 : decode cX17_giveAll 175 = .ok (.invokevirtual 260, 3) := by decide +kernel
theorem wr_11_59 : (Jvm.Cond.methodLink "SpillForgeModel" (260 : Nat) ({ cls := "SpillForgeModel", name := "share", desc := "(LSpillForgeModel$Code;)V" } : Jvm.MethodName)) ∈ gw := gw_11 59 rfl rfl
theorem wr_11_62 : (Jvm.Cond.code ({ cls := "SpillForgeModel", name := "share", desc := "(LSpillForgeModel$Code;)V" } : Jvm.MethodName) prog_14_method_26_code (7 : Nat) (Option.none : Option Jvm.ClassFile.FieldType)) ∈ gw := gw_11 62 rfl rfl
theorem wr_11_61 : (Jvm.Cond.instanceMethod ({ cls := "SpillForgeModel", name := "share", desc := "(LSpillForgeModel$Code;)V" } : Jvm.MethodName)) ∈ gw := gw_11 61 rfl rfl
theorem wr_p_109 : Cond.selects "SpillForgeModel" ⟨"SpillForgeModel", "share", "(LSpillForgeModel$Code;)V"⟩ ⟨"SpillForgeModel", "share", "(LSpillForgeModel$Code;)V"⟩ ∈ gw := gw_p _ 109 rfl rfl rfl
theorem dr_cX17_giveAll_178 : decode cX17_giveAll 178 = .ok (.iload_n 3, 1) := by decide +kernel
theorem dr_cX17_giveAll_179 : decode cX17_giveAll 179 = .ok (.ireturn, 1) := by decide +kernel
theorem dr_cX17_giveAll_99 : decode cX17_giveAll 99 = .ok (.aload_n 1, 1) := by decide +kernel
theorem dr_cX17_giveAll_100 : decode cX17_giveAll 100 = .ok (.iload 5, 2) := by decide +kernel
theorem dr_cX17_giveAll_102 : decode cX17_giveAll 102 = .ok (.invokevirtual 101, 3) := by decide +kernel
theorem dr_cX17_giveAll_105 : decode cX17_giveAll 105 = .ok (.astore 6, 2) := by decide +kernel
theorem dr_cX17_giveAll_107 : decode cX17_giveAll 107 = .ok (.iconst 0, 1) := by decide +kernel
theorem dr_cX17_giveAll_108 : decode cX17_giveAll 108 = .ok (.istore 7, 2) := by decide +kernel
theorem dr_cX17_giveAll_110 : decode cX17_giveAll 110 = .ok (.iload 7, 2) := by decide +kernel
theorem dr_cX17_giveAll_112 : decode cX17_giveAll 112 = .ok (.aload 6, 2) := by decide +kernel
theorem dr_cX17_giveAll_114 : decode cX17_giveAll 114 = .ok (.getfield 117, 3) := by decide +kernel
theorem dr_cX17_giveAll_117 : decode cX17_giveAll 117 = .ok (.invokevirtual 121, 3) := by decide +kernel
theorem dr_cX17_giveAll_120 : decode cX17_giveAll 120 = .ok (.if_icmp .gt 47, 3) := by decide +kernel
theorem dr_cX17_giveAll_167 : decode cX17_giveAll 167 = .ok (.iinc 5 1, 3) := by decide +kernel
theorem dr_cX17_giveAll_170 : decode cX17_giveAll 170 = .ok (.goto (-80), 3) := by decide +kernel
theorem dr_cX17_giveAll_123 : decode cX17_giveAll 123 = .ok (.aload_n 0, 1) := by decide +kernel
theorem dr_cX17_giveAll_124 : decode cX17_giveAll 124 = .ok (.iload 7, 2) := by decide +kernel
theorem dr_cX17_giveAll_126 : decode cX17_giveAll 126 = .ok (.aload 6, 2) := by decide +kernel
theorem dr_cX17_giveAll_128 : decode cX17_giveAll 128 = .ok (.getfield 117, 3) := by decide +kernel
theorem dr_cX17_giveAll_131 : decode cX17_giveAll 131 = .ok (.invokevirtual 121, 3) := by decide +kernel
theorem dr_cX17_giveAll_134 : decode cX17_giveAll 134 = .ok (.if_icmp .ge 19, 3) := by decide +kernel
theorem dr_cX17_giveAll_153 : decode cX17_giveAll 153 = .ok (.aload 6, 2) := by decide +kernel
theorem dr_cX17_giveAll_155 : decode cX17_giveAll 155 = .ok (.getfield 109, 3) := by decide +kernel
theorem dr_cX17_giveAll_158 : decode cX17_giveAll 158 = .ok (.invokevirtual 256, 3) := by decide +kernel
theorem wr_11_55 : (Jvm.Cond.methodLink "SpillForgeModel" (256 : Nat) ({ cls := "SpillForgeModel", name := "coloured", desc := "(LSpillForgeModel$Row;)V" } : Jvm.MethodName)) ∈ gw := gw_11 55 rfl rfl
theorem wr_11_58 : (Jvm.Cond.code ({ cls := "SpillForgeModel", name := "coloured", desc := "(LSpillForgeModel$Row;)V" } : Jvm.MethodName) prog_14_method_25_code (2 : Nat) (Option.none : Option Jvm.ClassFile.FieldType)) ∈ gw := gw_11 58 rfl rfl
theorem wr_11_57 : (Jvm.Cond.instanceMethod ({ cls := "SpillForgeModel", name := "coloured", desc := "(LSpillForgeModel$Row;)V" } : Jvm.MethodName)) ∈ gw := gw_11 57 rfl rfl
theorem wr_p_108 : Cond.selects "SpillForgeModel" ⟨"SpillForgeModel", "coloured", "(LSpillForgeModel$Row;)V"⟩ ⟨"SpillForgeModel", "coloured", "(LSpillForgeModel$Row;)V"⟩ ∈ gw := gw_p _ 108 rfl rfl rfl
theorem dr_cX17_giveAll_161 : decode cX17_giveAll 161 = .ok (.iinc 7 1, 3) := by decide +kernel
theorem dr_cX17_giveAll_164 : decode cX17_giveAll 164 = .ok (.goto (-54), 3) := by decide +kernel
theorem dr_cX17_giveAll_137 : decode cX17_giveAll 137 = .ok (.aload 6, 2) := by decide +kernel
theorem dr_cX17_giveAll_139 : decode cX17_giveAll 139 = .ok (.getfield 117, 3) := by decide +kernel
theorem dr_cX17_giveAll_142 : decode cX17_giveAll 142 = .ok (.iload 7, 2) := by decide +kernel
theorem dr_cX17_giveAll_144 : decode cX17_giveAll 144 = .ok (.invokevirtual 124, 3) := by decide +kernel
theorem dr_cX17_giveAll_147 : decode cX17_giveAll 147 = .ok (.checkcast 40, 3) := by decide +kernel
theorem dr_cX17_giveAll_150 : decode cX17_giveAll 150 = .ok (.goto 8, 3) := by decide +kernel
theorem dr_cX17_giveAll_61 : decode cX17_giveAll 61 = .ok (.aload_n 0, 1) := by decide +kernel
theorem dr_cX17_giveAll_62 : decode cX17_giveAll 62 = .ok (.aload_n 1, 1) := by decide +kernel
theorem dr_cX17_giveAll_63 : decode cX17_giveAll 63 = .ok (.iconst 0, 1) := by decide +kernel
theorem dr_cX17_giveAll_64 : decode cX17_giveAll 64 = .ok (.invokevirtual 243, 3) := by decide +kernel
theorem dr_cX17_giveAll_67 : decode cX17_giveAll 67 = .ok (.goto (-15), 3) := by decide +kernel
theorem dr_cX17_giveAll_44 : decode cX17_giveAll 44 = .ok (.iconst (-1), 1) := by decide +kernel
theorem dr_cX17_giveAll_45 : decode cX17_giveAll 45 = .ok (.ireturn, 1) := by decide +kernel
abbrev ky_632134_SpillForgeModel_giveAll : gKey := (cX17_giveAll, 8, "SpillForgeModel", (some FieldType.int), [], "giveAll", fun _ _ => True)
def pg_632134_SpillForgeModel_giveAll (D : va_G) (I : FieldType → ClassId) (γ0 el0 : Nat → Nat → Nat) (f : Nat) (B : Nat) (P632126 : List Nat) (F632127 : Nat → va_E) (q632128 : Nat) (q632129 : Nat) (p632130 : Int32) : Option Value → va_W → Nat → Nat → Prop := fun r w dc ds => ∃ (P657851 : List Nat) (F657852 : Nat → va_E) (γ el : Nat → Nat → Nat) (o657850 : Int32), r = some (.int o657850) ∧ w = va_pl P657851 F657852 ∧ rSk f [101] ([1, 3, 5, 6, 8, 9, 101] ++ npk) D I P632126 F632127 γ0 el0 P657851 F657852 γ el ∧ (18 * dc + rPh γ0 el0 f ≤ rPh γ el f ∧ ds + rPh γ0 el0 f ≤ rPh γ el f) ∧ rBd γ el f B ∧ gB o657850 (-1) 40 ∧ γ 6 f = γ0 6 f ∧ mKp (F632127 q632128) (F657852 q632128) ∧ tr_RModel_giveAll D I γ0 el0 f P632126 F632127 q632128 q632129 p632130 o657850 P657851 F657852 γ el
set_option maxRecDepth 100000 in
set_option maxHeartbeats 20000000 in
theorem cg_632134_SpillForgeModel_giveAll (l : Launch) (hl0 : l.stackTraces = false) (D : va_G) (I : FieldType → ClassId) (γ0 el0 : Nat → Nat → Nat) (f : Nat) (B : Nat) (P632126 : List Nat) (F632127 : Nat → va_E) (q632128 : Nat) (q632129 : Nat) (p632130 : Int32) (hT0 : RS D I P632126 F632127 γ0 el0) (hzq632128 : rKd γ0 q632128 10) (hzq632129 : rKd γ0 q632129 9) (hf0 : γ0 1 q632129 = f) (hB0 : rBd γ0 el0 f B) (hBk : B ≤ 100000) (bp632130 : gB p632130 1 32) (x632131 : 0 < γ0 6 f) (x632132 : γ0 7 f = 0) (x632133 : γ0 16 f + 3901 ≤ B) : CtA (gV D I) l yX17_giveAll cX17_giveAll 8 (some FieldType.int) 10 224 (((387 * B + 6000) - rPh γ0 el0 f) / 18) ((387 * B + 6000) - rPh γ0 el0 f) [.ref q632128, .ref q632129, .int p632130] (va_pl P632126 F632127) (pg_632134_SpillForgeModel_giveAll D I γ0 el0 f B P632126 F632127 q632128 q632129 p632130) gNA := by
  refine CtA_of hl0 (by decide) (Nat.le_of_ble_eq_true rfl) ?_
  obtain ⟨gm_0, hγ0⟩ : ∃ z, z = γ0 := ⟨_, rfl⟩
  obtain ⟨el_0, hel0⟩ : ∃ z, z = el0 := ⟨_, rfl⟩
  have hT : RS D I P632126 F632127 gm_0 el_0 := by rw [hγ0, hel0]; exact hT0
  have hst : rSk f [101] ([1, 3, 5, 6, 8, 9, 101] ++ npk) D I P632126 F632127 γ0 el0 P632126 F632127 gm_0 el_0 := by rw [hγ0, hel0]; exact rSk_rf hT0
  have hph : rPh γ0 el0 f ≤ rPh gm_0 el_0 f := by rw [hγ0, hel0]; exact Nat.le_refl _
  have hB : rBd gm_0 el_0 f B := by rw [hγ0, hel0]; exact hB0
  have htq632128 : rKd gm_0 q632128 10 := by rw [hγ0]; exact hzq632128
  have htq632129 : rKd gm_0 q632129 9 := by rw [hγ0]; exact hzq632129
  have hf1 : gm_0 1 q632129 = f := by rw [hγ0]; exact hf0
  have x632131n : 0 < gm_0 6 f := by rw [hγ0]; exact x632131
  have x632132n : gm_0 7 f = 0 := by rw [hγ0]; exact x632132
  have x632133n : gm_0 16 f + 3901 ≤ B := by rw [hγ0]; exact x632133
  have pk632135 : rPh gm_0 el_0 f ≤ 387 * B + 6000 := rm_pk (rM_ge hT htq632129 hf1).1 (rM_bd hB)
  refine G_widen (cs' := ((rPh gm_0 el_0 f - rPh γ0 el0 f) / 18)) (sl' := (rPh gm_0 el_0 f - rPh γ0 el0 f)) (Nat.zero_le _) (Nat.zero_le _) ?_
  have lz0 : Int32.toInt 0 = 0 := by decide
  have r632136 : gm_0 6 f = γ0 6 f := by rw [hγ0]
  have r632137 : gm_0 7 f = γ0 7 f := by rw [hγ0]
  have r632138 : gm_0 16 f = γ0 16 f := by rw [hγ0]
  have r632139 : gm_0 18 f = γ0 18 f := by rw [hγ0]
  have r632140 : gm_0 19 f = γ0 19 f := by rw [hγ0]
  have hm632141 : q632128 ∈ P632126 := RS_m hT htq632128 (by decide)
  refine rk10_e (show rk_10 gm_0 (F632127 q632128) from RS_o hT htq632128) (fun q632143 q632144 p632145 p632146 p632147 p632148 p632149 p632150 p632151 p632152 p632153 p632154 p632155 p632156 p632157 p632158 p632159 he632142 hB632186 ht632160 ht632161 ht632162 ht632163 ht632164 ht632165 ht632166 ht632167 ht632168 ht632169 ht632170 ht632171 ht632172 ht632173 ht632174 ht632175 ht632176 ht632177 ht632178 ht632179 ht632180 ht632181 ht632182 ht632183 hB632187 => ?_)
  have k0_3 : rKd γ0 (γ0 9 3) 14 := by rw [← hγ0]; exact ht632165
  have k0_17 : rKd γ0 (γ0 9 17) 20 := by rw [← hγ0]; exact ht632173
  refine G_aload_n 0 dr_cX17_giveAll_0 rfl ?_
  refine G_iconst 0 dr_cX17_giveAll_1 (by decide +kernel) ?_
  refine Gp_put 11 hm632141 he632142 dr_cX17_giveAll_2 (gk_X17 D I) (Nat.le_of_ble_eq_true rfl) wr_7_85 rfl rfl rfl (Nat.le_of_ble_eq_true rfl) (fun F632188 e632189 n632190 => ?_)
  have he632191 : F632188 q632128 = .inr (22, [.ref (gm_0 9 0), .ref (gm_0 9 1), .ref (gm_0 9 2), .ref (gm_0 9 3), .ref (gm_0 9 4), .ref (gm_0 9 5), .ref (gm_0 9 6), .ref (gm_0 9 7), .ref (gm_0 9 8), .int p632145, .int p632146, .int 0, .int p632148, .int p632149, .int p632150, .ref (gm_0 9 15), .ref (gm_0 9 16), .ref (gm_0 9 17), .ref (gm_0 9 18), .ref (gm_0 9 19), .ref (gm_0 9 20), .ref (gm_0 9 21), .ref (gm_0 9 22), .int p632151, .int p632152, .int p632153, .int p632154, .int p632155, .ref q632143, .ref (gm_0 9 29), .int p632156, .ref (gm_0 9 31), .int p632157, .int p632158, .int p632159, .ref q632144]) := e632189
  have mk632192 : mKp (F632127 q632128) (F632188 q632128) := mKp_tr mKp_rf (by rw [he632142, he632191]; exact ⟨rfl, rfl⟩)
  have kp632193 : F632188 (γ0 9 3) = F632127 (γ0 9 3) := n632190 (γ0 9 3) (rn_ty (rSk_k hst k0_3 (by decide) (by decide)) htq632128 (by decide))
  have kp632194 : F632188 (γ0 9 17) = F632127 (γ0 9 17) := n632190 (γ0 9 17) (rn_ty (rSk_k hst k0_17 (by decide) (by decide)) htq632128 (by decide))
  have fq632195 : F632188 q632128 = cF (F632127 q632128) 11 (.int 0) := by rw [he632191, he632142]; rfl
  refine G_aload_n 0 dr_cX17_giveAll_5 rfl ?_
  refine G_iconst 0 dr_cX17_giveAll_6 (by decide +kernel) ?_
  refine Gp_put 12 hm632141 he632191 dr_cX17_giveAll_7 (gk_X17 D I) (Nat.le_of_ble_eq_true rfl) wr_7_86 rfl rfl rfl (Nat.le_of_ble_eq_true rfl) (fun F632196 e632197 n632198 => ?_)
  have he632199 : F632196 q632128 = .inr (22, [.ref (gm_0 9 0), .ref (gm_0 9 1), .ref (gm_0 9 2), .ref (gm_0 9 3), .ref (gm_0 9 4), .ref (gm_0 9 5), .ref (gm_0 9 6), .ref (gm_0 9 7), .ref (gm_0 9 8), .int p632145, .int p632146, .int 0, .int 0, .int p632149, .int p632150, .ref (gm_0 9 15), .ref (gm_0 9 16), .ref (gm_0 9 17), .ref (gm_0 9 18), .ref (gm_0 9 19), .ref (gm_0 9 20), .ref (gm_0 9 21), .ref (gm_0 9 22), .int p632151, .int p632152, .int p632153, .int p632154, .int p632155, .ref q632143, .ref (gm_0 9 29), .int p632156, .ref (gm_0 9 31), .int p632157, .int p632158, .int p632159, .ref q632144]) := e632197
  have mk632200 : mKp (F632127 q632128) (F632196 q632128) := mKp_tr mk632192 (by rw [he632191, he632199]; exact ⟨rfl, rfl⟩)
  have n632201 : ∀ b, b ≠ q632128 → F632196 b = F632127 b := fun b hb => (n632198 b hb).trans (n632190 b hb)
  have kp632202 : F632196 (γ0 9 3) = F632127 (γ0 9 3) := (n632198 (γ0 9 3) (rn_ty (rSk_k hst k0_3 (by decide) (by decide)) htq632128 (by decide))).trans kp632193
  have kp632203 : F632196 (γ0 9 17) = F632127 (γ0 9 17) := (n632198 (γ0 9 17) (rn_ty (rSk_k hst k0_17 (by decide) (by decide)) htq632128 (by decide))).trans kp632194
  have fq632204 : F632196 q632128 = cF (F632188 q632128) 12 (.int 0) := by rw [he632199, he632191]; rfl
  refine G_aload_n 0 dr_cX17_giveAll_10 rfl ?_
  refine G_iconst 0 dr_cX17_giveAll_11 (by decide +kernel) ?_
  refine Gp_put 13 hm632141 he632199 dr_cX17_giveAll_12 (gk_X17 D I) (Nat.le_of_ble_eq_true rfl) wr_7_87 rfl rfl rfl (Nat.le_of_ble_eq_true rfl) (fun F632205 e632206 n632207 => ?_)
  have he632208 : F632205 q632128 = .inr (22, [.ref (gm_0 9 0), .ref (gm_0 9 1), .ref (gm_0 9 2), .ref (gm_0 9 3), .ref (gm_0 9 4), .ref (gm_0 9 5), .ref (gm_0 9 6), .ref (gm_0 9 7), .ref (gm_0 9 8), .int p632145, .int p632146, .int 0, .int 0, .int 0, .int p632150, .ref (gm_0 9 15), .ref (gm_0 9 16), .ref (gm_0 9 17), .ref (gm_0 9 18), .ref (gm_0 9 19), .ref (gm_0 9 20), .ref (gm_0 9 21), .ref (gm_0 9 22), .int p632151, .int p632152, .int p632153, .int p632154, .int p632155, .ref q632143, .ref (gm_0 9 29), .int p632156, .ref (gm_0 9 31), .int p632157, .int p632158, .int p632159, .ref q632144]) := e632206
  have mk632209 : mKp (F632127 q632128) (F632205 q632128) := mKp_tr mk632200 (by rw [he632199, he632208]; exact ⟨rfl, rfl⟩)
  have n632210 : ∀ b, b ≠ q632128 → F632205 b = F632127 b := fun b hb => (n632207 b hb).trans (n632201 b hb)
  have kp632211 : F632205 (γ0 9 3) = F632127 (γ0 9 3) := (n632207 (γ0 9 3) (rn_ty (rSk_k hst k0_3 (by decide) (by decide)) htq632128 (by decide))).trans kp632202
  have kp632212 : F632205 (γ0 9 17) = F632127 (γ0 9 17) := (n632207 (γ0 9 17) (rn_ty (rSk_k hst k0_17 (by decide) (by decide)) htq632128 (by decide))).trans kp632203
  have fq632213 : F632205 q632128 = cF (F632196 q632128) 13 (.int 0) := by rw [he632208, he632199]; rfl
  refine G_aload_n 0 dr_cX17_giveAll_15 rfl ?_
  refine G_bipush 100 dr_cX17_giveAll_16 (by decide +kernel) ?_
  refine Gp_put 14 hm632141 he632208 dr_cX17_giveAll_18 (gk_X17 D I) (Nat.le_of_ble_eq_true rfl) wr_7_88 rfl rfl rfl (Nat.le_of_ble_eq_true rfl) (fun F632214 e632215 n632216 => ?_)
  have he632217 : F632214 q632128 = .inr (22, [.ref (gm_0 9 0), .ref (gm_0 9 1), .ref (gm_0 9 2), .ref (gm_0 9 3), .ref (gm_0 9 4), .ref (gm_0 9 5), .ref (gm_0 9 6), .ref (gm_0 9 7), .ref (gm_0 9 8), .int p632145, .int p632146, .int 0, .int 0, .int 0, .int 100, .ref (gm_0 9 15), .ref (gm_0 9 16), .ref (gm_0 9 17), .ref (gm_0 9 18), .ref (gm_0 9 19), .ref (gm_0 9 20), .ref (gm_0 9 21), .ref (gm_0 9 22), .int p632151, .int p632152, .int p632153, .int p632154, .int p632155, .ref q632143, .ref (gm_0 9 29), .int p632156, .ref (gm_0 9 31), .int p632157, .int p632158, .int p632159, .ref q632144]) := e632215
  have mk632218 : mKp (F632127 q632128) (F632214 q632128) := mKp_tr mk632209 (by rw [he632208, he632217]; exact ⟨rfl, rfl⟩)
  have n632219 : ∀ b, b ≠ q632128 → F632214 b = F632127 b := fun b hb => (n632216 b hb).trans (n632210 b hb)
  have kp632220 : F632214 (γ0 9 3) = F632127 (γ0 9 3) := (n632216 (γ0 9 3) (rn_ty (rSk_k hst k0_3 (by decide) (by decide)) htq632128 (by decide))).trans kp632211
  have kp632221 : F632214 (γ0 9 17) = F632127 (γ0 9 17) := (n632216 (γ0 9 17) (rn_ty (rSk_k hst k0_17 (by decide) (by decide)) htq632128 (by decide))).trans kp632212
  have fq632222 : F632214 q632128 = cF (F632205 q632128) 14 (.int 100) := by rw [he632217, he632208]; rfl
  refine G_aload_n 0 dr_cX17_giveAll_21 rfl ?_
  have hT632223 : RS D I P632126 F632214 gm_0 el_0 := RS_set hT n632219 htq632128 (by decide) ⟨q632143, q632144, p632145, p632146, 0, 0, 0, 100, p632151, p632152, p632153, p632154, p632155, p632156, p632157, p632158, p632159, he632217, ⟨(hB632186.1), (hB632186.2.1), (gB_w (gBl (show Int32.toInt 0 = 0 by decide)) (by decide) (by decide)), (gB_w (gBl (show Int32.toInt 100 = 100 by decide)) (by decide) (by decide)), (hB632186.2.2.2.2.1), (hB632186.2.2.2.2.2.1), (hB632186.2.2.2.2.2.2.1), (hB632186.2.2.2.2.2.2.2.1), (hB632186.2.2.2.2.2.2.2.2)⟩, ht632160, ht632161, ht632162, ht632163, ht632164, ht632165, ht632166, ht632167, ht632168, ht632169, ht632170, ht632171, ht632172, ht632173, ht632174, ht632175, ht632176, ht632177, ht632178, ht632179, ht632180, ht632181, ht632182, ht632183, hB632187⟩
  have hs632224 := rSk_put hst hT632223 n632219 htq632128 (by decide) (by decide) (Or.inr (Or.inr (by decide)))
  have ac632225 : (fI (F632214 q632128) 11).toInt = 0 := by rw [he632217]; show Int32.toInt 0 = 0; decide
  have ac632226 : (fI (F632214 q632128) 14).toInt = 100 := by rw [he632217]; show Int32.toInt 100 = 100; decide
  refine G_aload_n 1 dr_cX17_giveAll_22 rfl ?_
  have rg632227 := rM_ge hT632223 htq632129 hf1
  have rm632228 := rM_bd hB
  have bd632229 := rBd_c hT632223 htq632129 hf1 hB
  have rc632230 := rc_at hT632223 htq632129 hf1
  refine Gw_callV (As := [.ref q632129]) (gV_ok D I) (cg_366570_SpillForgeModel_zeros l hl0 D I gm_0 el_0 f B P632126 F632214 q632128 q632129 hT632223 htq632128 htq632129 hf1 hB hBk (by omega) (by omega)) dr_cX17_giveAll_23 ⟨wr_10_152, wr_1_14, wr_10_155, by decide, rfl, (Nat.le_of_ble_eq_true rfl), (Nat.le_of_ble_eq_true rfl)⟩ wr_10_154 wr_p_93 hm632141 he632217 rfl (rm_gc hph pk632135) (rm_gs hph pk632135) (Nat.le_of_ble_eq_true rfl) (fun r632234 w632235 dc632231 ds632232 hp632233 => ?_) (fun _ _ _ _ _ z => z.elim)
  obtain ⟨P632242, F632243, gm_F632243, el_F632243, rfl, rfl, hk632244, ⟨hr632245, hr632246⟩, hB632247, x632236, x632237, x632238, x632239, x632240, ht632241⟩ := hp632233
  have hT632248 := hk632244.1
  have hs632249 := rSk_tr hs632224 hk632244 (by decide) (by decide) (by decide)
  have ht632250 : rKd gm_F632243 q632128 10 := rSk_k hk632244 htq632128 (by decide) (by decide)
  have ht632251 : rKd gm_F632243 q632129 9 := rSk_k hk632244 htq632129 (by decide) (by decide)
  have hf632252 : gm_F632243 1 q632129 = f := rSk_1 hk632244 htq632129 (by decide) hf1
  clear rg632227 rm632228 bd632229 rc632230
  have mk632253 : mKp (F632127 q632128) (F632243 q632128) := mKp_tr mk632218 (mKp_eq x632240)
  have hph632254 : rPh γ0 el0 f ≤ rPh gm_F632243 el_F632243 f := rm_ph hph hr632246
  have pk632255 : rPh gm_F632243 el_F632243 f ≤ 387 * B + 6000 := rm_pk (rM_ge hT632248 ht632251 hf632252).1 (rM_bd hB632247)
  change G _ _ _ _ _ _ _ _ _ _ _
  refine G_widen (cs' := ((rPh gm_F632243 el_F632243 f - rPh γ0 el0 f) / 18)) (sl' := (rPh gm_F632243 el_F632243 f - rPh γ0 el0 f)) (rm_wc hph hr632245) (rm_ws hph hr632246) ?_
  have r632256 : 0 < gm_F632243 6 (gm_F632243 1 q632129) := by rw [hf632252]; omega
  have ac632257 : (fI (F632243 q632128) 11).toInt = (fI (F632214 q632128) 11).toInt := by rw [x632240]
  have ac632258 : (fI (F632243 q632128) 14).toInt = (fI (F632214 q632128) 14).toInt := by rw [x632240]
  have hm632259 : q632128 ∈ P632242 := RS_m hT632248 ht632250 (by decide)
  refine rk10_e (show rk_10 gm_F632243 (F632243 q632128) from RS_o hT632248 ht632250) (fun q632261 q632262 p632263 p632264 p632265 p632266 p632267 p632268 p632269 p632270 p632271 p632272 p632273 p632274 p632275 p632276 p632277 he632260 hB632304 ht632278 ht632279 ht632280 ht632281 ht632282 ht632283 ht632284 ht632285 ht632286 ht632287 ht632288 ht632289 ht632290 ht632291 ht632292 ht632293 ht632294 ht632295 ht632296 ht632297 ht632298 ht632299 ht632300 ht632301 hB632305 => ?_)
  have ac632306 : (fI (F632243 q632128) 11).toInt = p632265.toInt := by rw [he632260]; rfl
  have bp632265 : gB p632265 0 100 := (hB632304.2.2.1)
  have ac632307 : (fI (F632243 q632128) 14).toInt = p632268.toInt := by rw [he632260]; rfl
  have bp632268 : gB p632268 0 2000 := (hB632304.2.2.2.1)
  have ni632308 : rNI gm_F632243 el_F632243 F632243 q632129 (gm_F632243 6 f) (fI (F632243 q632128) 11).toInt := rNI_s (rNI_0 hT632248 ht632251 hf632252 (by omega)) (by omega)
  refine G_iconst 1 dr_cX17_giveAll_26 (by decide +kernel) ?_
  refine G_istore_n (L' := [(3, .int 1), (0, .ref q632128), (1, .ref q632129), (2, .int p632130)]) dr_cX17_giveAll_27 (Nat.le_of_ble_eq_true rfl) rfl ?_
  have hlp28_654677 : ∀ (n28_654677 : Nat) (P654666 : List Nat) (F654667 : Nat → va_E) (gm_F654667 el_F654667 : Nat → Nat → Nat) (g654665 : Int32), gB g654665 1 41 → RS D I P654666 F654667 gm_F654667 el_F654667 → rSk f [101] ([1, 3, 5, 6, 8, 9, 101] ++ npk) D I P632126 F632127 γ0 el0 P654666 F654667 gm_F654667 el_F654667 → rPh γ0 el0 f ≤ rPh gm_F654667 el_F654667 f → rBd gm_F654667 el_F654667 f B → gm_F654667 6 f = γ0 6 f → ((gm_F654667 7 f : Nat) : Int) = (fI (F654667 q632128) 11).toInt → ((gm_F654667 16 f : Nat) : Int) + 2001 ≤ (B : Int) + (fI (F654667 q632128) 14).toInt → 100 ≤ (fI (F654667 q632128) 14).toInt → rNI gm_F654667 el_F654667 F654667 q632129 (gm_F654667 6 f) (fI (F654667 q632128) 11).toInt → mKp (F632127 q632128) (F654667 q632128) → (∀ (k : Nat) (e1 : Nat → va_E) (e2 : List Nat) (e3 : Nat → Nat → Nat) (e4 : Nat → Nat → Nat) (e5 : Int32), tl_RModel_giveAll_28 D I γ0 el0 f P632126 F632127 q632128 q632129 p632130 P654666 F654667 gm_F654667 el_F654667 g654665 k e1 e2 e3 e4 e5 → tl_RModel_giveAll_28 D I γ0 el0 f P632126 F632127 q632128 q632129 p632130 P632242 F632243 gm_F632243 el_F632243 (1 : Int32) k e1 e2 e3 e4 e5) → ((42 : Int) - g654665.toInt).toNat < n28_654677 → G (gV D I) l (gRm 10 224 (((387 * B + 6000) - rPh γ0 el0 f) / 18) ((387 * B + 6000) - rPh γ0 el0 f)) (gMA (gV D I) (pg_632134_SpillForgeModel_giveAll D I γ0 el0 f B P632126 F632127 q632128 q632129 p632130) gNA (((387 * B + 6000) - rPh γ0 el0 f) / 18) ((387 * B + 6000) - rPh γ0 el0 f)) ky_632134_SpillForgeModel_giveAll 28 [(3, .int g654665), (0, .ref q632128), (1, .ref q632129), (2, .int p632130)] [] (va_pl P654666 F654667) ((rPh gm_F654667 el_F654667 f - rPh γ0 el0 f) / 18) (rPh gm_F654667 el_F654667 f - rPh γ0 el0 f) := by
    intro n28_654677
    induction n28_654677 with
    | zero => intro P654666 F654667 gm_F654667 el_F654667 g654665 bg654665 hT654668 hs654669 hph654670 hB654671 x654672 x654673 x654674 x654675 x654676 x654677 kt28_654678 hm28_654677; exact absurd hm28_654677 (Nat.not_lt_zero _)
    | succ n28_654677 ih28_654677 =>
      intro P654666 F654667 gm_F654667 el_F654667 g654665 bg654665 hT654668 hs654669 hph654670 hB654671 x654672 x654673 x654674 x654675 x654676 x654677 kt28_654678 hm28_654677
      clear r632136 r632137 r632138 r632139 r632140 hr632245 hr632246 hph632254 pk632255 r632256
      have ht654679 : rKd gm_F654667 q632128 10 := rSk_k hs654669 hzq632128 (by decide) (by decide)
      have ht654680 : rKd gm_F654667 q632129 9 := rSk_k hs654669 hzq632129 (by decide) (by decide)
      have hf654681 : gm_F654667 1 q632129 = f := rSk_1 hs654669 hzq632129 (by decide) hf0
      have pk654682 : rPh gm_F654667 el_F654667 f ≤ 387 * B + 6000 := rm_pk (rM_ge hT654668 ht654680 hf654681).1 (rM_bd hB654671)
      have r654683 : 0 < gm_F654667 6 (gm_F654667 1 q632129) := by rw [hf654681]; omega
      have hm654684 : q632128 ∈ P654666 := RS_m hT654668 ht654679 (by decide)
      refine rk10_e (show rk_10 gm_F654667 (F654667 q632128) from RS_o hT654668 ht654679) (fun q654686 q654687 p654688 p654689 p654690 p654691 p654692 p654693 p654694 p654695 p654696 p654697 p654698 p654699 p654700 p654701 p654702 he654685 hB654729 ht654703 ht654704 ht654705 ht654706 ht654707 ht654708 ht654709 ht654710 ht654711 ht654712 ht654713 ht654714 ht654715 ht654716 ht654717 ht654718 ht654719 ht654720 ht654721 ht654722 ht654723 ht654724 ht654725 ht654726 hB654730 => ?_)
      have ac654731 : (fI (F654667 q632128) 11).toInt = p654690.toInt := by rw [he654685]; rfl
      have bp654690 : gB p654690 0 100 := (hB654729.2.2.1)
      have ac654732 : (fI (F654667 q632128) 14).toInt = p654693.toInt := by rw [he654685]; rfl
      have bp654693 : gB p654693 0 2000 := (hB654729.2.2.2.1)
      refine G_iload_n 0 dr_cX17_giveAll_28 rfl ?_
      refine G_bipush 40 dr_cX17_giveAll_29 (by decide +kernel) ?_
      refine G_icmp_gt 207 dr_cX17_giveAll_31 (by decide +kernel) (fun hc654733 => ?_) (fun hc654733 => ?_)
      · have r654734 : 40 < g654665.toInt := gj_ltL hc654733 (show Int32.toInt 40 = 40 by decide)
        have bg654665' : gB g654665 41 41 := ⟨by omega, by omega⟩
        have hx654735 : tl_RModel_giveAll_28 D I γ0 el0 f P632126 F632127 q632128 q632129 p632130 P632242 F632243 gm_F632243 el_F632243 (1 : Int32) 207 F654667 P654666 gm_F654667 el_F654667 (0 : Int32) := kt28_654678 207 F654667 P654666 gm_F654667 el_F654667 (0 : Int32) (fun R c1 c2 c3 c4 c5 => c1 P654666 F654667 gm_F654667 el_F654667 g654665 bg654665 hT654668 hs654669 x654672 x654673 x654675 x654676 x654677 r654734)
        refine G_iconst (-1) dr_cX17_giveAll_207 (by decide +kernel) ?_
        exact G_iretA dr_cX17_giveAll_208 rfl (show ((rPh gm_F654667 el_F654667 f - rPh γ0 el0 f) / 18) ≤ (((387 * B + 6000) - rPh γ0 el0 f) / 18) by omega) (show (rPh gm_F654667 el_F654667 f - rPh γ0 el0 f) ≤ ((387 * B + 6000) - rPh γ0 el0 f) by omega) ⟨P654666, F654667, gm_F654667, el_F654667, (-1), rfl, rfl, hs654669, ⟨by omega, by omega⟩, hB654671, (gB_w (gBl (show Int32.toInt (-1) = (-1) by decide)) (by decide) (by decide)), (by have qa0 : Int32.toInt (-1) = (-1) := (by decide); omega), x654677, (fun R c1 c2 c3 c4 => c1 gm_0 el_0 F632188 F632196 F632205 F632214 P632242 F632243 gm_F632243 el_F632243 F654667 P654666 gm_F654667 el_F654667 hγ0 hel0 n632190 fq632195 n632198 fq632204 n632207 fq632213 n632216 fq632222 hk632244 x632236 x632237 x632238 x632239 x632240 ht632241 hx654735)⟩
      · have r654736 : g654665.toInt ≤ 40 := gj_nltL hc654733 (show Int32.toInt 40 = 40 by decide)
        have bg654665' : gB g654665 1 40 := ⟨by omega, by omega⟩
        refine G_aload_n 2 dr_cX17_giveAll_34 rfl ?_
        have hm654742 : q632129 ∈ P654666 := RS_m hT654668 ht654680 (by decide)
        obtain ⟨q654744, q654745, p654746, p654747, he654743, ht654763, ht654748, ht654749, ht654750, ht654751, r654752, r654753, r654754, r654755, r654756, r654757, r654758, r654759, r654760, r654761, r654762⟩ := show rk_9 gm_F654667 el_F654667 q632129 (F654667 q632129) from RS_o hT654668 ht654680
        have bp654746 : gB p654746 0 1000000 := ⟨by omega, by omega⟩
        have bp654747 : gB p654747 0 1000000 := ⟨by omega, by omega⟩
        have hf654764 : gm_F654667 1 q654744 = f := (show gm_F654667 1 q654744 = gm_F654667 1 q632129 from ht654749).trans hf654681
        have hf654765 : gm_F654667 1 q654745 = f := (show gm_F654667 1 q654745 = gm_F654667 1 q632129 from ht654751).trans hf654681
        have r654766 : gm_F654667 6 (gm_F654667 1 q632129) = gm_F654667 6 f := by rw [hf654681]
        have r654767 : gm_F654667 16 (gm_F654667 1 q632129) = gm_F654667 16 f := by rw [hf654681]
        have r654768 : p654747.toInt = gm_F654667 6 f ∧ p654747.toInt ≤ 40 := by omega
        clear r654758
        refine Gw_callV (As := []) (gV_ok D I) (ct_7810_Code_countRows l hl0 D I gm_F654667 el_F654667 P654666 F654667 q632129 hT654668 ht654680 (by omega)) dr_cX17_giveAll_35 ⟨wr_10_229, wr_1_15, wr_10_232, by decide, rfl, (Nat.le_of_ble_eq_true rfl), (Nat.le_of_ble_eq_true rfl)⟩ wr_10_230 wr_10_231 hm654742 he654743 rfl (rm_zc pk654682) (rm_zs pk654682) (Nat.le_of_ble_eq_true rfl) (fun r654740 w654741 dc654737 ds654738 hp654739 => ?_) (fun _ _ _ _ _ z => z.elim)
        obtain ⟨o654769, rfl, rfl, hdc, hds, ht654770⟩ := hp654739
        have bo654769 := gB_any o654769
        change G _ _ _ _ _ _ _ (.int o654769 :: _) _ _ _
        refine G_widen (cs' := ((rPh gm_F654667 el_F654667 f - rPh γ0 el0 f) / 18)) (sl' := (rPh gm_F654667 el_F654667 f - rPh γ0 el0 f)) (rm_d0 hdc) (rm_d0 hds) ?_
        refine G_sipush 4000 dr_cX17_giveAll_38 (by decide +kernel) ?_
        refine G_icmp_le 46 dr_cX17_giveAll_41 (by decide +kernel) (fun hc654771 => ?_) (fun hc654771 => ?_)
        · have r654772 : o654769.toInt ≤ 4000 := gj_le hc654771 (show Int32.toInt 4000 = 4000 by decide)
          have bo654769' : gB o654769 (-2147483648) 4000 := ⟨by omega, by omega⟩
          refine G_aload_n 1 dr_cX17_giveAll_46 rfl ?_
          refine G_aload_n 2 dr_cX17_giveAll_47 rfl ?_
          refine G_iconst 0 dr_cX17_giveAll_48 (by decide +kernel) ?_
          refine Gw_callV (As := [.ref q632129, .int 0]) (gV_ok D I) (ct_277516_SpillForgeModel_graph l hl0 D I gm_F654667 el_F654667 P654666 F654667 q632128 q632129 0 hT654668 ht654679 ht654680 (gB_w (gBl (show Int32.toInt 0 = 0 by decide)) (by decide) (by decide)) (by omega)) dr_cX17_giveAll_49 ⟨wr_10_233, wr_1_14, wr_10_236, by decide, rfl, (Nat.le_of_ble_eq_true rfl), (Nat.le_of_ble_eq_true rfl)⟩ wr_10_235 wr_p_99 hm654684 he654685 rfl (rm_zc pk654682) (rm_zs pk654682) (Nat.le_of_ble_eq_true rfl) (fun r654776 w654777 dc654773 ds654774 hp654775 => ?_) (fun _ _ _ _ _ z => z.elim)
          obtain ⟨F654781, rfl, rfl, hT654782, hs654783, hdc, hds, x654778, x654779, ht654780⟩ := hp654775
          have he654784 : F654781 q632129 = .inr (18, [.ref q654744, .ref q654745, .int p654746, .int p654747]) := (hs654783 q632129 (rT0 ht654680 (by decide)) (rT1 ht654680 (by decide)) (rT2 ht654680 (by decide))).trans he654743
          have hs654785 := rSk_str hs654669 hT654782 hs654783 (by decide) (by decide) (by decide)
          have kp654786 : F654781 q632128 = F654667 q632128 := x654779
          have mk654787 : mKp (F632127 q632128) (F654781 q632128) := mKp_tr x654677 (mKp_eq x654779)
          have he654788 : F654781 q632128 = .inr (22, [.ref (gm_F654667 9 0), .ref (gm_F654667 9 1), .ref (gm_F654667 9 2), .ref (gm_F654667 9 3), .ref (gm_F654667 9 4), .ref (gm_F654667 9 5), .ref (gm_F654667 9 6), .ref (gm_F654667 9 7), .ref (gm_F654667 9 8), .int p654688, .int p654689, .int p654690, .int p654691, .int p654692, .int p654693, .ref (gm_F654667 9 15), .ref (gm_F654667 9 16), .ref (gm_F654667 9 17), .ref (gm_F654667 9 18), .ref (gm_F654667 9 19), .ref (gm_F654667 9 20), .ref (gm_F654667 9 21), .ref (gm_F654667 9 22), .int p654694, .int p654695, .int p654696, .int p654697, .int p654698, .ref q654686, .ref (gm_F654667 9 29), .int p654699, .ref (gm_F654667 9 31), .int p654700, .int p654701, .int p654702, .ref q654687]) := (x654779).trans he654685
          rw [show Int32.toInt 0 = 0 from by decide] at x654778
          change G _ _ _ _ _ _ _ _ _ _ _
          refine G_widen (cs' := ((rPh gm_F654667 el_F654667 f - rPh γ0 el0 f) / 18)) (sl' := (rPh gm_F654667 el_F654667 f - rPh γ0 el0 f)) (rm_d0 hdc) (rm_d0 hds) ?_
          have ni654789 : rNI gm_F654667 el_F654667 F654781 q632129 (gm_F654667 6 f) (fI (F654781 q632128) 11).toInt := rNI_s (rNI_str hT654668 ht654680 hf654681 hs654783 (by decide) x654676) (by rw [x654779])
          have gr654790 : rGr gm_F654667 el_F654667 F654781 q632129 (gm_F654667 6 f) (cB (F654781 (γ0 9 3))) (vA (gm_F654667 6 f)) := by have z := x654778 (by decide); rw [hf654681] at z; rw [← congrFun (rSk_9 hs654785) 3]; exact gq_str hT654668 ht654680 hf654681 hs654783 (by decide) z
          have ac654791 : (fI (F654781 q632128) 11).toInt = (fI (F654667 q632128) 11).toInt := by rw [kp654786]
          have ac654792 : (fI (F654781 q632128) 14).toInt = (fI (F654667 q632128) 14).toInt := by rw [kp654786]
          have hlp52_656300 : ∀ (n52_656300 : Nat) (P656288 : List Nat) (F656289 : Nat → va_E) (gm_F656289 el_F656289 : Nat → Nat → Nat) , RS D I P656288 F656289 gm_F656289 el_F656289 → rSk f [101] ([1, 3, 5, 6, 8, 9, 101] ++ npk) D I P632126 F632127 γ0 el0 P656288 F656289 gm_F656289 el_F656289 → rPh γ0 el0 f ≤ rPh gm_F656289 el_F656289 f → rBd gm_F656289 el_F656289 f B → gm_F656289 6 f = γ0 6 f → ((gm_F656289 7 f : Nat) : Int) = (fI (F656289 q632128) 11).toInt → ((gm_F656289 16 f : Nat) : Int) + 2001 ≤ (B : Int) + (fI (F656289 q632128) 14).toInt → 100 ≤ (fI (F656289 q632128) 14).toInt → rNI gm_F656289 el_F656289 F656289 q632129 (gm_F656289 6 f) (fI (F656289 q632128) 11).toInt → rGr gm_F656289 el_F656289 F656289 q632129 (gm_F656289 6 f) (cB (F656289 (γ0 9 3))) (vA (gm_F656289 6 f)) → mKp (F632127 q632128) (F656289 q632128) → (∀ (k : Nat) (e1 : Nat → va_E) (e2 : List Nat) (e3 : Nat → Nat → Nat) (e4 : Nat → Nat → Nat), tl_RModel_giveAll_52 D I γ0 el0 f P632126 F632127 q632128 q632129 p632130 P656288 F656289 gm_F656289 el_F656289 k e1 e2 e3 e4 → tl_RModel_giveAll_52 D I γ0 el0 f P632126 F632127 q632128 q632129 p632130 P654666 F654781 gm_F654667 el_F654667 k e1 e2 e3 e4) → rsum (fun i => gm_F656289 2 (gm_F656289 14 (el_F656289 (gm_F656289 14 q632129) i))) (gm_F656289 6 f) < n52_656300 → G (gV D I) l (gRm 10 224 (((387 * B + 6000) - rPh γ0 el0 f) / 18) ((387 * B + 6000) - rPh γ0 el0 f)) (gMA (gV D I) (pg_632134_SpillForgeModel_giveAll D I γ0 el0 f B P632126 F632127 q632128 q632129 p632130) gNA (((387 * B + 6000) - rPh γ0 el0 f) / 18) ((387 * B + 6000) - rPh γ0 el0 f)) ky_632134_SpillForgeModel_giveAll 52 [(3, .int g654665), (0, .ref q632128), (1, .ref q632129), (2, .int p632130)] [] (va_pl P656288 F656289) ((rPh gm_F656289 el_F656289 f - rPh γ0 el0 f) / 18) (rPh gm_F656289 el_F656289 f - rPh γ0 el0 f) := by
            intro n52_656300
            induction n52_656300 with
            | zero => intro P656288 F656289 gm_F656289 el_F656289 hT656290 hs656291 hph656292 hB656293 x656294 x656295 x656296 x656297 x656298 x656299 x656300 kt52_656301 hm52_656300; exact absurd hm52_656300 (Nat.not_lt_zero _)
            | succ n52_656300 ih52_656300 =>
              intro P656288 F656289 gm_F656289 el_F656289 hT656290 hs656291 hph656292 hB656293 x656294 x656295 x656296 x656297 x656298 x656299 x656300 kt52_656301 hm52_656300
              clear r654752 r654753 r654754 r654755 r654756 r654757 r654759 r654760 r654761 r654762 bp654746 bp654747 r654766 r654767 r654768
              have ht656302 : rKd gm_F656289 q632128 10 := rSk_k hs656291 hzq632128 (by decide) (by decide)
              have ht656303 : rKd gm_F656289 q632129 9 := rSk_k hs656291 hzq632129 (by decide) (by decide)
              have hf656304 : gm_F656289 1 q632129 = f := rSk_1 hs656291 hzq632129 (by decide) hf0
              have pk656305 : rPh gm_F656289 el_F656289 f ≤ 387 * B + 6000 := rm_pk (rM_ge hT656290 ht656303 hf656304).1 (rM_bd hB656293)
              have r656306 : 0 < gm_F656289 6 (gm_F656289 1 q632129) := by rw [hf656304]; omega
              have hm656307 : q632128 ∈ P656288 := RS_m hT656290 ht656302 (by decide)
              refine rk10_e (show rk_10 gm_F656289 (F656289 q632128) from RS_o hT656290 ht656302) (fun q656309 q656310 p656311 p656312 p656313 p656314 p656315 p656316 p656317 p656318 p656319 p656320 p656321 p656322 p656323 p656324 p656325 he656308 hB656352 ht656326 ht656327 ht656328 ht656329 ht656330 ht656331 ht656332 ht656333 ht656334 ht656335 ht656336 ht656337 ht656338 ht656339 ht656340 ht656341 ht656342 ht656343 ht656344 ht656345 ht656346 ht656347 ht656348 ht656349 hB656353 => ?_)
              have ac656354 : (fI (F656289 q632128) 11).toInt = p656313.toInt := by rw [he656308]; rfl
              have bp656313 : gB p656313 0 100 := (hB656352.2.2.1)
              have ac656355 : (fI (F656289 q632128) 14).toInt = p656316.toInt := by rw [he656308]; rfl
              have bp656316 : gB p656316 0 2000 := (hB656352.2.2.2.1)
              refine G_aload_n 1 dr_cX17_giveAll_52 rfl ?_
              refine G_aload_n 2 dr_cX17_giveAll_53 rfl ?_
              refine G_iload_n 3 dr_cX17_giveAll_54 rfl ?_
              have rg656356 := rM_ge hT656290 ht656303 hf656304
              have rm656357 := rM_bd hB656293
              have bd656358 := rBd_c hT656290 ht656303 hf656304 hB656293
              have rc656359 := rc_at hT656290 ht656303 hf656304
              refine Gw_callV (As := [.ref q632129, .int p632130]) (gV_ok D I) (cg_399006_SpillForgeModel_merge l hl0 D I gm_F656289 el_F656289 f B P656288 F656289 q632128 q632129 p632130 hT656290 ht656302 ht656303 hf656304 hB656293 hBk (by omega)) dr_cX17_giveAll_55 ⟨wr_11_8, wr_1_14, wr_11_11, by decide, rfl, (Nat.le_of_ble_eq_true rfl), (Nat.le_of_ble_eq_true rfl)⟩ wr_11_10 wr_p_101 hm656307 he656308 rfl (rm_gc hph656292 pk656305) (rm_gs hph656292 pk656305) (Nat.le_of_ble_eq_true rfl) (fun r656363 w656364 dc656360 ds656361 hp656362 => ?_) (fun _ _ _ _ _ z => z.elim)
              obtain ⟨P656377, F656378, gm_F656378, el_F656378, o656365, rfl, rfl, hk656379, ⟨hr656380, hr656381⟩, hB656382, bo656365, x656366, x656367, x656368, x656369, x656370, x656371, x656372, x656373, x656374, x656375, ht656376⟩ := hp656362
              have hT656383 := hk656379.1
              have hs656384 := rSk_tr hs656291 hk656379 (by decide) (by decide) (by decide)
              have ht656385 : rKd gm_F656378 q632128 10 := rSk_k hk656379 ht656302 (by decide) (by decide)
              have ht656386 : rKd gm_F656378 q632129 9 := rSk_k hk656379 ht656303 (by decide) (by decide)
              have hf656387 : gm_F656378 1 q632129 = f := rSk_1 hk656379 ht656303 (by decide) hf656304
              clear rg656356 rm656357 bd656358 rc656359
              have mk656388 : mKp (F632127 q632128) (F656378 q632128) := mKp_tr x656300 x656375
              have hph656389 : rPh γ0 el0 f ≤ rPh gm_F656378 el_F656378 f := rm_ph hph656292 hr656381
              have pk656390 : rPh gm_F656378 el_F656378 f ≤ 387 * B + 6000 := rm_pk (rM_ge hT656383 ht656386 hf656387).1 (rM_bd hB656382)
              change G _ _ _ _ _ _ _ (.int o656365 :: _) _ _ _
              refine G_widen (cs' := ((rPh gm_F656378 el_F656378 f - rPh γ0 el0 f) / 18)) (sl' := (rPh gm_F656378 el_F656378 f - rPh γ0 el0 f)) (rm_wc hph656292 hr656380) (rm_ws hph656292 hr656381) ?_
              have r656391 : 0 < gm_F656378 6 (gm_F656378 1 q632129) := by rw [hf656387]; omega
              have hm656392 : q632128 ∈ P656377 := RS_m hT656383 ht656385 (by decide)
              refine rk10_e (show rk_10 gm_F656378 (F656378 q632128) from RS_o hT656383 ht656385) (fun q656394 q656395 p656396 p656397 p656398 p656399 p656400 p656401 p656402 p656403 p656404 p656405 p656406 p656407 p656408 p656409 p656410 he656393 hB656437 ht656411 ht656412 ht656413 ht656414 ht656415 ht656416 ht656417 ht656418 ht656419 ht656420 ht656421 ht656422 ht656423 ht656424 ht656425 ht656426 ht656427 ht656428 ht656429 ht656430 ht656431 ht656432 ht656433 ht656434 hB656438 => ?_)
              have ac656439 : (fI (F656378 q632128) 11).toInt = p656398.toInt := by rw [he656393]; rfl
              have bp656398 : gB p656398 0 100 := (hB656437.2.2.1)
              have ac656440 : (fI (F656378 q632128) 14).toInt = p656401.toInt := by rw [he656393]; rfl
              have bp656401 : gB p656401 0 2000 := (hB656437.2.2.2.1)
              have ni656441 : rNI gm_F656378 el_F656378 F656378 q632129 (gm_F656378 6 f) (fI (F656378 q632128) 11).toInt := rNI_s (rNI_mg x656371 x656298) x656372
              refine G_if_eq 70 dr_cX17_giveAll_58 (by decide +kernel) (fun hc656442 => ?_) (fun hc656442 => ?_)
              · have r656443 : o656365.toInt = 0 := gj_eq hc656442 (show Int32.toInt 0 = 0 by decide)
                have bo656365' : gB o656365 0 0 := gB_t0 r656443
                have hx656444 : tl_RModel_giveAll_52 D I γ0 el0 f P632126 F632127 q632128 q632129 p632130 P654666 F654781 gm_F654667 el_F654667 70 F656378 P656377 gm_F656378 el_F656378 := kt52_656301 70 F656378 P656377 gm_F656378 el_F656378 (fun R c1 c2 => c1 P656288 F656289 gm_F656289 el_F656289 P656377 F656378 gm_F656378 el_F656378 o656365 hT656290 hs656291 x656294 x656295 x656297 x656298 x656299 x656300 hk656379 x656366 x656367 x656368 x656369 x656370 x656371 x656372 x656373 x656374 x656375 ht656376 r656443)
                have r656445 := x656374 (by omega)
                have gr656446 : rGr gm_F656378 el_F656378 F656378 q632129 (gm_F656378 6 f) (cB (F656378 (γ0 9 3))) (vA (gm_F656378 6 f)) := by rw [r656445.1, r656445.2.1, r656445.2.2]; exact x656299
                refine G_aload_n 1 dr_cX17_giveAll_70 rfl ?_
                refine G_aload_n 2 dr_cX17_giveAll_71 rfl ?_
                refine Gw_callV (As := [.ref q632129]) (gV_ok D I) (ct_410228_SpillForgeModel_weigh l hl0 D I gm_F656378 el_F656378 P656377 F656378 q632128 q632129 hT656383 ht656385 ht656386 (by omega)) dr_cX17_giveAll_72 ⟨wr_11_33, wr_1_14, wr_11_36, by decide, rfl, (Nat.le_of_ble_eq_true rfl), (Nat.le_of_ble_eq_true rfl)⟩ wr_11_35 wr_p_104 hm656392 he656393 rfl (rm_zc pk656390) (rm_zs pk656390) (Nat.le_of_ble_eq_true rfl) (fun r656450 w656451 dc656447 ds656448 hp656449 => ?_) (fun _ _ _ _ _ z => z.elim)
                obtain ⟨F656455, rfl, rfl, hT656456, hs656457, hdc, hds, x656452, x656453, ht656454⟩ := hp656449
                have hs656458 := rSk_str hs656384 hT656456 hs656457 (by decide) (by decide) (by decide)
                have kp656459 : F656455 q632128 = F656378 q632128 := x656452
                have kp656460 : F656455 (γ0 9 3) = F656378 (γ0 9 3) := (show F656455 (γ0 9 3) = F656378 (γ0 9 3) by rw [← congrFun (rSk_9 hs656458) 3]; exact x656453)
                have mk656461 : mKp (F632127 q632128) (F656455 q632128) := mKp_tr mk656388 (mKp_eq x656452)
                have he656462 : F656455 q632128 = .inr (22, [.ref (gm_F656378 9 0), .ref (gm_F656378 9 1), .ref (gm_F656378 9 2), .ref (gm_F656378 9 3), .ref (gm_F656378 9 4), .ref (gm_F656378 9 5), .ref (gm_F656378 9 6), .ref (gm_F656378 9 7), .ref (gm_F656378 9 8), .int p656396, .int p656397, .int p656398, .int p656399, .int p656400, .int p656401, .ref (gm_F656378 9 15), .ref (gm_F656378 9 16), .ref (gm_F656378 9 17), .ref (gm_F656378 9 18), .ref (gm_F656378 9 19), .ref (gm_F656378 9 20), .ref (gm_F656378 9 21), .ref (gm_F656378 9 22), .int p656402, .int p656403, .int p656404, .int p656405, .int p656406, .ref q656394, .ref (gm_F656378 9 29), .int p656407, .ref (gm_F656378 9 31), .int p656408, .int p656409, .int p656410, .ref q656395]) := (x656452).trans he656393
                change G _ _ _ _ _ _ _ _ _ _ _
                refine G_widen (cs' := ((rPh gm_F656378 el_F656378 f - rPh γ0 el0 f) / 18)) (sl' := (rPh gm_F656378 el_F656378 f - rPh γ0 el0 f)) (rm_d0 hdc) (rm_d0 hds) ?_
                have ni656463 : rNI gm_F656378 el_F656378 F656455 q632129 (gm_F656378 6 f) (fI (F656455 q632128) 11).toInt := rNI_s (rNI_str hT656383 ht656386 hf656387 hs656457 (by decide) ni656441) (by rw [x656452])
                have gr656464 : rGr gm_F656378 el_F656378 F656455 q632129 (gm_F656378 6 f) (cB (F656455 (γ0 9 3))) (vA (gm_F656378 6 f)) := by rw [← congrFun (rSk_9 hs656458) 3, x656453, congrFun (rSk_9 hs656458) 3]; exact gq_str hT656383 ht656386 hf656387 hs656457 (by decide) gr656446
                have ac656465 : (fI (F656455 q632128) 11).toInt = (fI (F656378 q632128) 11).toInt := by rw [kp656459]
                have ac656466 : (fI (F656455 q632128) 14).toInt = (fI (F656378 q632128) 14).toInt := by rw [kp656459]
                refine G_aload_n 1 dr_cX17_giveAll_75 rfl ?_
                refine G_iload_n 3 dr_cX17_giveAll_76 rfl ?_
                refine Gw_callV (As := [.int p632130]) (gV_ok D I) (ct_335943_SpillForgeModel_colours l hl0 D I gm_F656378 el_F656378 P656377 F656455 q632128 p632130 hT656456 ht656385 bp632130) dr_cX17_giveAll_77 ⟨wr_11_47, wr_1_14, wr_11_50, by decide, rfl, (Nat.le_of_ble_eq_true rfl), (Nat.le_of_ble_eq_true rfl)⟩ wr_11_49 wr_p_106 hm656392 he656462 rfl (rm_zc pk656390) (rm_zs pk656390) (Nat.le_of_ble_eq_true rfl) (fun r656470 w656471 dc656467 ds656468 hp656469 => ?_) (fun _ _ _ _ _ z => z.elim)
                obtain ⟨F656477, o656472, rfl, rfl, hT656478, hs656479, hdc, hds, bo656472, x656473, x656474, x656475, ht656476⟩ := hp656469
                have hs656480 := rSk_str hs656458 hT656478 hs656479 (by decide) (by decide) (by decide)
                have kp656481 : F656477 q632128 = F656378 q632128 := (x656474).trans kp656459
                have kp656482 : F656477 (γ0 9 3) = F656378 (γ0 9 3) := ((show F656477 (γ0 9 3) = F656455 (γ0 9 3) by rw [← congrFun (rSk_9 hs656480) 3]; exact x656475)).trans kp656460
                have mk656483 : mKp (F632127 q632128) (F656477 q632128) := mKp_tr mk656461 (mKp_eq x656474)
                have he656484 : F656477 q632128 = .inr (22, [.ref (gm_F656378 9 0), .ref (gm_F656378 9 1), .ref (gm_F656378 9 2), .ref (gm_F656378 9 3), .ref (gm_F656378 9 4), .ref (gm_F656378 9 5), .ref (gm_F656378 9 6), .ref (gm_F656378 9 7), .ref (gm_F656378 9 8), .int p656396, .int p656397, .int p656398, .int p656399, .int p656400, .int p656401, .ref (gm_F656378 9 15), .ref (gm_F656378 9 16), .ref (gm_F656378 9 17), .ref (gm_F656378 9 18), .ref (gm_F656378 9 19), .ref (gm_F656378 9 20), .ref (gm_F656378 9 21), .ref (gm_F656378 9 22), .int p656402, .int p656403, .int p656404, .int p656405, .int p656406, .ref q656394, .ref (gm_F656378 9 29), .int p656407, .ref (gm_F656378 9 31), .int p656408, .int p656409, .int p656410, .ref q656395]) := (x656474).trans he656462
                change G _ _ _ _ _ _ _ (.int o656472 :: _) _ _ _
                refine G_widen (cs' := ((rPh gm_F656378 el_F656378 f - rPh γ0 el0 f) / 18)) (sl' := (rPh gm_F656378 el_F656378 f - rPh γ0 el0 f)) (rm_d0 hdc) (rm_d0 hds) ?_
                have ni656485 : rNI gm_F656378 el_F656378 F656477 q632129 (gm_F656378 6 f) (fI (F656477 q632128) 11).toInt := rNI_s (rNI_str hT656456 ht656386 hf656387 hs656479 (by decide) ni656463) (by rw [x656474])
                have gr656486 : rGr gm_F656378 el_F656378 F656477 q632129 (gm_F656378 6 f) (cB (F656477 (γ0 9 3))) (vA (gm_F656378 6 f)) := by rw [← congrFun (rSk_9 hs656480) 3, x656475, congrFun (rSk_9 hs656480) 3]; exact gq_str hT656456 ht656386 hf656387 hs656479 (by decide) gr656464
                have ac656487 : (fI (F656477 q632128) 11).toInt = (fI (F656378 q632128) 11).toInt := by rw [kp656481]
                have ac656488 : (fI (F656477 q632128) 14).toInt = (fI (F656378 q632128) 14).toInt := by rw [kp656481]
                refine G_istore (L' := [(4, .int o656472), (3, .int g654665), (0, .ref q632128), (1, .ref q632129), (2, .int p632130)]) dr_cX17_giveAll_80 (Nat.le_of_ble_eq_true rfl) rfl ?_
                refine G_iload 0 dr_cX17_giveAll_82 rfl ?_
                refine G_if_ne 180 dr_cX17_giveAll_84 (by decide +kernel) (fun hc656489 => ?_) (fun hc656489 => ?_)
                · have r656490 : o656472.toInt ≠ 0 := gj_neq hc656489 (show Int32.toInt 0 = 0 by decide)
                  have bo656472' : gB o656472 1 2000 := ⟨by omega, by omega⟩
                  have ac656491 : (fI (F656477 q632128) 11).toInt = p656398.toInt := by rw [he656484]; rfl
                  have ac656492 : (fI (F656477 q632128) 14).toInt = p656401.toInt := by rw [he656484]; rfl
                  refine G_aload_n 2 dr_cX17_giveAll_180 rfl ?_
                  refine G_dup dr_cX17_giveAll_181 rfl ?_
                  have fq656493 : fI (F656477 q632128) 12 = p656399 := by rw [he656484]; rfl
                  refine Gp_get 12 hm656392 he656484 dr_cX17_giveAll_182 (gk_X17 D I) (Nat.le_of_ble_eq_true rfl) wr_7_86 rfl ?_
                  have bp656399 : gB p656399 (-2147483648) 2147483647 := (gB_any p656399)
                  refine G_iload 0 dr_cX17_giveAll_185 rfl ?_
                  refine G_iadd dr_cX17_giveAll_187 (G_nam fun z656494 hz656494 => ?_)
                  have bz656494 : gB z656494 (-2147483648) 2147483647 := gB_any z656494
                  refine Gp_put 12 hm656392 he656484 dr_cX17_giveAll_188 (gk_X17 D I) (Nat.le_of_ble_eq_true rfl) wr_7_86 rfl rfl rfl (Nat.le_of_ble_eq_true rfl) (fun F656495 e656496 n656497 => ?_)
                  have he656498 : F656495 q632128 = .inr (22, [.ref (gm_F656378 9 0), .ref (gm_F656378 9 1), .ref (gm_F656378 9 2), .ref (gm_F656378 9 3), .ref (gm_F656378 9 4), .ref (gm_F656378 9 5), .ref (gm_F656378 9 6), .ref (gm_F656378 9 7), .ref (gm_F656378 9 8), .int p656396, .int p656397, .int p656398, .int z656494, .int p656400, .int p656401, .ref (gm_F656378 9 15), .ref (gm_F656378 9 16), .ref (gm_F656378 9 17), .ref (gm_F656378 9 18), .ref (gm_F656378 9 19), .ref (gm_F656378 9 20), .ref (gm_F656378 9 21), .ref (gm_F656378 9 22), .int p656402, .int p656403, .int p656404, .int p656405, .int p656406, .ref q656394, .ref (gm_F656378 9 29), .int p656407, .ref (gm_F656378 9 31), .int p656408, .int p656409, .int p656410, .ref q656395]) := e656496
                  have mk656499 : mKp (F632127 q632128) (F656495 q632128) := mKp_tr mk656483 (by rw [he656484, he656498]; exact ⟨rfl, rfl⟩)
                  have kp656500 : F656495 (γ0 9 3) = F656378 (γ0 9 3) := (n656497 (γ0 9 3) (rn_ty (rSk_k hs656480 k0_3 (by decide) (by decide)) ht656385 (by decide))).trans kp656482
                  have kp656501 : F656495 (γ0 9 17) = F656477 (γ0 9 17) := n656497 (γ0 9 17) (rn_ty (rSk_k hs656480 k0_17 (by decide) (by decide)) ht656385 (by decide))
                  have fq656502 : F656495 q632128 = cF (F656477 q632128) 12 (.int z656494) := by rw [he656498, he656484]; rfl
                  have hT656503 : RS D I P656377 F656495 gm_F656378 el_F656378 := RS_set hT656478 n656497 ht656385 (by decide) ⟨q656394, q656395, p656396, p656397, p656398, z656494, p656400, p656401, p656402, p656403, p656404, p656405, p656406, p656407, p656408, p656409, p656410, he656498, ⟨(hB656437.1), (hB656437.2.1), bp656398, bp656401, (hB656437.2.2.2.2.1), (hB656437.2.2.2.2.2.1), (hB656437.2.2.2.2.2.2.1), (hB656437.2.2.2.2.2.2.2.1), (hB656437.2.2.2.2.2.2.2.2)⟩, ht656411, ht656412, ht656413, ht656414, ht656415, ht656416, ht656417, ht656418, ht656419, ht656420, ht656421, ht656422, ht656423, ht656424, ht656425, ht656426, ht656427, ht656428, ht656429, ht656430, ht656431, ht656432, ht656433, ht656434, hB656438⟩
                  have hs656504 := rSk_put hs656480 hT656503 n656497 ht656385 (by decide) (by decide) (Or.inr (Or.inr (by decide)))
                  have ac656505 : (fI (F656495 q632128) 11).toInt = p656398.toInt := by rw [he656498]; rfl
                  have ac656506 : (fI (F656495 q632128) 14).toInt = p656401.toInt := by rw [he656498]; rfl
                  have gr656508 := rNI_gr ni656485 gr656486
                  have p3656509 : (fI (F656495 q632128) 11).toInt + (rcn (cB (F656495 (γ0 9 3))) 100 : Nat) ≤ 100 := by rw [(n656497 (γ0 9 3) (rn_ty (rSk_k hs656504 k0_3 (by decide) (by decide)) ht656385 (by decide)))]; have z := gr656508.1; omega
                  have p4656510 : rPl gm_F656378 el_F656378 F656495 q632129 (gm_F656378 6 f) (fun _ _ => rNx (rSd (cB (F656495 (γ0 9 3))))) := by rw [(n656497 (γ0 9 3) (rn_ty (rSk_k hs656504 k0_3 (by decide) (by decide)) ht656385 (by decide)))]; exact rPl_fr hT656478 ht656386 hf656387 gr656508.2 (fun b hb _ => n656497 b (rn_ty (show rKd gm_F656378 b 1 from hb) ht656385 (by decide)))
                  refine G_aload_n 2 dr_cX17_giveAll_191 rfl ?_
                  refine G_aload_n 3 dr_cX17_giveAll_192 rfl ?_
                  have rg656511 := rM_ge hT656503 ht656386 hf656387
                  have rm656512 := rM_bd hB656382
                  have bd656513 := rBd_c hT656503 ht656386 hf656387 hB656382
                  have rc656514 := rc_at hT656503 ht656386 hf656387
                  refine Gw_callV (As := [.ref q632129]) (gV_ok D I) (cg_590099_SpillForgeModel_spill l hl0 D I gm_F656378 el_F656378 f B P656377 F656495 q632128 q632129 hT656503 ht656385 ht656386 hf656387 hB656382 hBk (by omega) (by omega) (by omega) (by rw [congrFun (rSk_9 hs656504) 3]; exact p3656509) (by rw [congrFun (rSk_9 hs656504) 3]; exact p4656510) (by omega)) dr_cX17_giveAll_193 ⟨wr_11_63, wr_1_14, wr_11_66, by decide, rfl, (Nat.le_of_ble_eq_true rfl), (Nat.le_of_ble_eq_true rfl)⟩ wr_11_65 wr_p_110 hm656392 he656498 rfl (rm_gc hph656389 pk656390) (rm_gs hph656389 pk656390) (Nat.le_of_ble_eq_true rfl) (fun r656518 w656519 dc656515 ds656516 hp656517 => ?_) (fun _ _ _ _ _ z => z.elim)
                  obtain ⟨P656526, F656527, gm_F656527, el_F656527, o656520, rfl, rfl, hk656528, ⟨hr656529, hr656530⟩, hB656531, bo656520, x656521, x656522, x656523, x656524, ht656525⟩ := hp656517
                  have hT656532 := hk656528.1
                  have hs656533 := rSk_tr hs656504 hk656528 (by decide) (by decide) (by decide)
                  have ht656534 : rKd gm_F656527 q632128 10 := rSk_k hk656528 ht656385 (by decide) (by decide)
                  have ht656535 : rKd gm_F656527 q632129 9 := rSk_k hk656528 ht656386 (by decide) (by decide)
                  have hf656536 : gm_F656527 1 q632129 = f := rSk_1 hk656528 ht656386 (by decide) hf656387
                  clear rg656511 rm656512 bd656513 rc656514
                  have mk656537 : mKp (F632127 q632128) (F656527 q632128) := mKp_tr mk656499 x656524
                  have hph656538 : rPh γ0 el0 f ≤ rPh gm_F656527 el_F656527 f := rm_ph hph656389 hr656530
                  have pk656539 : rPh gm_F656527 el_F656527 f ≤ 387 * B + 6000 := rm_pk (rM_ge hT656532 ht656535 hf656536).1 (rM_bd hB656531)
                  change G _ _ _ _ _ _ _ (.int o656520 :: _) _ _ _
                  refine G_widen (cs' := ((rPh gm_F656527 el_F656527 f - rPh γ0 el0 f) / 18)) (sl' := (rPh gm_F656527 el_F656527 f - rPh γ0 el0 f)) (rm_wc hph656389 hr656529) (rm_ws hph656389 hr656530) ?_
                  have r656540 : 0 < gm_F656527 6 (gm_F656527 1 q632129) := by rw [hf656536]; omega
                  have hm656541 : q632128 ∈ P656526 := RS_m hT656532 ht656534 (by decide)
                  refine rk10_e (show rk_10 gm_F656527 (F656527 q632128) from RS_o hT656532 ht656534) (fun q656543 q656544 p656545 p656546 p656547 p656548 p656549 p656550 p656551 p656552 p656553 p656554 p656555 p656556 p656557 p656558 p656559 he656542 hB656586 ht656560 ht656561 ht656562 ht656563 ht656564 ht656565 ht656566 ht656567 ht656568 ht656569 ht656570 ht656571 ht656572 ht656573 ht656574 ht656575 ht656576 ht656577 ht656578 ht656579 ht656580 ht656581 ht656582 ht656583 hB656587 => ?_)
                  have ac656588 : (fI (F656527 q632128) 11).toInt = p656547.toInt := by rw [he656542]; rfl
                  have bp656547 : gB p656547 0 100 := (hB656586.2.2.1)
                  have ac656589 : (fI (F656527 q632128) 14).toInt = p656550.toInt := by rw [he656542]; rfl
                  have bp656550 : gB p656550 0 2000 := (hB656586.2.2.2.1)
                  refine G_if_ne 201 dr_cX17_giveAll_196 (by decide +kernel) (fun hc656590 => ?_) (fun hc656590 => ?_)
                  · have r656591 : o656520.toInt ≠ 0 := gj_neq hc656590 (show Int32.toInt 0 = 0 by decide)
                    have bo656520' : gB o656520 1 1 := gB_t1 bo656520 r656591
                    have ni656592 := x656522.resolve_left (by omega)
                    clear x656522
                    obtain ⟨rni656592a, rni656592b, rni656592c, rni656592d, rni656592e, rni656592f⟩ := ni656592
                    obtain ⟨z656593, hz656593⟩ : ∃ z : Int32, z = g654665 + Int32.ofInt 1 := ⟨_, rfl⟩
                    have ez656593 : z656593.toInt = g654665.toInt + 1 := gI_inc hz656593 (by decide) bg654665' (by decide) (by decide)
                    have bz656593 : gB z656593 2 41 := ⟨by omega, by omega⟩
                    refine G_iinc (L' := [(3, .int z656593), (4, .int o656472), (0, .ref q632128), (1, .ref q632129), (2, .int p632130)]) z656593 1 dr_cX17_giveAll_201 rfl hz656593.symm (Nat.le_of_ble_eq_true rfl) rfl ?_
                    refine G_goto 28 dr_cX17_giveAll_204 (by decide +kernel) ?_
                    refine G_lv (L' := [(3, .int z656593), (0, .ref q632128), (1, .ref q632129), (2, .int p632130)]) [0, 2, 3, 4] rfl ?_
                    have ac656594 : (fI (F656527 q632128) 11).toInt = p656547.toInt := by rw [he656542]; rfl
                    have ac656595 : (fI (F656527 q632128) 14).toInt = p656550.toInt := by rw [he656542]; rfl
                    exact ih28_654677 P656526 F656527 gm_F656527 el_F656527 z656593 (gB_w bz656593 (by decide) (by decide)) hT656532 hs656533 hph656538 hB656531 (by omega) (by omega) (by omega) (by omega) rni656592f mk656537 (fun k e1 e2 e3 e4 e5 ht => kt28_654678 k e1 e2 e3 e4 e5 (fun R c1 c2 c3 c4 c5 => c2 P654666 F654667 gm_F654667 el_F654667 g654665 o654769 F654781 F656378 P656377 gm_F656378 el_F656378 F656455 o656472 F656477 p656399 z656494 F656495 P656526 F656527 gm_F656527 el_F656527 o656520 z656593 k e1 e2 e3 e4 e5 bg654665 hT654668 hs654669 x654672 x654673 x654675 x654676 x654677 r654736 ht654770 r654772 hT654782 hs654783 x654778 x654779 ht654780 hx656444 hT656456 hs656457 x656452 x656453 ht656454 bo656472 hT656478 hs656479 x656473 x656474 x656475 ht656476 r656490 fq656493 hz656494 n656497 fq656502 hk656528 x656521 x656523 x656524 ht656525 r656591 ez656593 (ht R c1 c2 c3 c4 c5))) (by omega)
                  · have r656596 : o656520.toInt = 0 := gj_eq hc656590 (show Int32.toInt 0 = 0 by decide)
                    have bo656520' : gB o656520 0 0 := gB_t0 r656596
                    have hx656597 : tl_RModel_giveAll_28 D I γ0 el0 f P632126 F632127 q632128 q632129 p632130 P632242 F632243 gm_F632243 el_F632243 (1 : Int32) 199 F656527 P656526 gm_F656527 el_F656527 (0 : Int32) := kt28_654678 199 F656527 P656526 gm_F656527 el_F656527 (0 : Int32) (fun R c1 c2 c3 c4 c5 => c3 P654666 F654667 gm_F654667 el_F654667 g654665 o654769 F654781 F656378 P656377 gm_F656378 el_F656378 F656455 o656472 F656477 p656399 z656494 F656495 P656526 F656527 gm_F656527 el_F656527 o656520 bg654665 hT654668 hs654669 x654672 x654673 x654675 x654676 x654677 r654736 ht654770 r654772 hT654782 hs654783 x654778 x654779 ht654780 hx656444 hT656456 hs656457 x656452 x656453 ht656454 bo656472 hT656478 hs656479 x656473 x656474 x656475 ht656476 r656490 fq656493 hz656494 n656497 fq656502 hk656528 x656521 x656523 x656524 ht656525 r656596)
                    refine G_iconst (-1) dr_cX17_giveAll_199 (by decide +kernel) ?_
                    exact G_iretA dr_cX17_giveAll_200 rfl (show ((rPh gm_F656527 el_F656527 f - rPh γ0 el0 f) / 18) ≤ (((387 * B + 6000) - rPh γ0 el0 f) / 18) by omega) (show (rPh gm_F656527 el_F656527 f - rPh γ0 el0 f) ≤ ((387 * B + 6000) - rPh γ0 el0 f) by omega) ⟨P656526, F656527, gm_F656527, el_F656527, (-1), rfl, rfl, hs656533, ⟨by omega, by omega⟩, hB656531, (gB_w (gBl (show Int32.toInt (-1) = (-1) by decide)) (by decide) (by decide)), (by have qa0 : Int32.toInt (-1) = (-1) := (by decide); omega), mk656537, (fun R c1 c2 c3 c4 => c2 gm_0 el_0 F632188 F632196 F632205 F632214 P632242 F632243 gm_F632243 el_F632243 F656527 P656526 gm_F656527 el_F656527 hγ0 hel0 n632190 fq632195 n632198 fq632204 n632207 fq632213 n632216 fq632222 hk632244 x632236 x632237 x632238 x632239 x632240 ht632241 hx656597)⟩
                · have r656598 : o656472.toInt = 0 := gj_eq hc656489 (show Int32.toInt 0 = 0 by decide)
                  have bo656472' : gB o656472 0 0 := ⟨by omega, by omega⟩
                  have hx656599 : tl_RModel_giveAll_28 D I γ0 el0 f P632126 F632127 q632128 q632129 p632130 P632242 F632243 gm_F632243 el_F632243 (1 : Int32) 87 F656477 P656377 gm_F656378 el_F656378 g654665 := kt28_654678 87 F656477 P656377 gm_F656378 el_F656378 g654665 (fun R c1 c2 c3 c4 c5 => c4 P654666 F654667 gm_F654667 el_F654667 g654665 o654769 F654781 F656378 P656377 gm_F656378 el_F656378 F656455 o656472 F656477 bg654665 hT654668 hs654669 x654672 x654673 x654675 x654676 x654677 r654736 ht654770 r654772 hT654782 hs654783 x654778 x654779 ht654780 hx656444 hT656456 hs656457 x656452 x656453 ht656454 bo656472 hT656478 hs656479 x656473 x656474 x656475 ht656476 r656598)
                  have cq656600 : rPl gm_F656378 el_F656378 F656477 q632129 (gm_F656378 6 f) (cqR (cB (F656477 (γ0 9 17))) 0 0) := cq_0 gr656486 (fun m hm => by have z := x656473 (by omega); rw [congrFun (rSk_9 hs656480) 3, congrFun (rSk_9 hs656480) 17] at z; exact z m hm)
                  refine G_iconst 0 dr_cX17_giveAll_87 (by decide +kernel) ?_
                  refine G_istore (L' := [(5, .int 0), (4, .int o656472), (3, .int g654665), (0, .ref q632128), (1, .ref q632129), (2, .int p632130)]) dr_cX17_giveAll_88 (Nat.le_of_ble_eq_true rfl) rfl ?_
                  have hlp90_657208 : ∀ (n90_657208 : Nat) (P657196 : List Nat) (F657197 : Nat → va_E) (gm_F657197 el_F657197 : Nat → Nat → Nat) (g657195 : Int32), gB g657195 0 1000000 → RS D I P657196 F657197 gm_F657197 el_F657197 → rSk f [101] ([1, 3, 5, 6, 8, 9, 101] ++ npk) D I P632126 F632127 γ0 el0 P657196 F657197 gm_F657197 el_F657197 → rPh γ0 el0 f ≤ rPh gm_F657197 el_F657197 f → rBd gm_F657197 el_F657197 f B → gm_F657197 6 f = γ0 6 f → ((gm_F657197 7 f : Nat) : Int) = (fI (F657197 q632128) 11).toInt → ((gm_F657197 16 f : Nat) : Int) + 2001 ≤ (B : Int) + (fI (F657197 q632128) 14).toInt → 100 ≤ (fI (F657197 q632128) 14).toInt → (F657197 (γ0 9 17) = F656477 (γ0 9 17)) → rPl gm_F657197 el_F657197 F657197 q632129 (gm_F657197 6 f) (cqR (cB (F656477 (γ0 9 17))) (g657195.toInt : Int).toNat 0) → mKp (F632127 q632128) (F657197 q632128) → (∀ (k : Nat) (e1 : Nat → va_E) (e2 : List Nat) (e3 : Nat → Nat → Nat) (e4 : Nat → Nat → Nat), tl_RModel_giveAll_90 D I γ0 el0 f P632126 F632127 q632128 F656477 q632129 P657196 F657197 gm_F657197 el_F657197 g657195 k e1 e2 e3 e4 → tl_RModel_giveAll_90 D I γ0 el0 f P632126 F632127 q632128 F656477 q632129 P656377 F656477 gm_F656378 el_F656378 (0 : Int32) k e1 e2 e3 e4) → ((1000001 : Int) - g657195.toInt).toNat < n90_657208 → G (gV D I) l (gRm 10 224 (((387 * B + 6000) - rPh γ0 el0 f) / 18) ((387 * B + 6000) - rPh γ0 el0 f)) (gMA (gV D I) (pg_632134_SpillForgeModel_giveAll D I γ0 el0 f B P632126 F632127 q632128 q632129 p632130) gNA (((387 * B + 6000) - rPh γ0 el0 f) / 18) ((387 * B + 6000) - rPh γ0 el0 f)) ky_632134_SpillForgeModel_giveAll 90 [(5, .int g657195), (4, .int o656472), (3, .int g654665), (0, .ref q632128), (1, .ref q632129), (2, .int p632130)] [] (va_pl P657196 F657197) ((rPh gm_F657197 el_F657197 f - rPh γ0 el0 f) / 18) (rPh gm_F657197 el_F657197 f - rPh γ0 el0 f) := by
                    intro n90_657208
                    induction n90_657208 with
                    | zero => intro P657196 F657197 gm_F657197 el_F657197 g657195 bg657195 hT657198 hs657199 hph657200 hB657201 x657202 x657203 x657204 x657205 x657206 x657207 x657208 kt90_657209 hm90_657208; exact absurd hm90_657208 (Nat.not_lt_zero _)
                    | succ n90_657208 ih90_657208 =>
                      intro P657196 F657197 gm_F657197 el_F657197 g657195 bg657195 hT657198 hs657199 hph657200 hB657201 x657202 x657203 x657204 x657205 x657206 x657207 x657208 kt90_657209 hm90_657208
                      clear hr656380 hr656381 hph656389 pk656390 r656391 r656445
                      have ht657210 : rKd gm_F657197 q632128 10 := rSk_k hs657199 hzq632128 (by decide) (by decide)
                      have ht657211 : rKd gm_F657197 q632129 9 := rSk_k hs657199 hzq632129 (by decide) (by decide)
                      have hf657212 : gm_F657197 1 q632129 = f := rSk_1 hs657199 hzq632129 (by decide) hf0
                      have pk657213 : rPh gm_F657197 el_F657197 f ≤ 387 * B + 6000 := rm_pk (rM_ge hT657198 ht657211 hf657212).1 (rM_bd hB657201)
                      have r657214 : 0 < gm_F657197 6 (gm_F657197 1 q632129) := by rw [hf657212]; omega
                      have hm657215 : q632128 ∈ P657196 := RS_m hT657198 ht657210 (by decide)
                      refine rk10_e (show rk_10 gm_F657197 (F657197 q632128) from RS_o hT657198 ht657210) (fun q657217 q657218 p657219 p657220 p657221 p657222 p657223 p657224 p657225 p657226 p657227 p657228 p657229 p657230 p657231 p657232 p657233 he657216 hB657260 ht657234 ht657235 ht657236 ht657237 ht657238 ht657239 ht657240 ht657241 ht657242 ht657243 ht657244 ht657245 ht657246 ht657247 ht657248 ht657249 ht657250 ht657251 ht657252 ht657253 ht657254 ht657255 ht657256 ht657257 hB657261 => ?_)
                      have ac657262 : (fI (F657197 q632128) 11).toInt = p657221.toInt := by rw [he657216]; rfl
                      have bp657221 : gB p657221 0 100 := (hB657260.2.2.1)
                      have ac657263 : (fI (F657197 q632128) 14).toInt = p657224.toInt := by rw [he657216]; rfl
                      have bp657224 : gB p657224 0 2000 := (hB657260.2.2.2.1)
                      refine G_iload 0 dr_cX17_giveAll_90 rfl ?_
                      refine G_aload_n 4 dr_cX17_giveAll_92 rfl ?_
                      have hm657264 : q632129 ∈ P657196 := RS_m hT657198 ht657211 (by decide)
                      obtain ⟨q657266, q657267, p657268, p657269, he657265, ht657285, ht657270, ht657271, ht657272, ht657273, r657274, r657275, r657276, r657277, r657278, r657279, r657280, r657281, r657282, r657283, r657284⟩ := show rk_9 gm_F657197 el_F657197 q632129 (F657197 q632129) from RS_o hT657198 ht657211
                      have bp657268 : gB p657268 0 1000000 := ⟨by omega, by omega⟩
                      have bp657269 : gB p657269 0 1000000 := ⟨by omega, by omega⟩
                      have hf657286 : gm_F657197 1 q657266 = f := (show gm_F657197 1 q657266 = gm_F657197 1 q632129 from ht657271).trans hf657212
                      have hf657287 : gm_F657197 1 q657267 = f := (show gm_F657197 1 q657267 = gm_F657197 1 q632129 from ht657273).trans hf657212
                      have r657288 : gm_F657197 6 (gm_F657197 1 q632129) = gm_F657197 6 f := by rw [hf657212]
                      have r657289 : gm_F657197 16 (gm_F657197 1 q632129) = gm_F657197 16 f := by rw [hf657212]
                      have r657290 : p657269.toInt = gm_F657197 6 f ∧ p657269.toInt ≤ 40 := by omega
                      clear r657280
                      have fq657291 : fI (F657197 q632129) 3 = p657269 := by rw [he657265]; rfl
                      refine Gw_callV (As := []) (gV_ok D I) (cp_12780_Code_size l hl0 D I P657196 F657197 q632129 q657266 q657267 p657268 p657269 hm657264 he657265) dr_cX17_giveAll_93 ⟨wr_10_160, wr_1_15, wr_9_131, by decide, rfl, (Nat.le_of_ble_eq_true rfl), (Nat.le_of_ble_eq_true rfl)⟩ wr_9_129 wr_9_130 hm657264 he657265 rfl (rm_zc pk657213) (rm_zs pk657213) (Nat.le_of_ble_eq_true rfl) (fun r657295 w657296 dc657292 ds657293 hp657294 => ?_) (fun _ _ _ _ _ z => z.elim)
                      obtain ⟨rfl, rfl, hdc, hds⟩ := hp657294
                      change G _ _ _ _ _ _ _ (.int p657269 :: _) _ _ _
                      refine G_widen (cs' := ((rPh gm_F657197 el_F657197 f - rPh γ0 el0 f) / 18)) (sl' := (rPh gm_F657197 el_F657197 f - rPh γ0 el0 f)) (rm_d0 hdc) (rm_d0 hds) ?_
                      refine G_icmp_ge 173 dr_cX17_giveAll_96 (by decide +kernel) (fun hc657297 => ?_) (fun hc657297 => ?_)
                      · have r657298 : p657269.toInt ≤ g657195.toInt := gC_le hc657297
                        have hx657299 : tl_RModel_giveAll_90 D I γ0 el0 f P632126 F632127 q632128 F656477 q632129 P656377 F656477 gm_F656378 el_F656378 (0 : Int32) 173 F657197 P657196 gm_F657197 el_F657197 := kt90_657209 173 F657197 P657196 gm_F657197 el_F657197 (fun R c1 c2 => c1 P657196 F657197 gm_F657197 el_F657197 g657195 p657269 bg657195 hT657198 hs657199 x657202 x657203 x657205 x657206 x657207 x657208 fq657291 r657298)
                        have r657300 : gm_F657197 7 (gm_F657197 1 q632129) = gm_F657197 7 f := by rw [hf657212]
                        have ac657301 : (fI (F657197 q632128) 11).toInt = p657221.toInt := by rw [he657216]; rfl
                        have ac657302 : (fI (F657197 q632128) 14).toInt = p657224.toInt := by rw [he657216]; rfl
                        refine G_aload_n 3 dr_cX17_giveAll_173 rfl ?_
                        refine G_aload_n 4 dr_cX17_giveAll_174 rfl ?_
                        refine Gw_callV (As := [.ref q632129]) (gV_ok D I) (ct_344914_SpillForgeModel_share l hl0 D I gm_F657197 el_F657197 P657196 F657197 q632128 q632129 hT657198 ht657210 ht657211 (by omega) (by omega)) dr_cX17_giveAll_175 ⟨wr_11_59, wr_1_14, wr_11_62, by decide, rfl, (Nat.le_of_ble_eq_true rfl), (Nat.le_of_ble_eq_true rfl)⟩ wr_11_61 wr_p_109 hm657215 he657216 rfl (rm_zc pk657213) (rm_zs pk657213) (Nat.le_of_ble_eq_true rfl) (fun r657306 w657307 dc657303 ds657304 hp657305 => ?_) (fun _ _ _ _ _ z => z.elim)
                        obtain ⟨F657311, rfl, rfl, hT657312, hs657313, hdc, hds, x657308, x657309, ht657310⟩ := hp657305
                        have he657314 : F657311 q632129 = .inr (18, [.ref q657266, .ref q657267, .int p657268, .int p657269]) := (hs657313 q632129 (rT0 ht657211 (by decide)) (rT1 ht657211 (by decide)) (rT2 ht657211 (by decide))).trans he657265
                        have hs657315 := rSk_str hs657199 hT657312 hs657313 (by decide) (by decide) (by decide) (Or.inr (rFs_e x657308 hf657212))
                        have mk657316 : mKp (F632127 q632128) (F657311 q632128) := mKp_tr x657208 x657309
                        change G _ _ _ _ _ _ _ _ _ _ _
                        refine G_widen (cs' := ((rPh gm_F657197 el_F657197 f - rPh γ0 el0 f) / 18)) (sl' := (rPh gm_F657197 el_F657197 f - rPh γ0 el0 f)) (rm_d0 hdc) (rm_d0 hds) ?_
                        refine G_iload_n 2 dr_cX17_giveAll_178 rfl ?_
                        exact G_iretA dr_cX17_giveAll_179 rfl (show ((rPh gm_F657197 el_F657197 f - rPh γ0 el0 f) / 18) ≤ (((387 * B + 6000) - rPh γ0 el0 f) / 18) by omega) (show (rPh gm_F657197 el_F657197 f - rPh γ0 el0 f) ≤ ((387 * B + 6000) - rPh γ0 el0 f) by omega) ⟨P657196, F657311, gm_F657197, el_F657197, g654665, rfl, rfl, hs657315, ⟨by omega, by omega⟩, hB657201, (gB_w bg654665' (by decide) (by decide)), (by omega), mk657316, (fun R c1 c2 c3 c4 => c3 gm_0 el_0 F632188 F632196 F632205 F632214 P632242 F632243 gm_F632243 el_F632243 F656477 P656377 gm_F656378 el_F656378 g654665 F657197 P657196 gm_F657197 el_F657197 F657311 hγ0 hel0 n632190 fq632195 n632198 fq632204 n632207 fq632213 n632216 fq632222 hk632244 x632236 x632237 x632238 x632239 x632240 ht632241 hx656599 hx657299 hT657312 hs657313 x657308 x657309 ht657310)⟩
                      · have r657317 : g657195.toInt < p657269.toInt := gC_nle hc657297
                        have bg657195' : gB g657195 0 999999 := ⟨by omega, by omega⟩
                        have bp657269' : gB p657269 1 1000000 := ⟨by omega, by omega⟩
                        refine G_aload_n 4 dr_cX17_giveAll_99 rfl ?_
                        refine G_iload 0 dr_cX17_giveAll_100 rfl ?_
                        have hm657318 : q657266 ∈ P657196 := RS_m hT657198 ht657270 (by decide)
                        obtain ⟨⟨p657320, p657321, q657322, he657319, r657323, r657324, r657325, r657327⟩, r657326⟩ := show rk_4 D I gm_F657197 el_F657197 F657197 q657266 from RS_o hT657198 ht657270
                        have bp657320 := gB_any p657320
                        have bp657321 : gB p657321 0 1000000 := ⟨by omega, by omega⟩
                        obtain ⟨r657328, r657329, n657336, f657337, r657330, r657331, r657332, r657333, r657334, r657335⟩ := rLC_n r657325 (by omega)
                        have hm657338 : q657322 ∈ P657196 := RS_m hT657198 r657328 (by decide)
                        obtain ⟨q657339, hx657340⟩ : ∃ x, x = el_F657197 q657266 g657195.toInt.toNat := ⟨_, rfl⟩
                        have fq657344 : fR (F657197 q632129) 0 = q657266 := by rw [he657265]; rfl
                        have hx657341 : f657337 g657195.toNatClampNeg = some q657339 := (r657334 _ (show g657195.toInt.toNat < gm_F657197 2 q657266 by first | assumption | omega)).trans (by rw [hx657340])
                        have ht657345 : rKd gm_F657197 q657339 2 := by rw [hx657340]; exact (r657281 _ (by omega)).resolve_right (fun z => absurd z.1 (by omega))
                        have ht657346 : rFm gm_F657197 q657339 q657266 := by rw [hx657340]; exact (r657326 _ (show g657195.toInt.toNat < gm_F657197 2 q657266 by omega)).2.1
                        have hm657347 : q657339 ∈ P657196 := RS_m hT657198 ht657345 (by decide)
                        obtain ⟨q657349, q657350, p657351, p657352, he657348, ht657359, ht657353, ht657354, ht657355, ht657356, ht657357, bp657351, bp657352, r657358, r657360, r657361⟩ := show rk_2 gm_F657197 q657339 (F657197 q657339) from RS_o hT657198 ht657345
                        have fq657362 : fI (F657197 q657266) 2 = p657321 := by rw [he657319]; rfl
                        refine Gw_callV (As := [.int g657195]) (gV_ok D I) (cp_7901_Code_get l hl0 D I P657196 F657197 q632129 q657266 q657322 g657195 q657267 p657268 p657269 p657320 p657321 f657337 n657336 q657339 q657349 q657350 p657351 p657352 hm657264 hm657318 hm657338 hm657347 he657265 he657319 r657330 he657348 (gB_w bg657195' (by decide) (by decide)) (gB_w bp657321 (by decide) (by decide)) (by omega) (by omega) (by assumption) (by omega)) dr_cX17_giveAll_102 ⟨wr_10_161, wr_1_15, wr_10_141, by decide, rfl, (Nat.le_of_ble_eq_true rfl), (Nat.le_of_ble_eq_true rfl)⟩ wr_10_139 wr_10_140 hm657264 he657265 rfl (rm_zc pk657213) (rm_zs pk657213) (Nat.le_of_ble_eq_true rfl) (fun r657366 w657367 dc657363 ds657364 hp657365 => ?_) (fun _ _ _ _ _ z => z.elim)
                        obtain ⟨rfl, rfl, hdc, hds, ht657368⟩ := hp657365
                        change G _ _ _ _ _ _ _ (.ref q657339 :: _) _ _ _
                        refine G_widen (cs' := ((rPh gm_F657197 el_F657197 f - rPh γ0 el0 f) / 18)) (sl' := (rPh gm_F657197 el_F657197 f - rPh γ0 el0 f)) (rm_d0 hdc) (rm_d0 hds) ?_
                        have hf657369 : gm_F657197 1 q657339 = f := (show gm_F657197 1 q657339 = gm_F657197 1 q657266 from ht657346).trans ((show gm_F657197 1 q657266 = gm_F657197 1 q632129 from ht657271).trans hf657212)
                        have hf657370 : gm_F657197 1 q657349 = f := (show gm_F657197 1 q657349 = gm_F657197 1 q657339 from ht657354).trans hf657369
                        have hf657371 : gm_F657197 1 q657350 = f := (show gm_F657197 1 q657350 = gm_F657197 1 q657339 from ht657356).trans hf657369
                        have r657372 : gm_F657197 6 (gm_F657197 1 q657339) = gm_F657197 6 f := by rw [hf657369]
                        have r657373 : gm_F657197 7 (gm_F657197 1 q657339) = gm_F657197 7 f := by rw [hf657369]
                        have r657374 : gm_F657197 19 (gm_F657197 1 q657339) = gm_F657197 19 f := by rw [hf657369]
                        have r657375 := r657358.resolve_left (by omega)
                        clear r657358
                        have r657376 : gm_F657197 2 (gm_F657197 14 q657339) = gm_F657197 2 q657349 := by rw [ht657359.1]
                        have r657377 : g657195.toInt.toNat < gm_F657197 2 (gm_F657197 14 q632129) := by rw [ht657285.1]; omega
                        have r657378 : el_F657197 (gm_F657197 14 q632129) g657195.toInt.toNat = q657339 := by rw [ht657285.1, hx657340]
                        refine G_astore (L' := [(6, .ref q657339), (5, .int g657195), (4, .int o656472), (3, .int g654665), (0, .ref q632128), (1, .ref q632129), (2, .int p632130)]) dr_cX17_giveAll_105 (Nat.le_of_ble_eq_true rfl) rfl ?_
                        refine G_iconst 0 dr_cX17_giveAll_107 (by decide +kernel) ?_
                        refine G_istore (L' := [(7, .int 0), (6, .ref q657339), (5, .int g657195), (4, .int o656472), (3, .int g654665), (0, .ref q632128), (1, .ref q632129), (2, .int p632130)]) dr_cX17_giveAll_108 (Nat.le_of_ble_eq_true rfl) rfl ?_
                        have hlp110_657604 : ∀ (n110_657604 : Nat) (P657586 : List Nat) (F657587 : Nat → va_E) (gm_F657587 el_F657587 : Nat → Nat → Nat) (g657585 : Int32), gB g657585 0 1000001 → RS D I P657586 F657587 gm_F657587 el_F657587 → rSk f [101] ([1, 3, 5, 6, 8, 9, 101] ++ npk) D I P632126 F632127 γ0 el0 P657586 F657587 gm_F657587 el_F657587 → rPh γ0 el0 f ≤ rPh gm_F657587 el_F657587 f → rBd gm_F657587 el_F657587 f B → rKd gm_F657587 q657339 2 → gm_F657587 1 q657339 = f → g657195.toInt.toNat < gm_F657587 2 (gm_F657587 14 q632129) → el_F657587 (gm_F657587 14 q632129) g657195.toInt.toNat = q657339 → gm_F657587 6 f = γ0 6 f → ((gm_F657587 7 f : Nat) : Int) = (fI (F657587 q632128) 11).toInt → ((gm_F657587 16 f : Nat) : Int) + 2001 ≤ (B : Int) + (fI (F657587 q632128) 14).toInt → 100 ≤ (fI (F657587 q632128) 14).toInt → (F657587 (γ0 9 17) = F656477 (γ0 9 17)) → rPl gm_F657587 el_F657587 F657587 q632129 (gm_F657587 6 f) (cqR (cB (F656477 (γ0 9 17))) (g657195.toInt : Int).toNat (g657585.toInt : Int).toNat) → (g657585.toInt : Int) ≤ gm_F657587 2 (gm_F657587 14 q657339) + 1 → (g657195.toInt : Int) < gm_F657587 6 f → mKp (F632127 q632128) (F657587 q632128) → (∀ (k : Nat) (e1 : Nat → va_E) (e2 : List Nat) (e3 : Nat → Nat → Nat) (e4 : Nat → Nat → Nat), tl_RModel_giveAll_110 D I γ0 el0 f P632126 F632127 q632128 F656477 q632129 g657195 q657339 P657586 F657587 gm_F657587 el_F657587 g657585 k e1 e2 e3 e4 → tl_RModel_giveAll_110 D I γ0 el0 f P632126 F632127 q632128 F656477 q632129 g657195 q657339 P657196 F657197 gm_F657197 el_F657197 (0 : Int32) k e1 e2 e3 e4) → ((1000002 : Int) - g657585.toInt).toNat < n110_657604 → G (gV D I) l (gRm 10 224 (((387 * B + 6000) - rPh γ0 el0 f) / 18) ((387 * B + 6000) - rPh γ0 el0 f)) (gMA (gV D I) (pg_632134_SpillForgeModel_giveAll D I γ0 el0 f B P632126 F632127 q632128 q632129 p632130) gNA (((387 * B + 6000) - rPh γ0 el0 f) / 18) ((387 * B + 6000) - rPh γ0 el0 f)) ky_632134_SpillForgeModel_giveAll 110 [(7, .int g657585), (6, .ref q657339), (5, .int g657195), (4, .int o656472), (3, .int g654665), (0, .ref q632128), (1, .ref q632129), (2, .int p632130)] [] (va_pl P657586 F657587) ((rPh gm_F657587 el_F657587 f - rPh γ0 el0 f) / 18) (rPh gm_F657587 el_F657587 f - rPh γ0 el0 f) := by
                          intro n110_657604
                          induction n110_657604 with
                          | zero => intro P657586 F657587 gm_F657587 el_F657587 g657585 bg657585 hT657588 hs657589 hph657590 hB657591 ht657592 hf657593 r657594 r657595 x657596 x657597 x657598 x657599 x657600 x657601 x657602 x657603 x657604 kt110_657605 hm110_657604; exact absurd hm110_657604 (Nat.not_lt_zero _)
                          | succ n110_657604 ih110_657604 =>
                            intro P657586 F657587 gm_F657587 el_F657587 g657585 bg657585 hT657588 hs657589 hph657590 hB657591 ht657592 hf657593 r657594 r657595 x657596 x657597 x657598 x657599 x657600 x657601 x657602 x657603 x657604 kt110_657605 hm110_657604
                            clear r657274 r657275 r657276 r657277 r657278 r657279 r657281 r657282 r657283 r657284 bp657268 bp657269 bp657351 bp657352 r657360 r657361 r657288 r657289 r657290 r657323 r657324 r657325 r657327 r657326 r657328 r657329 r657330 r657331 r657332 r657333 r657334 r657335 r657372 r657373 r657374 r657375 r657376 r657377 r657378
                            have ht657606 : rKd gm_F657587 q632128 10 := rSk_k hs657589 hzq632128 (by decide) (by decide)
                            have ht657607 : rKd gm_F657587 q632129 9 := rSk_k hs657589 hzq632129 (by decide) (by decide)
                            have hf657608 : gm_F657587 1 q632129 = f := rSk_1 hs657589 hzq632129 (by decide) hf0
                            have pk657609 : rPh gm_F657587 el_F657587 f ≤ 387 * B + 6000 := rm_pk (rM_ge hT657588 ht657607 hf657608).1 (rM_bd hB657591)
                            have r657610 : 0 < gm_F657587 6 (gm_F657587 1 q632129) := by rw [hf657608]; omega
                            have hm657611 : q632128 ∈ P657586 := RS_m hT657588 ht657606 (by decide)
                            refine rk10_e (show rk_10 gm_F657587 (F657587 q632128) from RS_o hT657588 ht657606) (fun q657613 q657614 p657615 p657616 p657617 p657618 p657619 p657620 p657621 p657622 p657623 p657624 p657625 p657626 p657627 p657628 p657629 he657612 hB657656 ht657630 ht657631 ht657632 ht657633 ht657634 ht657635 ht657636 ht657637 ht657638 ht657639 ht657640 ht657641 ht657642 ht657643 ht657644 ht657645 ht657646 ht657647 ht657648 ht657649 ht657650 ht657651 ht657652 ht657653 hB657657 => ?_)
                            have ac657658 : (fI (F657587 q632128) 11).toInt = p657617.toInt := by rw [he657612]; rfl
                            have bp657617 : gB p657617 0 100 := (hB657656.2.2.1)
                            have ac657659 : (fI (F657587 q632128) 14).toInt = p657620.toInt := by rw [he657612]; rfl
                            have bp657620 : gB p657620 0 2000 := (hB657656.2.2.2.1)
                            refine G_iload 0 dr_cX17_giveAll_110 rfl ?_
                            refine G_aload 1 dr_cX17_giveAll_112 rfl ?_
                            have hm657660 : q657339 ∈ P657586 := RS_m hT657588 ht657592 (by decide)
                            obtain ⟨q657662, q657663, p657664, p657665, he657661, ht657672, ht657666, ht657667, ht657668, ht657669, ht657670, bp657664, bp657665, r657671, r657673, r657674⟩ := show rk_2 gm_F657587 q657339 (F657587 q657339) from RS_o hT657588 ht657592
                            have hf657675 : gm_F657587 1 q657662 = f := (show gm_F657587 1 q657662 = gm_F657587 1 q657339 from ht657667).trans hf657593
                            have hf657676 : gm_F657587 1 q657663 = f := (show gm_F657587 1 q657663 = gm_F657587 1 q657339 from ht657669).trans hf657593
                            have r657677 : gm_F657587 6 (gm_F657587 1 q657339) = gm_F657587 6 f := by rw [hf657593]
                            have r657678 : gm_F657587 7 (gm_F657587 1 q657339) = gm_F657587 7 f := by rw [hf657593]
                            have r657679 : gm_F657587 19 (gm_F657587 1 q657339) = gm_F657587 19 f := by rw [hf657593]
                            have r657680 := r657671.resolve_left (by omega)
                            clear r657671
                            have r657681 : gm_F657587 2 (gm_F657587 14 q657339) = gm_F657587 2 q657662 := by rw [ht657672.1]
                            have fq657682 : fR (F657587 q657339) 0 = q657662 := by rw [he657661]; rfl
                            refine Gp_get 0 hm657660 he657661 dr_cX17_giveAll_114 (gk_X12 D I) (Nat.le_of_ble_eq_true rfl) wr_9_220 rfl ?_
                            have hm657683 : q657662 ∈ P657586 := RS_m hT657588 ht657666 (by decide)
                            obtain ⟨⟨p657685, p657686, q657687, he657684, r657688, r657689, r657690, r657692⟩, r657691⟩ := show rk_3 D I gm_F657587 el_F657587 F657587 q657662 from RS_o hT657588 ht657666
                            have bp657685 := gB_any p657685
                            have bp657686 : gB p657686 0 1000000 := ⟨by omega, by omega⟩
                            have fq657693 : p657686.toInt = (gm_F657587 2 q657662 : Int) := by omega
                            have fq657694 : fI (F657587 q657662) 2 = p657686 := by rw [he657684]; rfl
                            refine Gw_callV (As := []) (gV_ok D I) (cp_7_ArrayList_size l hl0 D I P657586 F657587 q657662 p657685 q657687 p657686 hm657683 he657684 (gB_w bp657686 (by decide) (by decide))) dr_cX17_giveAll_117 ⟨wr_10_200, wr_1_18, wr_9_160, by decide, rfl, (Nat.le_of_ble_eq_true rfl), (Nat.le_of_ble_eq_true rfl)⟩ wr_9_158 wr_9_159 hm657683 he657684 rfl (rm_zc pk657609) (rm_zs pk657609) (Nat.le_of_ble_eq_true rfl) (fun r657698 w657699 dc657695 ds657696 hp657697 => ?_) (fun _ _ _ _ _ z => z.elim)
                            obtain ⟨rfl, rfl, hdc, hds⟩ := hp657697
                            change G _ _ _ _ _ _ _ (.int p657686 :: _) _ _ _
                            refine G_widen (cs' := ((rPh gm_F657587 el_F657587 f - rPh γ0 el0 f) / 18)) (sl' := (rPh gm_F657587 el_F657587 f - rPh γ0 el0 f)) (rm_d0 hdc) (rm_d0 hds) ?_
                            refine G_icmp_gt 167 dr_cX17_giveAll_120 (by decide +kernel) (fun hc657700 => ?_) (fun hc657700 => ?_)
                            · have r657701 : p657686.toInt < g657585.toInt := gC_lt hc657700
                              have bg657585' : gB g657585 1 1000001 := ⟨by omega, by omega⟩
                              have hx657702 : tl_RModel_giveAll_110 D I γ0 el0 f P632126 F632127 q632128 F656477 q632129 g657195 q657339 P657196 F657197 gm_F657197 el_F657197 (0 : Int32) 167 F657587 P657586 gm_F657587 el_F657587 := kt110_657605 167 F657587 P657586 gm_F657587 el_F657587 (fun R c1 c2 c3 => c1 P657586 F657587 gm_F657587 el_F657587 g657585 q657662 p657686 bg657585 hT657588 hs657589 x657596 x657597 x657599 x657600 x657601 x657602 x657603 x657604 fq657682 fq657693 fq657694 r657701)
                              obtain ⟨z657703, hz657703⟩ : ∃ z : Int32, z = g657195 + Int32.ofInt 1 := ⟨_, rfl⟩
                              have ez657703 : z657703.toInt = g657195.toInt + 1 := gI_inc hz657703 (by decide) bg657195' (by decide) (by decide)
                              have bz657703 : gB z657703 1 1000000 := ⟨by omega, by omega⟩
                              refine G_iinc (L' := [(5, .int z657703), (7, .int g657585), (6, .ref q657339), (4, .int o656472), (3, .int g654665), (0, .ref q632128), (1, .ref q632129), (2, .int p632130)]) z657703 2 dr_cX17_giveAll_167 rfl hz657703.symm (Nat.le_of_ble_eq_true rfl) rfl ?_
                              refine G_goto 90 dr_cX17_giveAll_170 (by decide +kernel) ?_
                              refine G_lv (L' := [(5, .int z657703), (4, .int o656472), (3, .int g654665), (0, .ref q632128), (1, .ref q632129), (2, .int p632130)]) [0, 3, 4, 5, 6, 7] rfl ?_
                              have ac657704 : (fI (F657587 q632128) 11).toInt = p657617.toInt := by rw [he657612]; rfl
                              have ac657705 : (fI (F657587 q632128) 14).toInt = p657620.toInt := by rw [he657612]; rfl
                              exact ih90_657208 P657586 F657587 gm_F657587 el_F657587 z657703 (gB_w bz657703 (by decide) (by decide)) hT657588 hs657589 hph657590 hB657591 (by omega) (by omega) (by omega) (by omega) x657600 (cq_nx x657601 (by omega)) x657604 (fun k e1 e2 e3 e4 ht => kt90_657209 k e1 e2 e3 e4 (fun R c1 c2 => c2 P657196 F657197 gm_F657197 el_F657197 g657195 p657269 q657266 q657339 p657321 F657587 P657586 gm_F657587 el_F657587 z657703 k e1 e2 e3 e4 bg657195 hT657198 hs657199 x657202 x657203 x657205 x657206 x657207 x657208 fq657291 r657317 fq657344 hx657340 fq657362 ht657368 hx657702 ez657703 (ht R c1 c2))) (by omega)
                            · have r657706 : g657585.toInt ≤ p657686.toInt := gC_nlt hc657700
                              have bg657585' : gB g657585 0 1000000 := ⟨by omega, by omega⟩
                              refine G_aload_n 5 dr_cX17_giveAll_123 rfl ?_
                              refine G_iload 0 dr_cX17_giveAll_124 rfl ?_
                              refine G_aload 1 dr_cX17_giveAll_126 rfl ?_
                              refine Gp_get 0 hm657660 he657661 dr_cX17_giveAll_128 (gk_X12 D I) (Nat.le_of_ble_eq_true rfl) wr_9_220 rfl ?_
                              have fq657707 : p657686.toInt = (gm_F657587 2 q657662 : Int) := by omega
                              refine Gw_callV (As := []) (gV_ok D I) (cp_7_ArrayList_size l hl0 D I P657586 F657587 q657662 p657685 q657687 p657686 hm657683 he657684 (gB_w bp657686 (by decide) (by decide))) dr_cX17_giveAll_131 ⟨wr_10_200, wr_1_18, wr_9_160, by decide, rfl, (Nat.le_of_ble_eq_true rfl), (Nat.le_of_ble_eq_true rfl)⟩ wr_9_158 wr_9_159 hm657683 he657684 rfl (rm_zc pk657609) (rm_zs pk657609) (Nat.le_of_ble_eq_true rfl) (fun r657711 w657712 dc657708 ds657709 hp657710 => ?_) (fun _ _ _ _ _ z => z.elim)
                              obtain ⟨rfl, rfl, hdc, hds⟩ := hp657710
                              change G _ _ _ _ _ _ _ (.int p657686 :: _) _ _ _
                              refine G_widen (cs' := ((rPh gm_F657587 el_F657587 f - rPh γ0 el0 f) / 18)) (sl' := (rPh gm_F657587 el_F657587 f - rPh γ0 el0 f)) (rm_d0 hdc) (rm_d0 hds) ?_
                              refine G_icmp_ge 153 dr_cX17_giveAll_134 (by decide +kernel) (fun hc657713 => ?_) (fun hc657713 => ?_)
                              · have r657714 : p657686.toInt ≤ g657585.toInt := gC_le hc657713
                                refine G_aload 1 dr_cX17_giveAll_153 rfl ?_
                                have fq657715 : fR (F657587 q657339) 1 = q657663 := by rw [he657661]; rfl
                                refine Gp_get 1 hm657660 he657661 dr_cX17_giveAll_155 (gk_X12 D I) (Nat.le_of_ble_eq_true rfl) wr_9_223 rfl ?_
                                have fl657718 : p657686.toInt = gm_F657587 2 q657662 := r657688
                                have hp657716 : rAt gm_F657587 el_F657587 q632129 (g657195.toInt : Int).toNat (g657585.toInt : Int).toNat = q657663 := (rAt_e r657595 ht657672.1 (by omega)).trans ht657672.2.1
                                have hL657717 : (g657585.toInt : Int).toNat ≤ gm_F657587 2 (rwL gm_F657587 el_F657587 q632129 (g657195.toInt : Int).toNat) := by unfold rwL; rw [r657595, ht657672.1]; omega
                                have cn657719 : rNm (fun n => 0 ≤ (cB (F657587 (gm_F657587 9 17)) n).toInt) (F657587 q657663) := by rw [congrFun (rSk_9 hs657589) 17, x657600]; exact cq_at x657601 hp657716 (show (g657195.toInt : Int).toNat < gm_F657587 6 f by omega) hL657717
                                refine Gw_callV (As := [.ref q657663]) (gV_ok D I) (ct_344638_SpillForgeModel_coloured l hl0 D I gm_F657587 el_F657587 P657586 F657587 q632128 q657663 hT657588 ht657606 ht657668 (by omega)) dr_cX17_giveAll_158 ⟨wr_11_55, wr_1_14, wr_11_58, by decide, rfl, (Nat.le_of_ble_eq_true rfl), (Nat.le_of_ble_eq_true rfl)⟩ wr_11_57 wr_p_108 hm657611 he657612 rfl (rm_zc pk657609) (rm_zs pk657609) (Nat.le_of_ble_eq_true rfl) (fun r657723 w657724 dc657720 ds657721 hp657722 => ?_) (fun _ _ _ _ _ z => z.elim)
                                obtain ⟨F657730, rfl, rfl, hT657731, hs657732, hdc, hds, x657725, x657726, x657727, x657728, ht657729⟩ := hp657722
                                have he657733 : F657730 q657339 = .inr (17, [.ref q657662, .ref q657663, .int p657664, .int p657665]) := (hs657732 q657339 (rT0 ht657592 (by decide)) (rT1 ht657592 (by decide)) (rT2 ht657592 (by decide))).trans he657661
                                have he657734 : F657730 q657662 = .inr (4, [.int p657685, .ref q657687, .int p657686]) := (hs657732 q657662 (rT0 ht657666 (by decide)) (rT1 ht657666 (by decide)) (rT2 ht657666 (by decide))).trans he657684
                                have hs657735 := rSk_str hs657589 hT657731 hs657732 (by decide) (by decide) (by decide) (Or.inr (rFs_1 x657725 hf657676))
                                have kp657736 : F657730 q632128 = F657587 q632128 := x657726
                                have kp657737 : F657730 (γ0 9 3) = F657587 (γ0 9 3) := (show F657730 (γ0 9 3) = F657587 (γ0 9 3) by rw [← congrFun (rSk_9 hs657735) 3]; exact x657727)
                                have kp657738 : F657730 (γ0 9 17) = F656477 (γ0 9 17) := ((show F657730 (γ0 9 17) = F657587 (γ0 9 17) by rw [← congrFun (rSk_9 hs657735) 17]; exact x657728)).trans x657600
                                have mk657739 : mKp (F632127 q632128) (F657730 q632128) := mKp_tr x657604 (mKp_eq x657726)
                                have he657740 : F657730 q632128 = .inr (22, [.ref (gm_F657587 9 0), .ref (gm_F657587 9 1), .ref (gm_F657587 9 2), .ref (gm_F657587 9 3), .ref (gm_F657587 9 4), .ref (gm_F657587 9 5), .ref (gm_F657587 9 6), .ref (gm_F657587 9 7), .ref (gm_F657587 9 8), .int p657615, .int p657616, .int p657617, .int p657618, .int p657619, .int p657620, .ref (gm_F657587 9 15), .ref (gm_F657587 9 16), .ref (gm_F657587 9 17), .ref (gm_F657587 9 18), .ref (gm_F657587 9 19), .ref (gm_F657587 9 20), .ref (gm_F657587 9 21), .ref (gm_F657587 9 22), .int p657621, .int p657622, .int p657623, .int p657624, .int p657625, .ref q657613, .ref (gm_F657587 9 29), .int p657626, .ref (gm_F657587 9 31), .int p657627, .int p657628, .int p657629, .ref q657614]) := (x657726).trans he657612
                                change G _ _ _ _ _ _ _ _ _ _ _
                                refine G_widen (cs' := ((rPh gm_F657587 el_F657587 f - rPh γ0 el0 f) / 18)) (sl' := (rPh gm_F657587 el_F657587 f - rPh γ0 el0 f)) (rm_d0 hdc) (rm_d0 hds) ?_
                                have cq657741 := cq_put (j1 := (g657585.toInt : Int).toNat + 1) hT657588 ht657607 hf657608 x657601 x657725 hp657716 (show (g657195.toInt : Int).toNat < gm_F657587 6 f by omega) hL657717 rfl
                                have ac657742 : (fI (F657730 q632128) 11).toInt = (fI (F657587 q632128) 11).toInt := by rw [kp657736]
                                have ac657743 : (fI (F657730 q632128) 14).toInt = (fI (F657587 q632128) 14).toInt := by rw [kp657736]
                                obtain ⟨z657744, hz657744⟩ : ∃ z : Int32, z = g657585 + Int32.ofInt 1 := ⟨_, rfl⟩
                                have ez657744 : z657744.toInt = g657585.toInt + 1 := gI_inc hz657744 (by decide) bg657585' (by decide) (by decide)
                                have bz657744 : gB z657744 1 1000001 := ⟨by omega, by omega⟩
                                refine G_iinc (L' := [(7, .int z657744), (6, .ref q657339), (5, .int g657195), (4, .int o656472), (3, .int g654665), (0, .ref q632128), (1, .ref q632129), (2, .int p632130)]) z657744 0 dr_cX17_giveAll_161 rfl hz657744.symm (Nat.le_of_ble_eq_true rfl) rfl ?_
                                refine G_goto 110 dr_cX17_giveAll_164 (by decide +kernel) ?_
                                have ac657745 : (fI (F657730 q632128) 11).toInt = p657617.toInt := by rw [he657740]; rfl
                                have ac657746 : (fI (F657730 q632128) 14).toInt = p657620.toInt := by rw [he657740]; rfl
                                exact ih110_657604 P657586 F657730 gm_F657587 el_F657587 z657744 (gB_w bz657744 (by decide) (by decide)) hT657731 hs657735 hph657590 hB657591 ht657592 hf657593 r657594 r657595 (by omega) (by omega) (by omega) (by omega) kp657738 (by rw [show (z657744.toInt : Int).toNat = ((g657585.toInt : Int).toNat + 1) by omega]; exact cq657741) (by omega) (by omega) mk657739 (fun k e1 e2 e3 e4 ht => kt110_657605 k e1 e2 e3 e4 (fun R c1 c2 c3 => c2 P657586 F657587 gm_F657587 el_F657587 g657585 q657662 p657686 q657663 F657730 z657744 k e1 e2 e3 e4 bg657585 hT657588 hs657589 x657596 x657597 x657599 x657600 x657601 x657602 x657603 x657604 fq657682 fq657693 fq657694 r657706 fq657707 r657714 fq657715 hT657731 hs657732 x657725 x657726 x657727 x657728 ht657729 ez657744 (ht R c1 c2 c3))) (by omega)
                              · have r657747 : g657585.toInt < p657686.toInt := gC_nle hc657713
                                have bg657585'' : gB g657585 0 999999 := ⟨by omega, by omega⟩
                                have bp657686' : gB p657686 1 1000000 := ⟨by omega, by omega⟩
                                refine G_aload 1 dr_cX17_giveAll_137 rfl ?_
                                refine Gp_get 0 hm657660 he657661 dr_cX17_giveAll_139 (gk_X12 D I) (Nat.le_of_ble_eq_true rfl) wr_9_220 rfl ?_
                                refine G_iload 0 dr_cX17_giveAll_142 rfl ?_
                                obtain ⟨r657748, r657749, n657756, f657757, r657750, r657751, r657752, r657753, r657754, r657755⟩ := rLC_n r657690 (by omega)
                                have hm657758 : q657687 ∈ P657586 := RS_m hT657588 r657748 (by decide)
                                obtain ⟨q657759, hx657760⟩ : ∃ x, x = el_F657587 q657662 g657585.toInt.toNat := ⟨_, rfl⟩
                                have hx657761 : f657757 g657585.toNatClampNeg = some q657759 := (r657754 _ (show g657585.toInt.toNat < gm_F657587 2 q657662 by first | assumption | omega)).trans (by rw [hx657760])
                                have ht657762 : rKd gm_F657587 q657759 1 := by rw [hx657760]; exact (r657691 _ (show g657585.toInt.toNat < gm_F657587 2 q657662 by first | assumption | omega)).1
                                have ht657763 : rFm gm_F657587 q657759 q657662 := by rw [hx657760]; exact (r657691 _ (show g657585.toInt.toNat < gm_F657587 2 q657662 by first | assumption | omega)).2.1
                                have hf657764 : gm_F657587 1 q657759 = f := (show gm_F657587 1 q657759 = gm_F657587 1 q657662 from ht657763).trans hf657675
                                refine Gw_callV (As := [.int g657585]) (gV_ok D I) (cp_22_ArrayList_get l hl0 D I P657586 F657587 q657662 q657687 g657585 p657685 p657686 f657757 n657756 q657759 hm657683 hm657758 he657684 r657750 (gB_w bg657585'' (by decide) (by decide)) (gB_w bp657686' (by decide) (by decide)) (by omega) (by omega) (by assumption) (by omega)) dr_cX17_giveAll_144 ⟨wr_10_201, wr_1_18, wr_10_65, by decide, rfl, (Nat.le_of_ble_eq_true rfl), (Nat.le_of_ble_eq_true rfl)⟩ wr_10_63 wr_10_64 hm657683 he657684 rfl (rm_zc pk657609) (rm_zs pk657609) (Nat.le_of_ble_eq_true rfl) (fun r657768 w657769 dc657765 ds657766 hp657767 => ?_) (fun _ _ _ _ _ z => z.elim)
                                obtain ⟨rfl, rfl, hdc, hds, ht657770⟩ := hp657767
                                change G _ _ _ _ _ _ _ (.ref q657759 :: _) _ _ _
                                refine G_widen (cs' := ((rPh gm_F657587 el_F657587 f - rPh γ0 el0 f) / 18)) (sl' := (rPh gm_F657587 el_F657587 f - rPh γ0 el0 f)) (rm_d0 hdc) (rm_d0 hds) ?_
                                have hm657771 : q657759 ∈ P657586 := RS_m hT657588 ht657762 (by decide)
                                obtain ⟨p657773, p657774, p657775, p657776, p657777, p657778, p657779, he657772, bp657773, bp657774, bp657777, bp657778, bp657779, r657780, r657781, r657782, r657783, r657784⟩ := show rk_1 gm_F657587 q657759 (F657587 q657759) from RS_o hT657588 ht657762
                                have bp657775 := gB_any p657775
                                have bp657776 := gB_any p657776
                                have r657785 : gm_F657587 7 (gm_F657587 1 q657759) = gm_F657587 7 f := by rw [hf657764]
                                refine Gp_cast hm657771 he657772 rfl dr_cX17_giveAll_147 wr_10_202 (gr_cast 1 rfl) ?_
                                refine G_goto 158 dr_cX17_giveAll_150 (by decide +kernel) ?_
                                have fl657788 : p657686.toInt = gm_F657587 2 q657662 := r657688
                                have hp657786 : rAt gm_F657587 el_F657587 q632129 (g657195.toInt : Int).toNat (g657585.toInt : Int).toNat = q657759 := (rAt_r r657595 ht657672.1 (by omega)).trans (by rw [hx657760])
                                have hL657787 : (g657585.toInt : Int).toNat ≤ gm_F657587 2 (rwL gm_F657587 el_F657587 q632129 (g657195.toInt : Int).toNat) := by unfold rwL; rw [r657595, ht657672.1]; omega
                                have cn657789 : rNm (fun n => 0 ≤ (cB (F657587 (gm_F657587 9 17)) n).toInt) (F657587 q657759) := by rw [congrFun (rSk_9 hs657589) 17, x657600]; exact cq_at x657601 hp657786 (show (g657195.toInt : Int).toNat < gm_F657587 6 f by omega) hL657787
                                refine Gw_callV (As := [.ref q657759]) (gV_ok D I) (ct_344638_SpillForgeModel_coloured l hl0 D I gm_F657587 el_F657587 P657586 F657587 q632128 q657759 hT657588 ht657606 ht657762 (by omega)) dr_cX17_giveAll_158 ⟨wr_11_55, wr_1_14, wr_11_58, by decide, rfl, (Nat.le_of_ble_eq_true rfl), (Nat.le_of_ble_eq_true rfl)⟩ wr_11_57 wr_p_108 hm657611 he657612 rfl (rm_zc pk657609) (rm_zs pk657609) (Nat.le_of_ble_eq_true rfl) (fun r657793 w657794 dc657790 ds657791 hp657792 => ?_) (fun _ _ _ _ _ z => z.elim)
                                obtain ⟨F657800, rfl, rfl, hT657801, hs657802, hdc, hds, x657795, x657796, x657797, x657798, ht657799⟩ := hp657792
                                have he657803 : F657800 q657339 = .inr (17, [.ref q657662, .ref q657663, .int p657664, .int p657665]) := (hs657802 q657339 (rT0 ht657592 (by decide)) (rT1 ht657592 (by decide)) (rT2 ht657592 (by decide))).trans he657661
                                have he657804 : F657800 q657662 = .inr (4, [.int p657685, .ref q657687, .int p657686]) := (hs657802 q657662 (rT0 ht657666 (by decide)) (rT1 ht657666 (by decide)) (rT2 ht657666 (by decide))).trans he657684
                                have he657805 : F657800 q657687 = .inl (I (.object "java/lang/Object"), n657756, .inr (.inr (.inr (.inr f657757)))) := (hs657802 q657687 (rT0 r657748 (by decide)) (rT1 r657748 (by decide)) (rT2 r657748 (by decide))).trans r657750
                                have hs657806 := rSk_str hs657589 hT657801 hs657802 (by decide) (by decide) (by decide) (Or.inr (rFs_1 x657795 hf657764))
                                have kp657807 : F657800 q632128 = F657587 q632128 := x657796
                                have kp657808 : F657800 (γ0 9 3) = F657587 (γ0 9 3) := (show F657800 (γ0 9 3) = F657587 (γ0 9 3) by rw [← congrFun (rSk_9 hs657806) 3]; exact x657797)
                                have kp657809 : F657800 (γ0 9 17) = F656477 (γ0 9 17) := ((show F657800 (γ0 9 17) = F657587 (γ0 9 17) by rw [← congrFun (rSk_9 hs657806) 17]; exact x657798)).trans x657600
                                have mk657810 : mKp (F632127 q632128) (F657800 q632128) := mKp_tr x657604 (mKp_eq x657796)
                                have he657811 : F657800 q632128 = .inr (22, [.ref (gm_F657587 9 0), .ref (gm_F657587 9 1), .ref (gm_F657587 9 2), .ref (gm_F657587 9 3), .ref (gm_F657587 9 4), .ref (gm_F657587 9 5), .ref (gm_F657587 9 6), .ref (gm_F657587 9 7), .ref (gm_F657587 9 8), .int p657615, .int p657616, .int p657617, .int p657618, .int p657619, .int p657620, .ref (gm_F657587 9 15), .ref (gm_F657587 9 16), .ref (gm_F657587 9 17), .ref (gm_F657587 9 18), .ref (gm_F657587 9 19), .ref (gm_F657587 9 20), .ref (gm_F657587 9 21), .ref (gm_F657587 9 22), .int p657621, .int p657622, .int p657623, .int p657624, .int p657625, .ref q657613, .ref (gm_F657587 9 29), .int p657626, .ref (gm_F657587 9 31), .int p657627, .int p657628, .int p657629, .ref q657614]) := (x657796).trans he657612
                                change G _ _ _ _ _ _ _ _ _ _ _
                                refine G_widen (cs' := ((rPh gm_F657587 el_F657587 f - rPh γ0 el0 f) / 18)) (sl' := (rPh gm_F657587 el_F657587 f - rPh γ0 el0 f)) (rm_d0 hdc) (rm_d0 hds) ?_
                                have cq657812 := cq_put (j1 := (g657585.toInt : Int).toNat + 1) hT657588 ht657607 hf657608 x657601 x657795 hp657786 (show (g657195.toInt : Int).toNat < gm_F657587 6 f by omega) hL657787 rfl
                                have ac657813 : (fI (F657800 q632128) 11).toInt = (fI (F657587 q632128) 11).toInt := by rw [kp657807]
                                have ac657814 : (fI (F657800 q632128) 14).toInt = (fI (F657587 q632128) 14).toInt := by rw [kp657807]
                                obtain ⟨z657815, hz657815⟩ : ∃ z : Int32, z = g657585 + Int32.ofInt 1 := ⟨_, rfl⟩
                                have ez657815 : z657815.toInt = g657585.toInt + 1 := gI_inc hz657815 (by decide) bg657585'' (by decide) (by decide)
                                have bz657815 : gB z657815 1 1000000 := ⟨by omega, by omega⟩
                                refine G_iinc (L' := [(7, .int z657815), (6, .ref q657339), (5, .int g657195), (4, .int o656472), (3, .int g654665), (0, .ref q632128), (1, .ref q632129), (2, .int p632130)]) z657815 0 dr_cX17_giveAll_161 rfl hz657815.symm (Nat.le_of_ble_eq_true rfl) rfl ?_
                                refine G_goto 110 dr_cX17_giveAll_164 (by decide +kernel) ?_
                                have ac657816 : (fI (F657800 q632128) 11).toInt = p657617.toInt := by rw [he657811]; rfl
                                have ac657817 : (fI (F657800 q632128) 14).toInt = p657620.toInt := by rw [he657811]; rfl
                                exact ih110_657604 P657586 F657800 gm_F657587 el_F657587 z657815 (gB_w bz657815 (by decide) (by decide)) hT657801 hs657806 hph657590 hB657591 ht657592 hf657593 r657594 r657595 (by omega) (by omega) (by omega) (by omega) kp657809 (by rw [show (z657815.toInt : Int).toNat = ((g657585.toInt : Int).toNat + 1) by omega]; exact cq657812) (by omega) (by omega) mk657810 (fun k e1 e2 e3 e4 ht => kt110_657605 k e1 e2 e3 e4 (fun R c1 c2 c3 => c3 P657586 F657587 gm_F657587 el_F657587 g657585 q657662 p657686 q657759 F657800 z657815 k e1 e2 e3 e4 bg657585 hT657588 hs657589 x657596 x657597 x657599 x657600 x657601 x657602 x657603 x657604 fq657682 fq657693 fq657694 r657706 fq657707 r657747 hx657760 ht657770 hT657801 hs657802 x657795 x657796 x657797 x657798 ht657799 ez657815 (ht R c1 c2 c3))) (by omega)
                        have ac657818 : (fI (F657197 q632128) 11).toInt = p657221.toInt := by rw [he657216]; rfl
                        have ac657819 : (fI (F657197 q632128) 14).toInt = p657224.toInt := by rw [he657216]; rfl
                        exact hlp110_657604 (((1000002 : Int) - 0).toNat + 1) P657196 F657197 gm_F657197 el_F657197 0 (gB_w (gBl (show Int32.toInt 0 = 0 by decide)) (by decide) (by decide)) hT657198 hs657199 hph657200 hB657201 ht657345 hf657369 r657377 r657378 (by have qa0 : Int32.toInt 0 = 0 := (by decide); omega) (by have qa0 : Int32.toInt 0 = 0 := (by decide); omega) (by have qa0 : Int32.toInt 0 = 0 := (by decide); omega) (by have qa0 : Int32.toInt 0 = 0 := (by decide); omega) x657206 (by have qa : Int32.toInt 0 = 0 := (by decide); rw [qa]; exact x657207) (by have qa0 : Int32.toInt 0 = 0 := (by decide); omega) (by have qa0 : Int32.toInt 0 = 0 := (by decide); omega) x657208 (fun k e1 e2 e3 e4 ht => ht) (Nat.lt_succ_self _)
                  have ac657820 : (fI (F656477 q632128) 11).toInt = p656398.toInt := by rw [he656484]; rfl
                  have ac657821 : (fI (F656477 q632128) 14).toInt = p656401.toInt := by rw [he656484]; rfl
                  exact hlp90_657208 (((1000001 : Int) - 0).toNat + 1) P656377 F656477 gm_F656378 el_F656378 0 (gB_w (gBl (show Int32.toInt 0 = 0 by decide)) (by decide) (by decide)) hT656478 hs656480 hph656389 hB656382 (by have qa0 : Int32.toInt 0 = 0 := (by decide); omega) (by have qa0 : Int32.toInt 0 = 0 := (by decide); omega) (by have qa0 : Int32.toInt 0 = 0 := (by decide); omega) (by have qa0 : Int32.toInt 0 = 0 := (by decide); omega) rfl (by have qa : Int32.toInt 0 = 0 := (by decide); rw [qa]; exact cq656600) mk656483 (fun k e1 e2 e3 e4 ht => ht) (Nat.lt_succ_self _)
              · have r657822 : o656365.toInt ≠ 0 := gj_neq hc656442 (show Int32.toInt 0 = 0 by decide)
                have bo656365' : gB o656365 1 1 := gB_t1 bo656365 r657822
                refine G_aload_n 1 dr_cX17_giveAll_61 rfl ?_
                refine G_aload_n 2 dr_cX17_giveAll_62 rfl ?_
                refine G_iconst 0 dr_cX17_giveAll_63 (by decide +kernel) ?_
                refine Gw_callV (As := [.ref q632129, .int 0]) (gV_ok D I) (ct_277516_SpillForgeModel_graph l hl0 D I gm_F656378 el_F656378 P656377 F656378 q632128 q632129 0 hT656383 ht656385 ht656386 (gB_w (gBl (show Int32.toInt 0 = 0 by decide)) (by decide) (by decide)) (by omega)) dr_cX17_giveAll_64 ⟨wr_10_233, wr_1_14, wr_10_236, by decide, rfl, (Nat.le_of_ble_eq_true rfl), (Nat.le_of_ble_eq_true rfl)⟩ wr_10_235 wr_p_99 hm656392 he656393 rfl (rm_zc pk656390) (rm_zs pk656390) (Nat.le_of_ble_eq_true rfl) (fun r657826 w657827 dc657823 ds657824 hp657825 => ?_) (fun _ _ _ _ _ z => z.elim)
                obtain ⟨F657831, rfl, rfl, hT657832, hs657833, hdc, hds, x657828, x657829, ht657830⟩ := hp657825
                have hs657834 := rSk_str hs656384 hT657832 hs657833 (by decide) (by decide) (by decide)
                have kp657835 : F657831 q632128 = F656378 q632128 := x657829
                have mk657836 : mKp (F632127 q632128) (F657831 q632128) := mKp_tr mk656388 (mKp_eq x657829)
                have he657837 : F657831 q632128 = .inr (22, [.ref (gm_F656378 9 0), .ref (gm_F656378 9 1), .ref (gm_F656378 9 2), .ref (gm_F656378 9 3), .ref (gm_F656378 9 4), .ref (gm_F656378 9 5), .ref (gm_F656378 9 6), .ref (gm_F656378 9 7), .ref (gm_F656378 9 8), .int p656396, .int p656397, .int p656398, .int p656399, .int p656400, .int p656401, .ref (gm_F656378 9 15), .ref (gm_F656378 9 16), .ref (gm_F656378 9 17), .ref (gm_F656378 9 18), .ref (gm_F656378 9 19), .ref (gm_F656378 9 20), .ref (gm_F656378 9 21), .ref (gm_F656378 9 22), .int p656402, .int p656403, .int p656404, .int p656405, .int p656406, .ref q656394, .ref (gm_F656378 9 29), .int p656407, .ref (gm_F656378 9 31), .int p656408, .int p656409, .int p656410, .ref q656395]) := (x657829).trans he656393
                rw [show Int32.toInt 0 = 0 from by decide] at x657828
                change G _ _ _ _ _ _ _ _ _ _ _
                refine G_widen (cs' := ((rPh gm_F656378 el_F656378 f - rPh γ0 el0 f) / 18)) (sl' := (rPh gm_F656378 el_F656378 f - rPh γ0 el0 f)) (rm_d0 hdc) (rm_d0 hds) ?_
                have ni657838 : rNI gm_F656378 el_F656378 F657831 q632129 (gm_F656378 6 f) (fI (F657831 q632128) 11).toInt := rNI_s (rNI_str hT656383 ht656386 hf656387 hs657833 (by decide) ni656441) (by rw [x657829])
                have gr657839 : rGr gm_F656378 el_F656378 F657831 q632129 (gm_F656378 6 f) (cB (F657831 (γ0 9 3))) (vA (gm_F656378 6 f)) := by have z := x657828 (by decide); rw [hf656387] at z; rw [← congrFun (rSk_9 hs657834) 3]; exact gq_str hT656383 ht656386 hf656387 hs657833 (by decide) z
                have ac657840 : (fI (F657831 q632128) 11).toInt = (fI (F656378 q632128) 11).toInt := by rw [kp657835]
                have ac657841 : (fI (F657831 q632128) 14).toInt = (fI (F656378 q632128) 14).toInt := by rw [kp657835]
                refine G_goto 52 dr_cX17_giveAll_67 (by decide +kernel) ?_
                have ac657842 : (fI (F657831 q632128) 11).toInt = p656398.toInt := by rw [he657837]; rfl
                have ac657843 : (fI (F657831 q632128) 14).toInt = p656401.toInt := by rw [he657837]; rfl
                exact ih52_656300 P656377 F657831 gm_F656378 el_F656378 hT657832 hs657834 hph656389 hB656382 (by omega) (by omega) (by omega) (by omega) ni657838 gr657839 mk657836 (fun k e1 e2 e3 e4 ht => kt52_656301 k e1 e2 e3 e4 (fun R c1 c2 => c2 P656288 F656289 gm_F656289 el_F656289 P656377 F656378 gm_F656378 el_F656378 o656365 F657831 k e1 e2 e3 e4 hT656290 hs656291 x656294 x656295 x656297 x656298 x656299 x656300 hk656379 x656366 x656367 x656368 x656369 x656370 x656371 x656372 x656373 x656374 x656375 ht656376 r657822 hT657832 hs657833 x657828 x657829 ht657830 (ht R c1 c2))) (by have z := x656370.resolve_left (by omega); omega)
          have ac657844 : (fI (F654781 q632128) 11).toInt = p654690.toInt := by rw [he654788]; rfl
          have ac657845 : (fI (F654781 q632128) 14).toInt = p654693.toInt := by rw [he654788]; rfl
          exact hlp52_656300 (rsum (fun i => gm_F654667 2 (gm_F654667 14 (el_F654667 (gm_F654667 14 q632129) i))) (gm_F654667 6 f) + 1) P654666 F654781 gm_F654667 el_F654667 hT654782 hs654785 hph654670 hB654671 (by omega) (by omega) (by omega) (by omega) ni654789 gr654790 mk654787 (fun k e1 e2 e3 e4 ht => ht) (Nat.lt_succ_self _)
        · have r657846 : 4000 < o654769.toInt := gj_nle hc654771 (show Int32.toInt 4000 = 4000 by decide)
          have bo654769' : gB o654769 4001 2147483647 := ⟨by omega, by omega⟩
          have hx657847 : tl_RModel_giveAll_28 D I γ0 el0 f P632126 F632127 q632128 q632129 p632130 P632242 F632243 gm_F632243 el_F632243 (1 : Int32) 44 F654667 P654666 gm_F654667 el_F654667 (0 : Int32) := kt28_654678 44 F654667 P654666 gm_F654667 el_F654667 (0 : Int32) (fun R c1 c2 c3 c4 c5 => c5 P654666 F654667 gm_F654667 el_F654667 g654665 o654769 bg654665 hT654668 hs654669 x654672 x654673 x654675 x654676 x654677 r654736 ht654770 r657846)
          refine G_iconst (-1) dr_cX17_giveAll_44 (by decide +kernel) ?_
          exact G_iretA dr_cX17_giveAll_45 rfl (show ((rPh gm_F654667 el_F654667 f - rPh γ0 el0 f) / 18) ≤ (((387 * B + 6000) - rPh γ0 el0 f) / 18) by omega) (show (rPh gm_F654667 el_F654667 f - rPh γ0 el0 f) ≤ ((387 * B + 6000) - rPh γ0 el0 f) by omega) ⟨P654666, F654667, gm_F654667, el_F654667, (-1), rfl, rfl, hs654669, ⟨by omega, by omega⟩, hB654671, (gB_w (gBl (show Int32.toInt (-1) = (-1) by decide)) (by decide) (by decide)), (by have qa0 : Int32.toInt (-1) = (-1) := (by decide); omega), x654677, (fun R c1 c2 c3 c4 => c4 gm_0 el_0 F632188 F632196 F632205 F632214 P632242 F632243 gm_F632243 el_F632243 F654667 P654666 gm_F654667 el_F654667 hγ0 hel0 n632190 fq632195 n632198 fq632204 n632207 fq632213 n632216 fq632222 hk632244 x632236 x632237 x632238 x632239 x632240 ht632241 hx657847)⟩
  have ac657848 : (fI (F632243 q632128) 11).toInt = p632265.toInt := by rw [he632260]; rfl
  have ac657849 : (fI (F632243 q632128) 14).toInt = p632268.toInt := by rw [he632260]; rfl
  exact hlp28_654677 (((42 : Int) - 1).toNat + 1) P632242 F632243 gm_F632243 el_F632243 1 (gB_w (gBl (show Int32.toInt 1 = 1 by decide)) (by decide) (by decide)) hT632248 hs632249 hph632254 hB632247 (by have qa0 : Int32.toInt 1 = 1 := (by decide); omega) (by have qa0 : Int32.toInt 1 = 1 := (by decide); omega) (by have qa0 : Int32.toInt 1 = 1 := (by decide); omega) (by have qa0 : Int32.toInt 1 = 1 := (by decide); omega) ni632308 mk632253 (fun k e1 e2 e3 e4 e5 ht => ht) (Nat.lt_succ_self _)
/- tr_RModel_give: result, P, F, gm, el -/
def tr_RModel_give (D : va_G) (I : FieldType → ClassId) (γ0 el0 : Nat → Nat → Nat) (f : Nat) (fo : Nat) (P : List Nat) (F : Nat → va_E) (q0 : Nat) (a1 : Int32) (p : Nat) (p2 : Nat) (o1 : Int32) (o2 : List Nat) (o3 : Nat → va_E) (o4 : Nat → Nat → Nat) (o5 : Nat → Nat → Nat) : Prop := ∀ R : (Int32) → (List Nat) → (Nat → va_E) → (Nat → Nat → Nat) → (Nat → Nat → Nat) → Prop,
  (∀ (x1 : Nat → Nat → Nat) (x2 : Nat → Nat → Nat) (x3 : Nat → va_E) (x4 : Nat → va_E), x1 = γ0 → x2 = el0 → (∀ b, b ≠ q0 → x3 b = F b) → x3 q0 = cF (F q0) 30 (.int 0) → a1.toInt < 1 → RS D I P x4 x1 x2 → rStr x1 [] x3 x4 → (fI (x4 q0) 10).toInt = (fI (x3 q0) 10).toInt → mKq (x3 q0) (x4 q0) → tr_RModel_no2 D I x1 x2 x3 q0 (1 : Int32) x4 → R (0 : Int32) P x4 x1 x2) →
  (∀ (x1 : Nat → Nat → Nat) (x2 : Nat → Nat → Nat) (x3 : Nat → va_E) (x4 : Int32) (x5 : List Nat) (x6 : Nat → va_E) (x7 : Nat → Nat → Nat) (x8 : Nat → Nat → Nat) (x9 : List Nat) (x10 : Nat → va_E) (x11 : Nat → Nat → Nat) (x12 : Nat → Nat → Nat) (x13 : Int32) (x14 : Nat → va_E), x1 = γ0 → x2 = el0 → (∀ b, b ≠ q0 → x3 b = F b) → x3 q0 = cF (F q0) 30 (.int 0) → 1 ≤ a1.toInt → a1.toInt ≤ 32 → fI (x3 q0) 9 = x4 → x4.toInt ≠ 0 → fR (x3 q0) 7 = (x1 9 7) → fR (x3 q0) 6 = (x1 9 6) → rSk f [1, 2, 3, 101, 102, 103, 202] ([1, 2, 3, 4, 5, 6, 7, 8, 9, 101, 102, 103, 202]) D I P x3 x1 x2 x5 x6 x7 x8 → x7 6 f = x1 6 fo → x7 7 f = 0 → x7 16 f ≤ x1 16 fo → x7 18 f = 0 → tr_RCode_copy D I x1 x2 f fo P x3 p p2 x5 x6 x7 x8 → fR (x6 q0) 7 = (x7 9 7) → rSk f [101] ([1, 3, 5, 6, 8, 9, 101] ++ npk) D I x5 x6 x7 x8 x9 x10 x11 x12 → x11 6 f = x7 6 f → mKp (x6 q0) (x10 q0) → tr_RModel_giveAll D I x7 x8 f x5 x6 q0 p a1 x13 x9 x10 x11 x12 → x13.toInt ≤ 0 → (∀ b, b ≠ q0 → x14 b = x10 b) → x14 q0 = cF (x10 q0) 10 (.int 0) → R x13 x9 x14 x11 x12) →
  (∀ (x1 : Nat → Nat → Nat) (x2 : Nat → Nat → Nat) (x3 : Nat → va_E) (x4 : Int32) (x5 : List Nat) (x6 : Nat → va_E) (x7 : Nat → Nat → Nat) (x8 : Nat → Nat → Nat) (x9 : List Nat) (x10 : Nat → va_E) (x11 : Nat → Nat → Nat) (x12 : Nat → Nat → Nat) (x13 : Int32) (x14 : Nat → va_E), x1 = γ0 → x2 = el0 → (∀ b, b ≠ q0 → x3 b = F b) → x3 q0 = cF (F q0) 30 (.int 0) → 1 ≤ a1.toInt → a1.toInt ≤ 32 → fI (x3 q0) 9 = x4 → x4.toInt ≠ 0 → fR (x3 q0) 7 = (x1 9 7) → fR (x3 q0) 6 = (x1 9 6) → rSk f [1, 2, 3, 101, 102, 103, 202] ([1, 2, 3, 4, 5, 6, 7, 8, 9, 101, 102, 103, 202]) D I P x3 x1 x2 x5 x6 x7 x8 → x7 6 f = x1 6 fo → x7 7 f = 0 → x7 16 f ≤ x1 16 fo → x7 18 f = 0 → tr_RCode_copy D I x1 x2 f fo P x3 p p2 x5 x6 x7 x8 → fR (x6 q0) 7 = (x7 9 7) → rSk f [101] ([1, 3, 5, 6, 8, 9, 101] ++ npk) D I x5 x6 x7 x8 x9 x10 x11 x12 → x11 6 f = x7 6 f → mKp (x6 q0) (x10 q0) → tr_RModel_giveAll D I x7 x8 f x5 x6 q0 p a1 x13 x9 x10 x11 x12 → 0 < x13.toInt → (∀ b, b ≠ q0 → x14 b = x10 b) → x14 q0 = cF (x10 q0) 10 (.int 1) → R x13 x9 x14 x11 x12) →
  (∀ (x1 : Nat → Nat → Nat) (x2 : Nat → Nat → Nat) (x3 : Nat → va_E) (x4 : Int32) (x5 : Nat → va_E), x1 = γ0 → x2 = el0 → (∀ b, b ≠ q0 → x3 b = F b) → x3 q0 = cF (F q0) 30 (.int 0) → 1 ≤ a1.toInt → a1.toInt ≤ 32 → fI (x3 q0) 9 = x4 → x4.toInt = 0 → RS D I P x5 x1 x2 → rStr x1 [] x3 x5 → (fI (x5 q0) 10).toInt = (fI (x3 q0) 10).toInt → mKq (x3 q0) (x5 q0) → tr_RModel_no2 D I x1 x2 x3 q0 (2 : Int32) x5 → R (0 : Int32) P x5 x1 x2) →
  (∀ (x1 : Nat → Nat → Nat) (x2 : Nat → Nat → Nat) (x3 : Nat → va_E) (x4 : Nat → va_E), x1 = γ0 → x2 = el0 → (∀ b, b ≠ q0 → x3 b = F b) → x3 q0 = cF (F q0) 30 (.int 0) → 1 ≤ a1.toInt → 32 < a1.toInt → RS D I P x4 x1 x2 → rStr x1 [] x3 x4 → (fI (x4 q0) 10).toInt = (fI (x3 q0) 10).toInt → mKq (x3 q0) (x4 q0) → tr_RModel_no2 D I x1 x2 x3 q0 (1 : Int32) x4 → R (0 : Int32) P x4 x1 x2) →
  R o1 o2 o3 o4 o5
