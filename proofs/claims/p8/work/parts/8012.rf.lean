theorem dr_cX17_giveAll_0 : decode cX17_giveAll 0 = .ok (.aload_n 0, 1) := by decide +kernel
theorem dr_cX17_giveAll_1 : decode cX17_giveAll 1 = .ok (.iconst 0, 1) := by decide +kernel
theorem dr_cX17_giveAll_2 : decode cX17_giveAll 2 = .ok (.putfield 224, 3) := by decide +kernel
theorem dr_cX17_giveAll_5 : decode cX17_giveAll 5 = .ok (.aload_n 0, 1) := by decide +kernel
theorem dr_cX17_giveAll_6 : decode cX17_giveAll 6 = .ok (.iconst 0, 1) := by decide +kernel
theorem dr_cX17_giveAll_7 : decode cX17_giveAll 7 = .ok (.putfield 237, 3) := by decide +kernel
theorem dr_cX17_giveAll_10 : decode cX17_giveAll 10 = .ok (.aload_n 0, 1) := by decide +kernel
theorem dr_cX17_giveAll_11 : decode cX17_giveAll 11 = .ok (.iconst 0, 1) := by decide +kernel
theorem dr_cX17_giveAll_12 : decode cX17_giveAll 12 = .ok (.putfield 195, 3) := by decide +kernel
theorem dr_cX17_giveAll_15 : decode cX17_giveAll 15 = .ok (.aload_n 0, 1) := by decide +kernel
theorem dr_cX17_giveAll_16 : decode cX17_giveAll 16 = .ok (.bipush 100, 2) := by decide +kernel
theorem dr_cX17_giveAll_18 : decode cX17_giveAll 18 = .ok (.putfield 231, 3) := by decide +kernel
theorem dr_cX17_giveAll_21 : decode cX17_giveAll 21 = .ok (.aload_n 0, 1) := by decide +kernel
theorem dr_cX17_giveAll_22 : decode cX17_giveAll 22 = .ok (.aload_n 1, 1) := by decide +kernel
theorem dr_cX17_giveAll_23 : decode cX17_giveAll 23 = .ok (.invokevirtual 240, 3) := by decide +kernel
theorem dr_cX17_giveAll_26 : decode cX17_giveAll 26 = .ok (.iconst 1, 1) := by decide +kernel
theorem dr_cX17_giveAll_27 : decode cX17_giveAll 27 = .ok (.istore_n 3, 1) := by decide +kernel
theorem dr_cX17_giveAll_28 : decode cX17_giveAll 28 = .ok (.iload_n 3, 1) := by decide +kernel
theorem dr_cX17_giveAll_29 : decode cX17_giveAll 29 = .ok (.bipush 40, 2) := by decide +kernel
theorem dr_cX17_giveAll_31 : decode cX17_giveAll 31 = .ok (.if_icmp .gt 176, 3) := by decide +kernel
theorem dr_cX17_giveAll_207 : decode cX17_giveAll 207 = .ok (.iconst (-1), 1) := by decide +kernel
theorem dr_cX17_giveAll_208 : decode cX17_giveAll 208 = .ok (.ireturn, 1) := by decide +kernel
theorem dr_cX17_giveAll_34 : decode cX17_giveAll 34 = .ok (.aload_n 1, 1) := by decide +kernel
theorem dr_cX17_giveAll_35 : decode cX17_giveAll 35 = .ok (.invokevirtual 234, 3) := by decide +kernel
theorem dr_cX17_giveAll_38 : decode cX17_giveAll 38 = .ok (.sipush 4000, 3) := by decide +kernel
theorem dr_cX17_giveAll_41 : decode cX17_giveAll 41 = .ok (.if_icmp .le 5, 3) := by decide +kernel
theorem dr_cX17_giveAll_46 : decode cX17_giveAll 46 = .ok (.aload_n 0, 1) := by decide +kernel
theorem dr_cX17_giveAll_47 : decode cX17_giveAll 47 = .ok (.aload_n 1, 1) := by decide +kernel
theorem dr_cX17_giveAll_48 : decode cX17_giveAll 48 = .ok (.iconst 0, 1) := by decide +kernel
theorem dr_cX17_giveAll_49 : decode cX17_giveAll 49 = .ok (.invokevirtual 243, 3) := by decide +kernel
theorem dr_cX17_giveAll_52 : decode cX17_giveAll 52 = .ok (.aload_n 0, 1) := by decide +kernel
theorem dr_cX17_giveAll_53 : decode cX17_giveAll 53 = .ok (.aload_n 1, 1) := by decide +kernel
theorem dr_cX17_giveAll_54 : decode cX17_giveAll 54 = .ok (.iload_n 2, 1) := by decide +kernel
theorem dr_cX17_giveAll_55 : decode cX17_giveAll 55 = .ok (.invokevirtual 246, 3) := by decide +kernel
theorem wr_11_8 : (Jvm.Cond.methodLink "SpillForgeModel" (246 : Nat) ({ cls := "SpillForgeModel", name := "merge", desc := "(LSpillForgeModel$Code;I)Z" } : Jvm.MethodName)) ∈ gw := gw_11 8 rfl rfl
theorem wr_11_11 : (Jvm.Cond.code ({ cls := "SpillForgeModel", name := "merge", desc := "(LSpillForgeModel$Code;I)Z" } : Jvm.MethodName) prog_14_method_17_code (9 : Nat) (Option.some Jvm.ClassFile.FieldType.boolean)) ∈ gw := gw_11 11 rfl rfl
theorem wr_11_10 : (Jvm.Cond.instanceMethod ({ cls := "SpillForgeModel", name := "merge", desc := "(LSpillForgeModel$Code;I)Z" } : Jvm.MethodName)) ∈ gw := gw_11 10 rfl rfl
theorem wr_p_101 : Cond.selects "SpillForgeModel" ⟨"SpillForgeModel", "merge", "(LSpillForgeModel$Code;I)Z"⟩ ⟨"SpillForgeModel", "merge", "(LSpillForgeModel$Code;I)Z"⟩ ∈ gw := gw_p _ 101 rfl rfl rfl
theorem dr_cX17_giveAll_58 : decode cX17_giveAll 58 = .ok (.ifCond .eq 12, 3) := by decide +kernel
theorem dr_cX17_giveAll_70 : decode cX17_giveAll 70 = .ok (.aload_n 0, 1) := by decide +kernel
theorem dr_cX17_giveAll_71 : decode cX17_giveAll 71 = .ok (.aload_n 1, 1) := by decide +kernel
theorem dr_cX17_giveAll_72 : decode cX17_giveAll 72 = .ok (.invokevirtual 250, 3) := by decide +kernel
theorem dr_cX17_giveAll_75 : decode cX17_giveAll 75 = .ok (.aload_n 0, 1) := by decide +kernel
theorem dr_cX17_giveAll_76 : decode cX17_giveAll 76 = .ok (.iload_n 2, 1) := by decide +kernel
theorem dr_cX17_giveAll_77 : decode cX17_giveAll 77 = .ok (.invokevirtual 253, 3) := by decide +kernel
theorem wr_11_47 : (Jvm.Cond.methodLink "SpillForgeModel" (253 : Nat) ({ cls := "SpillForgeModel", name := "colours", desc := "(I)I" } : Jvm.MethodName)) ∈ gw := gw_11 47 rfl rfl
theorem wr_11_50 : (Jvm.Cond.code ({ cls := "SpillForgeModel", name := "colours", desc := "(I)I" } : Jvm.MethodName) prog_14_method_21_code (8 : Nat) (Option.some Jvm.ClassFile.FieldType.int)) ∈ gw := gw_11 50 rfl rfl
theorem wr_11_49 : (Jvm.Cond.instanceMethod ({ cls := "SpillForgeModel", name := "colours", desc := "(I)I" } : Jvm.MethodName)) ∈ gw := gw_11 49 rfl rfl
theorem wr_p_106 : Cond.selects "SpillForgeModel" ⟨"SpillForgeModel", "colours", "(I)I"⟩ ⟨"SpillForgeModel", "colours", "(I)I"⟩ ∈ gw := gw_p _ 106 rfl rfl rfl
theorem dr_cX17_giveAll_80 : decode cX17_giveAll 80 = .ok (.istore 4, 2) := by decide +kernel
theorem dr_cX17_giveAll_82 : decode cX17_giveAll 82 = .ok (.iload 4, 2) := by decide +kernel
theorem dr_cX17_giveAll_84 : decode cX17_giveAll 84 = .ok (.ifCond .ne 96, 3) := by decide +kernel
theorem dr_cX17_giveAll_180 : decode cX17_giveAll 180 = .ok (.aload_n 0, 1) := by decide +kernel
theorem dr_cX17_giveAll_181 : decode cX17_giveAll 181 = .ok (.dup, 1) := by decide +kernel
theorem dr_cX17_giveAll_182 : decode cX17_giveAll 182 = .ok (.getfield 237, 3) := by decide +kernel
theorem dr_cX17_giveAll_185 : decode cX17_giveAll 185 = .ok (.iload 4, 2) := by decide +kernel
theorem dr_cX17_giveAll_187 : decode cX17_giveAll 187 = .ok (.iadd, 1) := by decide +kernel
theorem dr_cX17_giveAll_188 : decode cX17_giveAll 188 = .ok (.putfield 237, 3) := by decide +kernel
theorem dr_cX17_giveAll_191 : decode cX17_giveAll 191 = .ok (.aload_n 0, 1) := by decide +kernel
theorem dr_cX17_giveAll_192 : decode cX17_giveAll 192 = .ok (.aload_n 1, 1) := by decide +kernel
theorem dr_cX17_giveAll_193 : decode cX17_giveAll 193 = .ok (.invokevirtual 263, 3) := by decide +kernel
theorem wr_11_63 : (Jvm.Cond.methodLink "SpillForgeModel" (263 : Nat) ({ cls := "SpillForgeModel", name := "spill", desc := "(LSpillForgeModel$Code;)Z" } : Jvm.MethodName)) ∈ gw := gw_11 63 rfl rfl
theorem wr_11_66 : (Jvm.Cond.code ({ cls := "SpillForgeModel", name := "spill", desc := "(LSpillForgeModel$Code;)Z" } : Jvm.MethodName) prog_14_method_22_code (10 : Nat) (Option.some Jvm.ClassFile.FieldType.boolean)) ∈ gw := gw_11 66 rfl rfl
theorem wr_11_65 : (Jvm.Cond.instanceMethod ({ cls := "SpillForgeModel", name := "spill", desc := "(LSpillForgeModel$Code;)Z" } : Jvm.MethodName)) ∈ gw := gw_11 65 rfl rfl
theorem wr_p_110 : Cond.selects "SpillForgeModel" ⟨"SpillForgeModel", "spill", "(LSpillForgeModel$Code;)Z"⟩ ⟨"SpillForgeModel", "spill", "(LSpillForgeModel$Code;)Z"⟩ ∈ gw := gw_p _ 110 rfl rfl rfl
theorem dr_cX17_giveAll_196 : decode cX17_giveAll 196 = .ok (.ifCond .ne 5, 3) := by decide +kernel
theorem dr_cX17_giveAll_201 : decode cX17_giveAll 201 = .ok (.iinc 3 1, 3) := by decide +kernel
theorem dr_cX17_giveAll_204 : decode cX17_giveAll 204 = .ok (.goto (-176), 3) := by decide +kernel
theorem dr_cX17_giveAll_199 : decode cX17_giveAll 199 = .ok (.iconst (-1), 1) := by decide +kernel
theorem dr_cX17_giveAll_200 : decode cX17_giveAll 200 = .ok (.ireturn, 1) := by decide +kernel
theorem dr_cX17_giveAll_87 : decode cX17_giveAll 87 = .ok (.iconst 0, 1) := by decide +kernel
theorem dr_cX17_giveAll_88 : decode cX17_giveAll 88 = .ok (.istore 5, 2) := by decide +kernel
theorem dr_cX17_giveAll_90 : decode cX17_giveAll 90 = .ok (.iload 5, 2) := by decide +kernel
theorem dr_cX17_giveAll_92 : decode cX17_giveAll 92 = .ok (.aload_n 1, 1) := by decide +kernel
theorem dr_cX17_giveAll_93 : decode cX17_giveAll 93 = .ok (.invokevirtual 96, 3) := by decide +kernel
theorem dr_cX17_giveAll_96 : decode cX17_giveAll 96 = .ok (.if_icmp .ge 77, 3) := by decide +kernel
theorem dr_cX17_giveAll_173 : decode cX17_giveAll 173 = .ok (.aload_n 0, 1) := by decide +kernel
theorem dr_cX17_giveAll_174 : decode cX17_giveAll 174 = .ok (.aload_n 1, 1) := by decide +kernel
theorem dr_cX17_giveAll_175 : decode cX17_giveAll 175 = .ok (.invokevirtual 260, 3) := by decide +kernel
theorem wr_11_59 : (Jvm.Cond.methodLink "SpillForgeModel" (260 : Nat) ({ cls := "SpillForgeModel", name := "share", desc := "(LSpillForgeModel$Code;)V" } : Jvm.MethodName)) ∈ gw := gw_11 59 rfl rfl
theorem wr_11_62 : (Jvm.Cond.code ({ cls := "SpillForgeModel", name := "share", desc := "(LSpillForgeModel$Code;)V" } : Jvm.MethodName) prog_14_method_26_code (7 : Nat) (Option.none : Option Jvm.ClassFile.FieldType)) ∈ gw := gw_11 62 rfl rfl
theorem wr_11_61 : (Jvm.Cond.instanceMethod ({ cls := "SpillForgeModel", name := "share", desc := "(LSpillForgeModel$Code;)V" } : Jvm.MethodName)) ∈ gw := gw_11 61 rfl rfl
theorem wr_p_109 : Cond.selects "SpillForgeModel" ⟨"SpillForgeModel", "share", "(LSpillForgeModel$Code;)V"⟩ ⟨"SpillForgeModel", "share", "(LSpillForgeModel$Code;)V"⟩ ∈ gw := gw_p _ 109 rfl rfl rfl
theorem dr_cX17_giveAll_178 : decode cX17_giveAll 178 = .ok (.iload_n 3, 1) := by decide +kernel
theorem dr_cX17_giveAll_179 : decode cX17_giveAll 179 = .ok (.ireturn, 1) := by decide +kernel
theorem dr_cX17_giveAll_99 : decode cX17_giveAll 99 = .ok (.aload_n 1, 1) := by decide +kernel
theorem dr_cX17_giveAll_100 : decode cX17_giveAll 100 = .ok (.iload 5, 2) := by decide +kernel
theorem dr_cX17_giveAll_102 : decode cX17_giveAll 102 = .ok (.invokevirtual 101, 3) := by decide +kernel
theorem dr_cX17_giveAll_105 : decode cX17_giveAll 105 = .ok (.astore 6, 2) := by decide +kernel
theorem dr_cX17_giveAll_107 : decode cX17_giveAll 107 = .ok (.iconst 0, 1) := by decide +kernel
theorem dr_cX17_giveAll_108 : decode cX17_giveAll 108 = .ok (.istore 7, 2) := by decide +kernel
theorem dr_cX17_giveAll_110 : decode cX17_giveAll 110 = .ok (.iload 7, 2) := by decide +kernel
theorem dr_cX17_giveAll_112 : decode cX17_giveAll 112 = .ok (.aload 6, 2) := by decide +kernel
theorem dr_cX17_giveAll_114 : decode cX17_giveAll 114 = .ok (.getfield 117, 3) := by decide +kernel
theorem dr_cX17_giveAll_117 : decode cX17_giveAll 117 = .ok (.invokevirtual 121, 3) := by decide +kernel
theorem dr_cX17_giveAll_120 : decode cX17_giveAll 120 = .ok (.if_icmp .gt 47, 3) := by decide +kernel
theorem dr_cX17_giveAll_167 : decode cX17_giveAll 167 = .ok (.iinc 5 1, 3) := by decide +kernel
theorem dr_cX17_giveAll_170 : decode cX17_giveAll 170 = .ok (.goto (-80), 3) := by decide +kernel
theorem dr_cX17_giveAll_123 : decode cX17_giveAll 123 = .ok (.aload_n 0, 1) := by decide +kernel
theorem dr_cX17_giveAll_124 : decode cX17_giveAll 124 = .ok (.iload 7, 2) := by decide +kernel
theorem dr_cX17_giveAll_126 : decode cX17_giveAll 126 = .ok (.aload 6, 2) := by decide +kernel
theorem dr_cX17_giveAll_128 : decode cX17_giveAll 128 = .ok (.getfield 117, 3) := by decide +kernel
theorem dr_cX17_giveAll_131 : decode cX17_giveAll 131 = .ok (.invokevirtual 121, 3) := by decide +kernel
theorem dr_cX17_giveAll_134 : decode cX17_giveAll 134 = .ok (.if_icmp .ge 19, 3) := by decide +kernel
theorem dr_cX17_giveAll_153 : decode cX17_giveAll 153 = .ok (.aload 6, 2) := by decide +kernel
theorem dr_cX17_giveAll_155 : decode cX17_giveAll 155 = .ok (.getfield 109, 3) := by decide +kernel
theorem dr_cX17_giveAll_158 : decode cX17_giveAll 158 = .ok (.invokevirtual 256, 3) := by decide +kernel
theorem wr_11_55 : (Jvm.Cond.methodLink "SpillForgeModel" (256 : Nat) ({ cls := "SpillForgeModel", name := "coloured", desc := "(LSpillForgeModel$Row;)V" } : Jvm.MethodName)) ∈ gw := gw_11 55 rfl rfl
theorem wr_11_58 : (Jvm.Cond.code ({ cls := "SpillForgeModel", name := "coloured", desc := "(LSpillForgeModel$Row;)V" } : Jvm.MethodName) prog_14_method_25_code (2 : Nat) (Option.none : Option Jvm.ClassFile.FieldType)) ∈ gw := gw_11 58 rfl rfl
theorem wr_11_57 : (Jvm.Cond.instanceMethod ({ cls := "SpillForgeModel", name := "coloured", desc := "(LSpillForgeModel$Row;)V" } : Jvm.MethodName)) ∈ gw := gw_11 57 rfl rfl
theorem wr_p_108 : Cond.selects "SpillForgeModel" ⟨"SpillForgeModel", "coloured", "(LSpillForgeModel$Row;)V"⟩ ⟨"SpillForgeModel", "coloured", "(LSpillForgeModel$Row;)V"⟩ ∈ gw := gw_p _ 108 rfl rfl rfl
theorem dr_cX17_giveAll_161 : decode cX17_giveAll 161 = .ok (.iinc 7 1, 3) := by decide +kernel
theorem dr_cX17_giveAll_164 : decode cX17_giveAll 164 = .ok (.goto (-54), 3) := by decide +kernel
theorem dr_cX17_giveAll_137 : decode cX17_giveAll 137 = .ok (.aload 6, 2) := by decide +kernel
theorem dr_cX17_giveAll_139 : decode cX17_giveAll 139 = .ok (.getfield 117, 3) := by decide +kernel
theorem dr_cX17_giveAll_142 : decode cX17_giveAll 142 = .ok (.iload 7, 2) := by decide +kernel
theorem dr_cX17_giveAll_144 : decode cX17_giveAll 144 = .ok (.invokevirtual 124, 3) := by decide +kernel
theorem dr_cX17_giveAll_147 : decode cX17_giveAll 147 = .ok (.checkcast 40, 3) := by decide +kernel
theorem dr_cX17_giveAll_150 : decode cX17_giveAll 150 = .ok (.goto 8, 3) := by decide +kernel
theorem dr_cX17_giveAll_61 : decode cX17_giveAll 61 = .ok (.aload_n 0, 1) := by decide +kernel
theorem dr_cX17_giveAll_62 : decode cX17_giveAll 62 = .ok (.aload_n 1, 1) := by decide +kernel
theorem dr_cX17_giveAll_63 : decode cX17_giveAll 63 = .ok (.iconst 0, 1) := by decide +kernel
theorem dr_cX17_giveAll_64 : decode cX17_giveAll 64 = .ok (.invokevirtual 243, 3) := by decide +kernel
theorem dr_cX17_giveAll_67 : decode cX17_giveAll 67 = .ok (.goto (-15), 3) := by decide +kernel
theorem dr_cX17_giveAll_44 : decode cX17_giveAll 44 = .ok (.iconst (-1), 1) := by decide +kernel
theorem dr_cX17_giveAll_45 : decode cX17_giveAll 45 = .ok (.ireturn, 1) := by decide +kernel
abbrev ky_629340_SpillForgeModel_giveAll : gKey := (cX17_giveAll, 8, "SpillForgeModel", (some FieldType.int), [], "giveAll", fun _ _ => True)
def pg_629340_SpillForgeModel_giveAll (D : va_G) (I : FieldType → ClassId) (γ0 el0 : Nat → Nat → Nat) (f : Nat) (B : Nat) (P629332 : List Nat) (F629333 : Nat → va_E) (q629334 : Nat) (q629335 : Nat) (p629336 : Int32) : Option Value → va_W → Nat → Nat → Prop := fun r w dc ds => ∃ (P654788 : List Nat) (F654789 : Nat → va_E) (γ el : Nat → Nat → Nat) (o654787 : Int32), r = some (.int o654787) ∧ w = va_pl P654788 F654789 ∧ rSk f [101] ([1, 3, 5, 6, 8, 9, 101] ++ npk) D I P629332 F629333 γ0 el0 P654788 F654789 γ el ∧ (18 * dc + rPh γ0 el0 f ≤ rPh γ el f ∧ ds + rPh γ0 el0 f ≤ rPh γ el f) ∧ rBd γ el f B ∧ gB o654787 (-1) 40 ∧ γ 6 f = γ0 6 f ∧ mKp (F629333 q629334) (F654789 q629334)
set_option maxRecDepth 100000 in
set_option maxHeartbeats 20000000 in
theorem cg_629340_SpillForgeModel_giveAll (l : Launch) (hl0 : l.stackTraces = false) (D : va_G) (I : FieldType → ClassId) (γ0 el0 : Nat → Nat → Nat) (f : Nat) (B : Nat) (P629332 : List Nat) (F629333 : Nat → va_E) (q629334 : Nat) (q629335 : Nat) (p629336 : Int32) (hT0 : RS D I P629332 F629333 γ0 el0) (hzq629334 : rKd γ0 q629334 10) (hzq629335 : rKd γ0 q629335 9) (hf0 : γ0 1 q629335 = f) (hB0 : rBd γ0 el0 f B) (hBk : B ≤ 100000) (bp629336 : gB p629336 1 32) (x629337 : 0 < γ0 6 f) (x629338 : γ0 7 f = 0) (x629339 : γ0 16 f + 3901 ≤ B) : CtA (gV D I) l yX17_giveAll cX17_giveAll 8 (some FieldType.int) 10 224 (((387 * B + 6000) - rPh γ0 el0 f) / 18) ((387 * B + 6000) - rPh γ0 el0 f) [.ref q629334, .ref q629335, .int p629336] (va_pl P629332 F629333) (pg_629340_SpillForgeModel_giveAll D I γ0 el0 f B P629332 F629333 q629334 q629335 p629336) gNA := by
  refine CtA_of hl0 (by decide) (Nat.le_of_ble_eq_true rfl) ?_
  obtain ⟨γ, hγ0⟩ : ∃ z, z = γ0 := ⟨_, rfl⟩
  obtain ⟨el, hel0⟩ : ∃ z, z = el0 := ⟨_, rfl⟩
  have hT : RS D I P629332 F629333 γ el := by rw [hγ0, hel0]; exact hT0
  have hst : rSk f [101] ([1, 3, 5, 6, 8, 9, 101] ++ npk) D I P629332 F629333 γ0 el0 P629332 F629333 γ el := by rw [hγ0, hel0]; exact rSk_rf hT0
  have hph : rPh γ0 el0 f ≤ rPh γ el f := by rw [hγ0, hel0]; exact Nat.le_refl _
  have hB : rBd γ el f B := by rw [hγ0, hel0]; exact hB0
  have htq629334 : rKd γ q629334 10 := by rw [hγ0]; exact hzq629334
  have htq629335 : rKd γ q629335 9 := by rw [hγ0]; exact hzq629335
  have hf1 : γ 1 q629335 = f := by rw [hγ0]; exact hf0
  have x629337n : 0 < γ 6 f := by rw [hγ0]; exact x629337
  have x629338n : γ 7 f = 0 := by rw [hγ0]; exact x629338
  have x629339n : γ 16 f + 3901 ≤ B := by rw [hγ0]; exact x629339
  have pk629341 : rPh γ el f ≤ 387 * B + 6000 := rm_pk (rM_ge hT htq629335 hf1).1 (rM_bd hB)
  refine G_widen (cs' := ((rPh γ el f - rPh γ0 el0 f) / 18)) (sl' := (rPh γ el f - rPh γ0 el0 f)) (Nat.zero_le _) (Nat.zero_le _) ?_
  have lz0 : Int32.toInt 0 = 0 := by decide
  have r629342 : γ 6 f = γ0 6 f := by rw [hγ0]
  have r629343 : γ 7 f = γ0 7 f := by rw [hγ0]
  have r629344 : γ 16 f = γ0 16 f := by rw [hγ0]
  have r629345 : γ 18 f = γ0 18 f := by rw [hγ0]
  have r629346 : γ 19 f = γ0 19 f := by rw [hγ0]
  have hm629347 : q629334 ∈ P629332 := RS_m hT htq629334 (by decide)
  refine rk10_e (show rk_10 γ (F629333 q629334) from RS_o hT htq629334) (fun q629349 q629350 p629351 p629352 p629353 p629354 p629355 p629356 p629357 p629358 p629359 p629360 p629361 p629362 p629363 p629364 p629365 he629348 hB629392 ht629366 ht629367 ht629368 ht629369 ht629370 ht629371 ht629372 ht629373 ht629374 ht629375 ht629376 ht629377 ht629378 ht629379 ht629380 ht629381 ht629382 ht629383 ht629384 ht629385 ht629386 ht629387 ht629388 ht629389 hB629393 => ?_)
  have k0_3 : rKd γ0 (γ0 9 3) 14 := by rw [← hγ0]; exact ht629371
  have k0_17 : rKd γ0 (γ0 9 17) 20 := by rw [← hγ0]; exact ht629379
  refine G_aload_n 0 dr_cX17_giveAll_0 rfl ?_
  refine G_iconst 0 dr_cX17_giveAll_1 (by decide +kernel) ?_
  refine Gp_put 11 hm629347 he629348 dr_cX17_giveAll_2 (gk_X17 D I) (Nat.le_of_ble_eq_true rfl) wr_7_85 rfl rfl rfl (Nat.le_of_ble_eq_true rfl) (fun F629394 e629395 n629396 => ?_)
  have he629397 : F629394 q629334 = .inr (22, [.ref (γ 9 0), .ref (γ 9 1), .ref (γ 9 2), .ref (γ 9 3), .ref (γ 9 4), .ref (γ 9 5), .ref (γ 9 6), .ref (γ 9 7), .ref (γ 9 8), .int p629351, .int p629352, .int 0, .int p629354, .int p629355, .int p629356, .ref (γ 9 15), .ref (γ 9 16), .ref (γ 9 17), .ref (γ 9 18), .ref (γ 9 19), .ref (γ 9 20), .ref (γ 9 21), .ref (γ 9 22), .int p629357, .int p629358, .int p629359, .int p629360, .int p629361, .ref q629349, .ref (γ 9 29), .int p629362, .ref (γ 9 31), .int p629363, .int p629364, .int p629365, .ref q629350]) := e629395
  have mk629398 : mKp (F629333 q629334) (F629394 q629334) := mKp_tr mKp_rf (by rw [he629348, he629397]; exact ⟨rfl, rfl⟩)
  have kp629399 : F629394 (γ0 9 3) = F629333 (γ0 9 3) := n629396 (γ0 9 3) (rn_ty (rSk_k hst k0_3 (by decide) (by decide)) htq629334 (by decide))
  have kp629400 : F629394 (γ0 9 17) = F629333 (γ0 9 17) := n629396 (γ0 9 17) (rn_ty (rSk_k hst k0_17 (by decide) (by decide)) htq629334 (by decide))
  refine G_aload_n 0 dr_cX17_giveAll_5 rfl ?_
  refine G_iconst 0 dr_cX17_giveAll_6 (by decide +kernel) ?_
  refine Gp_put 12 hm629347 he629397 dr_cX17_giveAll_7 (gk_X17 D I) (Nat.le_of_ble_eq_true rfl) wr_7_86 rfl rfl rfl (Nat.le_of_ble_eq_true rfl) (fun F629401 e629402 n629403 => ?_)
  have he629404 : F629401 q629334 = .inr (22, [.ref (γ 9 0), .ref (γ 9 1), .ref (γ 9 2), .ref (γ 9 3), .ref (γ 9 4), .ref (γ 9 5), .ref (γ 9 6), .ref (γ 9 7), .ref (γ 9 8), .int p629351, .int p629352, .int 0, .int 0, .int p629355, .int p629356, .ref (γ 9 15), .ref (γ 9 16), .ref (γ 9 17), .ref (γ 9 18), .ref (γ 9 19), .ref (γ 9 20), .ref (γ 9 21), .ref (γ 9 22), .int p629357, .int p629358, .int p629359, .int p629360, .int p629361, .ref q629349, .ref (γ 9 29), .int p629362, .ref (γ 9 31), .int p629363, .int p629364, .int p629365, .ref q629350]) := e629402
  have mk629405 : mKp (F629333 q629334) (F629401 q629334) := mKp_tr mk629398 (by rw [he629397, he629404]; exact ⟨rfl, rfl⟩)
  have n629406 : ∀ b, b ≠ q629334 → F629401 b = F629333 b := fun b hb => (n629403 b hb).trans (n629396 b hb)
  have kp629407 : F629401 (γ0 9 3) = F629333 (γ0 9 3) := (n629403 (γ0 9 3) (rn_ty (rSk_k hst k0_3 (by decide) (by decide)) htq629334 (by decide))).trans kp629399
  have kp629408 : F629401 (γ0 9 17) = F629333 (γ0 9 17) := (n629403 (γ0 9 17) (rn_ty (rSk_k hst k0_17 (by decide) (by decide)) htq629334 (by decide))).trans kp629400
  refine G_aload_n 0 dr_cX17_giveAll_10 rfl ?_
  refine G_iconst 0 dr_cX17_giveAll_11 (by decide +kernel) ?_
  refine Gp_put 13 hm629347 he629404 dr_cX17_giveAll_12 (gk_X17 D I) (Nat.le_of_ble_eq_true rfl) wr_7_87 rfl rfl rfl (Nat.le_of_ble_eq_true rfl) (fun F629409 e629410 n629411 => ?_)
  have he629412 : F629409 q629334 = .inr (22, [.ref (γ 9 0), .ref (γ 9 1), .ref (γ 9 2), .ref (γ 9 3), .ref (γ 9 4), .ref (γ 9 5), .ref (γ 9 6), .ref (γ 9 7), .ref (γ 9 8), .int p629351, .int p629352, .int 0, .int 0, .int 0, .int p629356, .ref (γ 9 15), .ref (γ 9 16), .ref (γ 9 17), .ref (γ 9 18), .ref (γ 9 19), .ref (γ 9 20), .ref (γ 9 21), .ref (γ 9 22), .int p629357, .int p629358, .int p629359, .int p629360, .int p629361, .ref q629349, .ref (γ 9 29), .int p629362, .ref (γ 9 31), .int p629363, .int p629364, .int p629365, .ref q629350]) := e629410
  have mk629413 : mKp (F629333 q629334) (F629409 q629334) := mKp_tr mk629405 (by rw [he629404, he629412]; exact ⟨rfl, rfl⟩)
  have n629414 : ∀ b, b ≠ q629334 → F629409 b = F629333 b := fun b hb => (n629411 b hb).trans (n629406 b hb)
  have kp629415 : F629409 (γ0 9 3) = F629333 (γ0 9 3) := (n629411 (γ0 9 3) (rn_ty (rSk_k hst k0_3 (by decide) (by decide)) htq629334 (by decide))).trans kp629407
  have kp629416 : F629409 (γ0 9 17) = F629333 (γ0 9 17) := (n629411 (γ0 9 17) (rn_ty (rSk_k hst k0_17 (by decide) (by decide)) htq629334 (by decide))).trans kp629408
  refine G_aload_n 0 dr_cX17_giveAll_15 rfl ?_
  refine G_bipush 100 dr_cX17_giveAll_16 (by decide +kernel) ?_
  refine Gp_put 14 hm629347 he629412 dr_cX17_giveAll_18 (gk_X17 D I) (Nat.le_of_ble_eq_true rfl) wr_7_88 rfl rfl rfl (Nat.le_of_ble_eq_true rfl) (fun F629417 e629418 n629419 => ?_)
  have he629420 : F629417 q629334 = .inr (22, [.ref (γ 9 0), .ref (γ 9 1), .ref (γ 9 2), .ref (γ 9 3), .ref (γ 9 4), .ref (γ 9 5), .ref (γ 9 6), .ref (γ 9 7), .ref (γ 9 8), .int p629351, .int p629352, .int 0, .int 0, .int 0, .int 100, .ref (γ 9 15), .ref (γ 9 16), .ref (γ 9 17), .ref (γ 9 18), .ref (γ 9 19), .ref (γ 9 20), .ref (γ 9 21), .ref (γ 9 22), .int p629357, .int p629358, .int p629359, .int p629360, .int p629361, .ref q629349, .ref (γ 9 29), .int p629362, .ref (γ 9 31), .int p629363, .int p629364, .int p629365, .ref q629350]) := e629418
  have mk629421 : mKp (F629333 q629334) (F629417 q629334) := mKp_tr mk629413 (by rw [he629412, he629420]; exact ⟨rfl, rfl⟩)
  have n629422 : ∀ b, b ≠ q629334 → F629417 b = F629333 b := fun b hb => (n629419 b hb).trans (n629414 b hb)
  have kp629423 : F629417 (γ0 9 3) = F629333 (γ0 9 3) := (n629419 (γ0 9 3) (rn_ty (rSk_k hst k0_3 (by decide) (by decide)) htq629334 (by decide))).trans kp629415
  have kp629424 : F629417 (γ0 9 17) = F629333 (γ0 9 17) := (n629419 (γ0 9 17) (rn_ty (rSk_k hst k0_17 (by decide) (by decide)) htq629334 (by decide))).trans kp629416
  refine G_aload_n 0 dr_cX17_giveAll_21 rfl ?_
  have hT629425 : RS D I P629332 F629417 γ el := RS_set hT n629422 htq629334 (by decide) ⟨q629349, q629350, p629351, p629352, 0, 0, 0, 100, p629357, p629358, p629359, p629360, p629361, p629362, p629363, p629364, p629365, he629420, ⟨(hB629392.1), (hB629392.2.1), (gB_w (gBl (show Int32.toInt 0 = 0 by decide)) (by decide) (by decide)), (gB_w (gBl (show Int32.toInt 100 = 100 by decide)) (by decide) (by decide)), (hB629392.2.2.2.2.1), (hB629392.2.2.2.2.2.1), (hB629392.2.2.2.2.2.2.1), (hB629392.2.2.2.2.2.2.2.1), (hB629392.2.2.2.2.2.2.2.2)⟩, ht629366, ht629367, ht629368, ht629369, ht629370, ht629371, ht629372, ht629373, ht629374, ht629375, ht629376, ht629377, ht629378, ht629379, ht629380, ht629381, ht629382, ht629383, ht629384, ht629385, ht629386, ht629387, ht629388, ht629389, hB629393⟩
  have hs629426 := rSk_put hst hT629425 n629422 htq629334 (by decide) (by decide)
  have ac629427 : (fI (F629417 q629334) 11).toInt = 0 := by rw [he629420]; show Int32.toInt 0 = 0; decide
  have ac629428 : (fI (F629417 q629334) 14).toInt = 100 := by rw [he629420]; show Int32.toInt 100 = 100; decide
  refine G_aload_n 1 dr_cX17_giveAll_22 rfl ?_
  have rg629429 := rM_ge hT629425 htq629335 hf1
  have rm629430 := rM_bd hB
  have bd629431 := rBd_c hT629425 htq629335 hf1 hB
  have rc629432 := rc_at hT629425 htq629335 hf1
  refine Gw_callV (As := [.ref q629335]) (gV_ok D I) (cg_365076_SpillForgeModel_zeros l hl0 D I γ el f B P629332 F629417 q629334 q629335 hT629425 htq629334 htq629335 hf1 hB hBk (by omega) (by omega)) dr_cX17_giveAll_23 ⟨wr_10_152, wr_1_14, wr_10_155, by decide, rfl, (Nat.le_of_ble_eq_true rfl), (Nat.le_of_ble_eq_true rfl)⟩ wr_10_154 wr_p_93 hm629347 he629420 rfl (rm_gc hph pk629341) (rm_gs hph pk629341) (Nat.le_of_ble_eq_true rfl) (fun r629436 w629437 dc629433 ds629434 hp629435 => ?_) (fun _ _ _ _ _ z => z.elim)
  obtain ⟨P629444, F629445, γ, el, rfl, rfl, hk629446, ⟨hr629447, hr629448⟩, hB629449, x629438, x629439, x629440, x629441, x629442, ht629443⟩ := hp629435
  have hT629450 := hk629446.1
  have hs629451 := rSk_tr hs629426 hk629446 (by decide) (by decide) (by decide)
  have ht629452 : rKd γ q629334 10 := rSk_k hk629446 htq629334 (by decide) (by decide)
  have ht629453 : rKd γ q629335 9 := rSk_k hk629446 htq629335 (by decide) (by decide)
  have hf629454 : γ 1 q629335 = f := rSk_1 hk629446 htq629335 (by decide) hf1
  clear rg629429 rm629430 bd629431 rc629432
  have mk629455 : mKp (F629333 q629334) (F629445 q629334) := mKp_tr mk629421 (mKp_eq x629442)
  have hph629456 : rPh γ0 el0 f ≤ rPh γ el f := rm_ph hph hr629448
  have pk629457 : rPh γ el f ≤ 387 * B + 6000 := rm_pk (rM_ge hT629450 ht629453 hf629454).1 (rM_bd hB629449)
  change G _ _ _ _ _ _ _ _ _ _ _
  refine G_widen (cs' := ((rPh γ el f - rPh γ0 el0 f) / 18)) (sl' := (rPh γ el f - rPh γ0 el0 f)) (rm_wc hph hr629447) (rm_ws hph hr629448) ?_
  have r629458 : 0 < γ 6 (γ 1 q629335) := by rw [hf629454]; omega
  have ac629459 : (fI (F629445 q629334) 11).toInt = (fI (F629417 q629334) 11).toInt := by rw [x629442]
  have ac629460 : (fI (F629445 q629334) 14).toInt = (fI (F629417 q629334) 14).toInt := by rw [x629442]
  have hm629461 : q629334 ∈ P629444 := RS_m hT629450 ht629452 (by decide)
  refine rk10_e (show rk_10 γ (F629445 q629334) from RS_o hT629450 ht629452) (fun q629463 q629464 p629465 p629466 p629467 p629468 p629469 p629470 p629471 p629472 p629473 p629474 p629475 p629476 p629477 p629478 p629479 he629462 hB629506 ht629480 ht629481 ht629482 ht629483 ht629484 ht629485 ht629486 ht629487 ht629488 ht629489 ht629490 ht629491 ht629492 ht629493 ht629494 ht629495 ht629496 ht629497 ht629498 ht629499 ht629500 ht629501 ht629502 ht629503 hB629507 => ?_)
  have ac629508 : (fI (F629445 q629334) 11).toInt = p629467.toInt := by rw [he629462]; rfl
  have bp629467 : gB p629467 0 100 := (hB629506.2.2.1)
  have ac629509 : (fI (F629445 q629334) 14).toInt = p629470.toInt := by rw [he629462]; rfl
  have bp629470 : gB p629470 0 2000 := (hB629506.2.2.2.1)
  have ni629510 : rNI γ el F629445 q629335 (γ 6 f) (fI (F629445 q629334) 11).toInt := rNI_s (rNI_0 hT629450 ht629453 hf629454 (by omega)) (by omega)
  refine G_iconst 1 dr_cX17_giveAll_26 (by decide +kernel) ?_
  refine G_istore_n (L' := [(3, .int 1), (0, .ref q629334), (1, .ref q629335), (2, .int p629336)]) dr_cX17_giveAll_27 (Nat.le_of_ble_eq_true rfl) rfl ?_
  have hlp28_651661 : ∀ (n28_651661 : Nat) (P651650 : List Nat) (F651651 : Nat → va_E) (γ el : Nat → Nat → Nat) (g651649 : Int32), gB g651649 1 41 → RS D I P651650 F651651 γ el → rSk f [101] ([1, 3, 5, 6, 8, 9, 101] ++ npk) D I P629332 F629333 γ0 el0 P651650 F651651 γ el → rPh γ0 el0 f ≤ rPh γ el f → rBd γ el f B → γ 6 f = γ0 6 f → ((γ 7 f : Nat) : Int) = (fI (F651651 q629334) 11).toInt → ((γ 16 f : Nat) : Int) + 2001 ≤ (B : Int) + (fI (F651651 q629334) 14).toInt → 100 ≤ (fI (F651651 q629334) 14).toInt → rNI γ el F651651 q629335 (γ 6 f) (fI (F651651 q629334) 11).toInt → mKp (F629333 q629334) (F651651 q629334) → ((42 : Int) - g651649.toInt).toNat < n28_651661 → G (gV D I) l (gRm 10 224 (((387 * B + 6000) - rPh γ0 el0 f) / 18) ((387 * B + 6000) - rPh γ0 el0 f)) (gMA (gV D I) (pg_629340_SpillForgeModel_giveAll D I γ0 el0 f B P629332 F629333 q629334 q629335 p629336) gNA (((387 * B + 6000) - rPh γ0 el0 f) / 18) ((387 * B + 6000) - rPh γ0 el0 f)) ky_629340_SpillForgeModel_giveAll 28 [(3, .int g651649), (0, .ref q629334), (1, .ref q629335), (2, .int p629336)] [] (va_pl P651650 F651651) ((rPh γ el f - rPh γ0 el0 f) / 18) (rPh γ el f - rPh γ0 el0 f) := by
    intro n28_651661
    induction n28_651661 with
    | zero => intro P651650 F651651 γ el g651649 bg651649 hT651652 hs651653 hph651654 hB651655 x651656 x651657 x651658 x651659 x651660 x651661 hm28_651661; exact absurd hm28_651661 (Nat.not_lt_zero _)
    | succ n28_651661 ih28_651661 =>
      intro P651650 F651651 γ el g651649 bg651649 hT651652 hs651653 hph651654 hB651655 x651656 x651657 x651658 x651659 x651660 x651661 hm28_651661
      clear r629342 r629343 r629344 r629345 r629346 hr629447 hr629448 hph629456 pk629457 r629458
      have ht651663 : rKd γ q629334 10 := rSk_k hs651653 hzq629334 (by decide) (by decide)
      have ht651664 : rKd γ q629335 9 := rSk_k hs651653 hzq629335 (by decide) (by decide)
      have hf651665 : γ 1 q629335 = f := rSk_1 hs651653 hzq629335 (by decide) hf0
      have pk651666 : rPh γ el f ≤ 387 * B + 6000 := rm_pk (rM_ge hT651652 ht651664 hf651665).1 (rM_bd hB651655)
      have r651667 : 0 < γ 6 (γ 1 q629335) := by rw [hf651665]; omega
      have hm651668 : q629334 ∈ P651650 := RS_m hT651652 ht651663 (by decide)
      refine rk10_e (show rk_10 γ (F651651 q629334) from RS_o hT651652 ht651663) (fun q651670 q651671 p651672 p651673 p651674 p651675 p651676 p651677 p651678 p651679 p651680 p651681 p651682 p651683 p651684 p651685 p651686 he651669 hB651713 ht651687 ht651688 ht651689 ht651690 ht651691 ht651692 ht651693 ht651694 ht651695 ht651696 ht651697 ht651698 ht651699 ht651700 ht651701 ht651702 ht651703 ht651704 ht651705 ht651706 ht651707 ht651708 ht651709 ht651710 hB651714 => ?_)
      have ac651715 : (fI (F651651 q629334) 11).toInt = p651674.toInt := by rw [he651669]; rfl
      have bp651674 : gB p651674 0 100 := (hB651713.2.2.1)
      have ac651716 : (fI (F651651 q629334) 14).toInt = p651677.toInt := by rw [he651669]; rfl
      have bp651677 : gB p651677 0 2000 := (hB651713.2.2.2.1)
      refine G_iload_n 0 dr_cX17_giveAll_28 rfl ?_
      refine G_bipush 40 dr_cX17_giveAll_29 (by decide +kernel) ?_
      refine G_icmp_gt 207 dr_cX17_giveAll_31 (by decide +kernel) (fun hc651717 => ?_) (fun hc651717 => ?_)
      · have r651718 : 40 < g651649.toInt := gj_ltL hc651717 (show Int32.toInt 40 = 40 by decide)
        have bg651649' : gB g651649 41 41 := ⟨by omega, by omega⟩
        refine G_iconst (-1) dr_cX17_giveAll_207 (by decide +kernel) ?_
        exact G_iretA dr_cX17_giveAll_208 rfl (show ((rPh γ el f - rPh γ0 el0 f) / 18) ≤ (((387 * B + 6000) - rPh γ0 el0 f) / 18) by omega) (show (rPh γ el f - rPh γ0 el0 f) ≤ ((387 * B + 6000) - rPh γ0 el0 f) by omega) ⟨P651650, F651651, γ, el, (-1), rfl, rfl, hs651653, ⟨by omega, by omega⟩, hB651655, (gB_w (gBl (show Int32.toInt (-1) = (-1) by decide)) (by decide) (by decide)), (by have qa0 : Int32.toInt (-1) = (-1) := (by decide); omega), x651661⟩
      · have r651719 : g651649.toInt ≤ 40 := gj_nltL hc651717 (show Int32.toInt 40 = 40 by decide)
        have bg651649' : gB g651649 1 40 := ⟨by omega, by omega⟩
        refine G_aload_n 2 dr_cX17_giveAll_34 rfl ?_
        have hm651725 : q629335 ∈ P651650 := RS_m hT651652 ht651664 (by decide)
        obtain ⟨q651727, q651728, p651729, p651730, he651726, ht651746, ht651731, ht651732, ht651733, ht651734, r651735, r651736, r651737, r651738, r651739, r651740, r651741, r651742, r651743, r651744, r651745⟩ := show rk_9 γ el q629335 (F651651 q629335) from RS_o hT651652 ht651664
        have bp651729 : gB p651729 0 1000000 := ⟨by omega, by omega⟩
        have bp651730 : gB p651730 0 1000000 := ⟨by omega, by omega⟩
        have hf651747 : γ 1 q651727 = f := (show γ 1 q651727 = γ 1 q629335 from ht651732).trans hf651665
        have hf651748 : γ 1 q651728 = f := (show γ 1 q651728 = γ 1 q629335 from ht651734).trans hf651665
        have r651749 : γ 6 (γ 1 q629335) = γ 6 f := by rw [hf651665]
        have r651750 : γ 16 (γ 1 q629335) = γ 16 f := by rw [hf651665]
        have r651751 : p651730.toInt = γ 6 f ∧ p651730.toInt ≤ 40 := by omega
        clear r651741
        refine Gw_callV (As := []) (gV_ok D I) (ct_7810_Code_countRows l hl0 D I γ el P651650 F651651 q629335 hT651652 ht651664 (by omega)) dr_cX17_giveAll_35 ⟨wr_10_229, wr_1_15, wr_10_232, by decide, rfl, (Nat.le_of_ble_eq_true rfl), (Nat.le_of_ble_eq_true rfl)⟩ wr_10_230 wr_10_231 hm651725 he651726 rfl (rm_zc pk651666) (rm_zs pk651666) (Nat.le_of_ble_eq_true rfl) (fun r651723 w651724 dc651720 ds651721 hp651722 => ?_) (fun _ _ _ _ _ z => z.elim)
        obtain ⟨o651752, rfl, rfl, hdc, hds, ht651753⟩ := hp651722
        have bo651752 := gB_any o651752
        change G _ _ _ _ _ _ _ (.int o651752 :: _) _ _ _
        refine G_widen (cs' := ((rPh γ el f - rPh γ0 el0 f) / 18)) (sl' := (rPh γ el f - rPh γ0 el0 f)) (rm_d0 hdc) (rm_d0 hds) ?_
        refine G_sipush 4000 dr_cX17_giveAll_38 (by decide +kernel) ?_
        refine G_icmp_le 46 dr_cX17_giveAll_41 (by decide +kernel) (fun hc651754 => ?_) (fun hc651754 => ?_)
        · have r651755 : o651752.toInt ≤ 4000 := gj_le hc651754 (show Int32.toInt 4000 = 4000 by decide)
          have bo651752' : gB o651752 (-2147483648) 4000 := ⟨by omega, by omega⟩
          refine G_aload_n 1 dr_cX17_giveAll_46 rfl ?_
          refine G_aload_n 2 dr_cX17_giveAll_47 rfl ?_
          refine G_iconst 0 dr_cX17_giveAll_48 (by decide +kernel) ?_
          refine Gw_callV (As := [.ref q629335, .int 0]) (gV_ok D I) (ct_276669_SpillForgeModel_graph l hl0 D I γ el P651650 F651651 q629334 q629335 0 hT651652 ht651663 ht651664 (gB_w (gBl (show Int32.toInt 0 = 0 by decide)) (by decide) (by decide)) (by omega)) dr_cX17_giveAll_49 ⟨wr_10_233, wr_1_14, wr_10_236, by decide, rfl, (Nat.le_of_ble_eq_true rfl), (Nat.le_of_ble_eq_true rfl)⟩ wr_10_235 wr_p_99 hm651668 he651669 rfl (rm_zc pk651666) (rm_zs pk651666) (Nat.le_of_ble_eq_true rfl) (fun r651759 w651760 dc651756 ds651757 hp651758 => ?_) (fun _ _ _ _ _ z => z.elim)
          obtain ⟨F651764, rfl, rfl, hT651765, hs651766, hdc, hds, x651761, x651762, ht651763⟩ := hp651758
          have he651767 : F651764 q629335 = .inr (18, [.ref q651727, .ref q651728, .int p651729, .int p651730]) := (hs651766 q629335 (rT0 ht651664 (by decide)) (rT1 ht651664 (by decide)) (rT2 ht651664 (by decide))).trans he651726
          have hs651768 := rSk_str hs651653 hT651765 hs651766 (by decide) (by decide) (by decide)
          have kp651769 : F651764 q629334 = F651651 q629334 := x651762
          have mk651770 : mKp (F629333 q629334) (F651764 q629334) := mKp_tr x651661 (mKp_eq x651762)
          have he651771 : F651764 q629334 = .inr (22, [.ref (γ 9 0), .ref (γ 9 1), .ref (γ 9 2), .ref (γ 9 3), .ref (γ 9 4), .ref (γ 9 5), .ref (γ 9 6), .ref (γ 9 7), .ref (γ 9 8), .int p651672, .int p651673, .int p651674, .int p651675, .int p651676, .int p651677, .ref (γ 9 15), .ref (γ 9 16), .ref (γ 9 17), .ref (γ 9 18), .ref (γ 9 19), .ref (γ 9 20), .ref (γ 9 21), .ref (γ 9 22), .int p651678, .int p651679, .int p651680, .int p651681, .int p651682, .ref q651670, .ref (γ 9 29), .int p651683, .ref (γ 9 31), .int p651684, .int p651685, .int p651686, .ref q651671]) := (x651762).trans he651669
          rw [show Int32.toInt 0 = 0 from by decide] at x651761
          change G _ _ _ _ _ _ _ _ _ _ _
          refine G_widen (cs' := ((rPh γ el f - rPh γ0 el0 f) / 18)) (sl' := (rPh γ el f - rPh γ0 el0 f)) (rm_d0 hdc) (rm_d0 hds) ?_
          have ni651772 : rNI γ el F651764 q629335 (γ 6 f) (fI (F651764 q629334) 11).toInt := rNI_s (rNI_str hT651652 ht651664 hf651665 hs651766 (by decide) x651660) (by rw [x651762])
          have gr651773 : rGr γ el F651764 q629335 (γ 6 f) (cB (F651764 (γ0 9 3))) (vA (γ 6 f)) := by have z := x651761 (by decide); rw [hf651665] at z; rw [← congrFun (rSk_9 hs651768) 3]; exact gq_str hT651652 ht651664 hf651665 hs651766 (by decide) z
          have ac651774 : (fI (F651764 q629334) 11).toInt = (fI (F651651 q629334) 11).toInt := by rw [kp651769]
          have ac651775 : (fI (F651764 q629334) 14).toInt = (fI (F651651 q629334) 14).toInt := by rw [kp651769]
          have hlp52_653268 : ∀ (n52_653268 : Nat) (P653256 : List Nat) (F653257 : Nat → va_E) (γ el : Nat → Nat → Nat) , RS D I P653256 F653257 γ el → rSk f [101] ([1, 3, 5, 6, 8, 9, 101] ++ npk) D I P629332 F629333 γ0 el0 P653256 F653257 γ el → rPh γ0 el0 f ≤ rPh γ el f → rBd γ el f B → γ 6 f = γ0 6 f → ((γ 7 f : Nat) : Int) = (fI (F653257 q629334) 11).toInt → ((γ 16 f : Nat) : Int) + 2001 ≤ (B : Int) + (fI (F653257 q629334) 14).toInt → 100 ≤ (fI (F653257 q629334) 14).toInt → rNI γ el F653257 q629335 (γ 6 f) (fI (F653257 q629334) 11).toInt → rGr γ el F653257 q629335 (γ 6 f) (cB (F653257 (γ0 9 3))) (vA (γ 6 f)) → mKp (F629333 q629334) (F653257 q629334) → rsum (fun i => γ 2 (γ 14 (el (γ 14 q629335) i))) (γ 6 f) < n52_653268 → G (gV D I) l (gRm 10 224 (((387 * B + 6000) - rPh γ0 el0 f) / 18) ((387 * B + 6000) - rPh γ0 el0 f)) (gMA (gV D I) (pg_629340_SpillForgeModel_giveAll D I γ0 el0 f B P629332 F629333 q629334 q629335 p629336) gNA (((387 * B + 6000) - rPh γ0 el0 f) / 18) ((387 * B + 6000) - rPh γ0 el0 f)) ky_629340_SpillForgeModel_giveAll 52 [(3, .int g651649), (0, .ref q629334), (1, .ref q629335), (2, .int p629336)] [] (va_pl P653256 F653257) ((rPh γ el f - rPh γ0 el0 f) / 18) (rPh γ el f - rPh γ0 el0 f) := by
            intro n52_653268
            induction n52_653268 with
            | zero => intro P653256 F653257 γ el hT653258 hs653259 hph653260 hB653261 x653262 x653263 x653264 x653265 x653266 x653267 x653268 hm52_653268; exact absurd hm52_653268 (Nat.not_lt_zero _)
            | succ n52_653268 ih52_653268 =>
              intro P653256 F653257 γ el hT653258 hs653259 hph653260 hB653261 x653262 x653263 x653264 x653265 x653266 x653267 x653268 hm52_653268
              clear r651735 r651736 r651737 r651738 r651739 r651740 r651742 r651743 r651744 r651745 bp651729 bp651730 r651749 r651750 r651751
              have ht653270 : rKd γ q629334 10 := rSk_k hs653259 hzq629334 (by decide) (by decide)
              have ht653271 : rKd γ q629335 9 := rSk_k hs653259 hzq629335 (by decide) (by decide)
              have hf653272 : γ 1 q629335 = f := rSk_1 hs653259 hzq629335 (by decide) hf0
              have pk653273 : rPh γ el f ≤ 387 * B + 6000 := rm_pk (rM_ge hT653258 ht653271 hf653272).1 (rM_bd hB653261)
              have r653274 : 0 < γ 6 (γ 1 q629335) := by rw [hf653272]; omega
              have hm653275 : q629334 ∈ P653256 := RS_m hT653258 ht653270 (by decide)
              refine rk10_e (show rk_10 γ (F653257 q629334) from RS_o hT653258 ht653270) (fun q653277 q653278 p653279 p653280 p653281 p653282 p653283 p653284 p653285 p653286 p653287 p653288 p653289 p653290 p653291 p653292 p653293 he653276 hB653320 ht653294 ht653295 ht653296 ht653297 ht653298 ht653299 ht653300 ht653301 ht653302 ht653303 ht653304 ht653305 ht653306 ht653307 ht653308 ht653309 ht653310 ht653311 ht653312 ht653313 ht653314 ht653315 ht653316 ht653317 hB653321 => ?_)
              have ac653322 : (fI (F653257 q629334) 11).toInt = p653281.toInt := by rw [he653276]; rfl
              have bp653281 : gB p653281 0 100 := (hB653320.2.2.1)
              have ac653323 : (fI (F653257 q629334) 14).toInt = p653284.toInt := by rw [he653276]; rfl
              have bp653284 : gB p653284 0 2000 := (hB653320.2.2.2.1)
              refine G_aload_n 1 dr_cX17_giveAll_52 rfl ?_
              refine G_aload_n 2 dr_cX17_giveAll_53 rfl ?_
              refine G_iload_n 3 dr_cX17_giveAll_54 rfl ?_
              have rg653324 := rM_ge hT653258 ht653271 hf653272
              have rm653325 := rM_bd hB653261
              have bd653326 := rBd_c hT653258 ht653271 hf653272 hB653261
              have rc653327 := rc_at hT653258 ht653271 hf653272
              refine Gw_callV (As := [.ref q629335, .int p629336]) (gV_ok D I) (cg_396638_SpillForgeModel_merge l hl0 D I γ el f B P653256 F653257 q629334 q629335 p629336 hT653258 ht653270 ht653271 hf653272 hB653261 hBk (by omega)) dr_cX17_giveAll_55 ⟨wr_11_8, wr_1_14, wr_11_11, by decide, rfl, (Nat.le_of_ble_eq_true rfl), (Nat.le_of_ble_eq_true rfl)⟩ wr_11_10 wr_p_101 hm653275 he653276 rfl (rm_gc hph653260 pk653273) (rm_gs hph653260 pk653273) (Nat.le_of_ble_eq_true rfl) (fun r653331 w653332 dc653328 ds653329 hp653330 => ?_) (fun _ _ _ _ _ z => z.elim)
              obtain ⟨P653344, F653345, γ, el, o653333, rfl, rfl, hk653346, ⟨hr653347, hr653348⟩, hB653349, bo653333, x653334, x653335, x653336, x653337, x653338, x653339, x653340, x653341, x653342, x653343⟩ := hp653330
              have hT653350 := hk653346.1
              have hs653351 := rSk_tr hs653259 hk653346 (by decide) (by decide) (by decide)
              have ht653352 : rKd γ q629334 10 := rSk_k hk653346 ht653270 (by decide) (by decide)
              have ht653353 : rKd γ q629335 9 := rSk_k hk653346 ht653271 (by decide) (by decide)
              have hf653354 : γ 1 q629335 = f := rSk_1 hk653346 ht653271 (by decide) hf653272
              clear rg653324 rm653325 bd653326 rc653327
              have mk653355 : mKp (F629333 q629334) (F653345 q629334) := mKp_tr x653268 x653343
              have hph653356 : rPh γ0 el0 f ≤ rPh γ el f := rm_ph hph653260 hr653348
              have pk653357 : rPh γ el f ≤ 387 * B + 6000 := rm_pk (rM_ge hT653350 ht653353 hf653354).1 (rM_bd hB653349)
              change G _ _ _ _ _ _ _ (.int o653333 :: _) _ _ _
              refine G_widen (cs' := ((rPh γ el f - rPh γ0 el0 f) / 18)) (sl' := (rPh γ el f - rPh γ0 el0 f)) (rm_wc hph653260 hr653347) (rm_ws hph653260 hr653348) ?_
              have r653358 : 0 < γ 6 (γ 1 q629335) := by rw [hf653354]; omega
              have hm653359 : q629334 ∈ P653344 := RS_m hT653350 ht653352 (by decide)
              refine rk10_e (show rk_10 γ (F653345 q629334) from RS_o hT653350 ht653352) (fun q653361 q653362 p653363 p653364 p653365 p653366 p653367 p653368 p653369 p653370 p653371 p653372 p653373 p653374 p653375 p653376 p653377 he653360 hB653404 ht653378 ht653379 ht653380 ht653381 ht653382 ht653383 ht653384 ht653385 ht653386 ht653387 ht653388 ht653389 ht653390 ht653391 ht653392 ht653393 ht653394 ht653395 ht653396 ht653397 ht653398 ht653399 ht653400 ht653401 hB653405 => ?_)
              have ac653406 : (fI (F653345 q629334) 11).toInt = p653365.toInt := by rw [he653360]; rfl
              have bp653365 : gB p653365 0 100 := (hB653404.2.2.1)
              have ac653407 : (fI (F653345 q629334) 14).toInt = p653368.toInt := by rw [he653360]; rfl
              have bp653368 : gB p653368 0 2000 := (hB653404.2.2.2.1)
              have ni653408 : rNI γ el F653345 q629335 (γ 6 f) (fI (F653345 q629334) 11).toInt := rNI_s (rNI_mg x653339 x653266) x653340
              refine G_if_eq 70 dr_cX17_giveAll_58 (by decide +kernel) (fun hc653409 => ?_) (fun hc653409 => ?_)
              · have r653410 : o653333.toInt = 0 := gj_eq hc653409 (show Int32.toInt 0 = 0 by decide)
                have bo653333' : gB o653333 0 0 := gB_t0 r653410
                have r653411 := x653342 (by omega)
                have gr653412 : rGr γ el F653345 q629335 (γ 6 f) (cB (F653345 (γ0 9 3))) (vA (γ 6 f)) := by rw [r653411.1, r653411.2.1, r653411.2.2]; exact x653267
                refine G_aload_n 1 dr_cX17_giveAll_70 rfl ?_
                refine G_aload_n 2 dr_cX17_giveAll_71 rfl ?_
                refine Gw_callV (As := [.ref q629335]) (gV_ok D I) (ct_407681_SpillForgeModel_weigh l hl0 D I γ el P653344 F653345 q629334 q629335 hT653350 ht653352 ht653353 (by omega)) dr_cX17_giveAll_72 ⟨wr_11_33, wr_1_14, wr_11_36, by decide, rfl, (Nat.le_of_ble_eq_true rfl), (Nat.le_of_ble_eq_true rfl)⟩ wr_11_35 wr_p_104 hm653359 he653360 rfl (rm_zc pk653357) (rm_zs pk653357) (Nat.le_of_ble_eq_true rfl) (fun r653416 w653417 dc653413 ds653414 hp653415 => ?_) (fun _ _ _ _ _ z => z.elim)
                obtain ⟨F653421, rfl, rfl, hT653422, hs653423, hdc, hds, x653418, x653419, ht653420⟩ := hp653415
                have hs653424 := rSk_str hs653351 hT653422 hs653423 (by decide) (by decide) (by decide)
                have kp653425 : F653421 q629334 = F653345 q629334 := x653418
                have kp653426 : F653421 (γ0 9 3) = F653345 (γ0 9 3) := (show F653421 (γ0 9 3) = F653345 (γ0 9 3) by rw [← congrFun (rSk_9 hs653424) 3]; exact x653419)
                have mk653427 : mKp (F629333 q629334) (F653421 q629334) := mKp_tr mk653355 (mKp_eq x653418)
                have he653428 : F653421 q629334 = .inr (22, [.ref (γ 9 0), .ref (γ 9 1), .ref (γ 9 2), .ref (γ 9 3), .ref (γ 9 4), .ref (γ 9 5), .ref (γ 9 6), .ref (γ 9 7), .ref (γ 9 8), .int p653363, .int p653364, .int p653365, .int p653366, .int p653367, .int p653368, .ref (γ 9 15), .ref (γ 9 16), .ref (γ 9 17), .ref (γ 9 18), .ref (γ 9 19), .ref (γ 9 20), .ref (γ 9 21), .ref (γ 9 22), .int p653369, .int p653370, .int p653371, .int p653372, .int p653373, .ref q653361, .ref (γ 9 29), .int p653374, .ref (γ 9 31), .int p653375, .int p653376, .int p653377, .ref q653362]) := (x653418).trans he653360
                change G _ _ _ _ _ _ _ _ _ _ _
                refine G_widen (cs' := ((rPh γ el f - rPh γ0 el0 f) / 18)) (sl' := (rPh γ el f - rPh γ0 el0 f)) (rm_d0 hdc) (rm_d0 hds) ?_
                have ni653429 : rNI γ el F653421 q629335 (γ 6 f) (fI (F653421 q629334) 11).toInt := rNI_s (rNI_str hT653350 ht653353 hf653354 hs653423 (by decide) ni653408) (by rw [x653418])
                have gr653430 : rGr γ el F653421 q629335 (γ 6 f) (cB (F653421 (γ0 9 3))) (vA (γ 6 f)) := by rw [← congrFun (rSk_9 hs653424) 3, x653419, congrFun (rSk_9 hs653424) 3]; exact gq_str hT653350 ht653353 hf653354 hs653423 (by decide) gr653412
                have ac653431 : (fI (F653421 q629334) 11).toInt = (fI (F653345 q629334) 11).toInt := by rw [kp653425]
                have ac653432 : (fI (F653421 q629334) 14).toInt = (fI (F653345 q629334) 14).toInt := by rw [kp653425]
                refine G_aload_n 1 dr_cX17_giveAll_75 rfl ?_
                refine G_iload_n 3 dr_cX17_giveAll_76 rfl ?_
                refine Gw_callV (As := [.int p629336]) (gV_ok D I) (ct_335096_SpillForgeModel_colours l hl0 D I γ el P653344 F653421 q629334 p629336 hT653422 ht653352 bp629336) dr_cX17_giveAll_77 ⟨wr_11_47, wr_1_14, wr_11_50, by decide, rfl, (Nat.le_of_ble_eq_true rfl), (Nat.le_of_ble_eq_true rfl)⟩ wr_11_49 wr_p_106 hm653359 he653428 rfl (rm_zc pk653357) (rm_zs pk653357) (Nat.le_of_ble_eq_true rfl) (fun r653436 w653437 dc653433 ds653434 hp653435 => ?_) (fun _ _ _ _ _ z => z.elim)
                obtain ⟨F653442, o653438, rfl, rfl, hT653443, hs653444, hdc, hds, bo653438, x653439, x653440, x653441⟩ := hp653435
                have hs653445 := rSk_str hs653424 hT653443 hs653444 (by decide) (by decide) (by decide)
                have kp653446 : F653442 q629334 = F653345 q629334 := (x653440).trans kp653425
                have kp653447 : F653442 (γ0 9 3) = F653345 (γ0 9 3) := ((show F653442 (γ0 9 3) = F653421 (γ0 9 3) by rw [← congrFun (rSk_9 hs653445) 3]; exact x653441)).trans kp653426
                have mk653448 : mKp (F629333 q629334) (F653442 q629334) := mKp_tr mk653427 (mKp_eq x653440)
                have he653449 : F653442 q629334 = .inr (22, [.ref (γ 9 0), .ref (γ 9 1), .ref (γ 9 2), .ref (γ 9 3), .ref (γ 9 4), .ref (γ 9 5), .ref (γ 9 6), .ref (γ 9 7), .ref (γ 9 8), .int p653363, .int p653364, .int p653365, .int p653366, .int p653367, .int p653368, .ref (γ 9 15), .ref (γ 9 16), .ref (γ 9 17), .ref (γ 9 18), .ref (γ 9 19), .ref (γ 9 20), .ref (γ 9 21), .ref (γ 9 22), .int p653369, .int p653370, .int p653371, .int p653372, .int p653373, .ref q653361, .ref (γ 9 29), .int p653374, .ref (γ 9 31), .int p653375, .int p653376, .int p653377, .ref q653362]) := (x653440).trans he653428
                change G _ _ _ _ _ _ _ (.int o653438 :: _) _ _ _
                refine G_widen (cs' := ((rPh γ el f - rPh γ0 el0 f) / 18)) (sl' := (rPh γ el f - rPh γ0 el0 f)) (rm_d0 hdc) (rm_d0 hds) ?_
                have ni653450 : rNI γ el F653442 q629335 (γ 6 f) (fI (F653442 q629334) 11).toInt := rNI_s (rNI_str hT653422 ht653353 hf653354 hs653444 (by decide) ni653429) (by rw [x653440])
                have gr653451 : rGr γ el F653442 q629335 (γ 6 f) (cB (F653442 (γ0 9 3))) (vA (γ 6 f)) := by rw [← congrFun (rSk_9 hs653445) 3, x653441, congrFun (rSk_9 hs653445) 3]; exact gq_str hT653422 ht653353 hf653354 hs653444 (by decide) gr653430
                have ac653452 : (fI (F653442 q629334) 11).toInt = (fI (F653345 q629334) 11).toInt := by rw [kp653446]
                have ac653453 : (fI (F653442 q629334) 14).toInt = (fI (F653345 q629334) 14).toInt := by rw [kp653446]
                refine G_istore (L' := [(4, .int o653438), (3, .int g651649), (0, .ref q629334), (1, .ref q629335), (2, .int p629336)]) dr_cX17_giveAll_80 (Nat.le_of_ble_eq_true rfl) rfl ?_
                refine G_iload 0 dr_cX17_giveAll_82 rfl ?_
                refine G_if_ne 180 dr_cX17_giveAll_84 (by decide +kernel) (fun hc653454 => ?_) (fun hc653454 => ?_)
                · have r653455 : o653438.toInt ≠ 0 := gj_neq hc653454 (show Int32.toInt 0 = 0 by decide)
                  have bo653438' : gB o653438 1 2000 := ⟨by omega, by omega⟩
                  have ac653456 : (fI (F653442 q629334) 11).toInt = p653365.toInt := by rw [he653449]; rfl
                  have ac653457 : (fI (F653442 q629334) 14).toInt = p653368.toInt := by rw [he653449]; rfl
                  refine G_aload_n 2 dr_cX17_giveAll_180 rfl ?_
                  refine G_dup dr_cX17_giveAll_181 rfl ?_
                  refine Gp_get 12 hm653359 he653449 dr_cX17_giveAll_182 (gk_X17 D I) (Nat.le_of_ble_eq_true rfl) wr_7_86 rfl ?_
                  have bp653366 : gB p653366 (-2147483648) 2147483647 := (gB_any p653366)
                  refine G_iload 0 dr_cX17_giveAll_185 rfl ?_
                  refine G_iadd dr_cX17_giveAll_187 (G_nam fun z653458 hz653458 => ?_)
                  have bz653458 : gB z653458 (-2147483648) 2147483647 := gB_any z653458
                  refine Gp_put 12 hm653359 he653449 dr_cX17_giveAll_188 (gk_X17 D I) (Nat.le_of_ble_eq_true rfl) wr_7_86 rfl rfl rfl (Nat.le_of_ble_eq_true rfl) (fun F653459 e653460 n653461 => ?_)
                  have he653462 : F653459 q629334 = .inr (22, [.ref (γ 9 0), .ref (γ 9 1), .ref (γ 9 2), .ref (γ 9 3), .ref (γ 9 4), .ref (γ 9 5), .ref (γ 9 6), .ref (γ 9 7), .ref (γ 9 8), .int p653363, .int p653364, .int p653365, .int z653458, .int p653367, .int p653368, .ref (γ 9 15), .ref (γ 9 16), .ref (γ 9 17), .ref (γ 9 18), .ref (γ 9 19), .ref (γ 9 20), .ref (γ 9 21), .ref (γ 9 22), .int p653369, .int p653370, .int p653371, .int p653372, .int p653373, .ref q653361, .ref (γ 9 29), .int p653374, .ref (γ 9 31), .int p653375, .int p653376, .int p653377, .ref q653362]) := e653460
                  have mk653463 : mKp (F629333 q629334) (F653459 q629334) := mKp_tr mk653448 (by rw [he653449, he653462]; exact ⟨rfl, rfl⟩)
                  have kp653464 : F653459 (γ0 9 3) = F653345 (γ0 9 3) := (n653461 (γ0 9 3) (rn_ty (rSk_k hs653445 k0_3 (by decide) (by decide)) ht653352 (by decide))).trans kp653447
                  have kp653465 : F653459 (γ0 9 17) = F653442 (γ0 9 17) := n653461 (γ0 9 17) (rn_ty (rSk_k hs653445 k0_17 (by decide) (by decide)) ht653352 (by decide))
                  have hT653466 : RS D I P653344 F653459 γ el := RS_set hT653443 n653461 ht653352 (by decide) ⟨q653361, q653362, p653363, p653364, p653365, z653458, p653367, p653368, p653369, p653370, p653371, p653372, p653373, p653374, p653375, p653376, p653377, he653462, ⟨(hB653404.1), (hB653404.2.1), bp653365, bp653368, (hB653404.2.2.2.2.1), (hB653404.2.2.2.2.2.1), (hB653404.2.2.2.2.2.2.1), (hB653404.2.2.2.2.2.2.2.1), (hB653404.2.2.2.2.2.2.2.2)⟩, ht653378, ht653379, ht653380, ht653381, ht653382, ht653383, ht653384, ht653385, ht653386, ht653387, ht653388, ht653389, ht653390, ht653391, ht653392, ht653393, ht653394, ht653395, ht653396, ht653397, ht653398, ht653399, ht653400, ht653401, hB653405⟩
                  have hs653467 := rSk_put hs653445 hT653466 n653461 ht653352 (by decide) (by decide)
                  have ac653468 : (fI (F653459 q629334) 11).toInt = p653365.toInt := by rw [he653462]; rfl
                  have ac653469 : (fI (F653459 q629334) 14).toInt = p653368.toInt := by rw [he653462]; rfl
                  have gr653471 := rNI_gr ni653450 gr653451
                  have p3653472 : (fI (F653459 q629334) 11).toInt + (rcn (cB (F653459 (γ0 9 3))) 100 : Nat) ≤ 100 := by rw [(n653461 (γ0 9 3) (rn_ty (rSk_k hs653467 k0_3 (by decide) (by decide)) ht653352 (by decide)))]; have z := gr653471.1; omega
                  have p4653473 : rPl γ el F653459 q629335 (γ 6 f) (fun _ _ => rNx (rSd (cB (F653459 (γ0 9 3))))) := by rw [(n653461 (γ0 9 3) (rn_ty (rSk_k hs653467 k0_3 (by decide) (by decide)) ht653352 (by decide)))]; exact rPl_fr hT653443 ht653353 hf653354 gr653471.2 (fun b hb _ => n653461 b (rn_ty (show rKd γ b 1 from hb) ht653352 (by decide)))
                  refine G_aload_n 2 dr_cX17_giveAll_191 rfl ?_
                  refine G_aload_n 3 dr_cX17_giveAll_192 rfl ?_
                  have rg653474 := rM_ge hT653466 ht653353 hf653354
                  have rm653475 := rM_bd hB653349
                  have bd653476 := rBd_c hT653466 ht653353 hf653354 hB653349
                  have rc653477 := rc_at hT653466 ht653353 hf653354
                  refine Gw_callV (As := [.ref q629335]) (gV_ok D I) (cg_587508_SpillForgeModel_spill l hl0 D I γ el f B P653344 F653459 q629334 q629335 hT653466 ht653352 ht653353 hf653354 hB653349 hBk (by omega) (by omega) (by omega) (by rw [congrFun (rSk_9 hs653467) 3]; exact p3653472) (by rw [congrFun (rSk_9 hs653467) 3]; exact p4653473) (by omega)) dr_cX17_giveAll_193 ⟨wr_11_63, wr_1_14, wr_11_66, by decide, rfl, (Nat.le_of_ble_eq_true rfl), (Nat.le_of_ble_eq_true rfl)⟩ wr_11_65 wr_p_110 hm653359 he653462 rfl (rm_gc hph653356 pk653357) (rm_gs hph653356 pk653357) (Nat.le_of_ble_eq_true rfl) (fun r653481 w653482 dc653478 ds653479 hp653480 => ?_) (fun _ _ _ _ _ z => z.elim)
                  obtain ⟨P653488, F653489, γ, el, o653483, rfl, rfl, hk653490, ⟨hr653491, hr653492⟩, hB653493, bo653483, x653484, x653485, x653486, x653487⟩ := hp653480
                  have hT653494 := hk653490.1
                  have hs653495 := rSk_tr hs653467 hk653490 (by decide) (by decide) (by decide)
                  have ht653496 : rKd γ q629334 10 := rSk_k hk653490 ht653352 (by decide) (by decide)
                  have ht653497 : rKd γ q629335 9 := rSk_k hk653490 ht653353 (by decide) (by decide)
                  have hf653498 : γ 1 q629335 = f := rSk_1 hk653490 ht653353 (by decide) hf653354
                  clear rg653474 rm653475 bd653476 rc653477
                  have mk653499 : mKp (F629333 q629334) (F653489 q629334) := mKp_tr mk653463 x653487
                  have hph653500 : rPh γ0 el0 f ≤ rPh γ el f := rm_ph hph653356 hr653492
                  have pk653501 : rPh γ el f ≤ 387 * B + 6000 := rm_pk (rM_ge hT653494 ht653497 hf653498).1 (rM_bd hB653493)
                  change G _ _ _ _ _ _ _ (.int o653483 :: _) _ _ _
                  refine G_widen (cs' := ((rPh γ el f - rPh γ0 el0 f) / 18)) (sl' := (rPh γ el f - rPh γ0 el0 f)) (rm_wc hph653356 hr653491) (rm_ws hph653356 hr653492) ?_
                  have r653502 : 0 < γ 6 (γ 1 q629335) := by rw [hf653498]; omega
                  have hm653503 : q629334 ∈ P653488 := RS_m hT653494 ht653496 (by decide)
                  refine rk10_e (show rk_10 γ (F653489 q629334) from RS_o hT653494 ht653496) (fun q653505 q653506 p653507 p653508 p653509 p653510 p653511 p653512 p653513 p653514 p653515 p653516 p653517 p653518 p653519 p653520 p653521 he653504 hB653548 ht653522 ht653523 ht653524 ht653525 ht653526 ht653527 ht653528 ht653529 ht653530 ht653531 ht653532 ht653533 ht653534 ht653535 ht653536 ht653537 ht653538 ht653539 ht653540 ht653541 ht653542 ht653543 ht653544 ht653545 hB653549 => ?_)
                  have ac653550 : (fI (F653489 q629334) 11).toInt = p653509.toInt := by rw [he653504]; rfl
                  have bp653509 : gB p653509 0 100 := (hB653548.2.2.1)
                  have ac653551 : (fI (F653489 q629334) 14).toInt = p653512.toInt := by rw [he653504]; rfl
                  have bp653512 : gB p653512 0 2000 := (hB653548.2.2.2.1)
                  refine G_if_ne 201 dr_cX17_giveAll_196 (by decide +kernel) (fun hc653552 => ?_) (fun hc653552 => ?_)
                  · have r653553 : o653483.toInt ≠ 0 := gj_neq hc653552 (show Int32.toInt 0 = 0 by decide)
                    have bo653483' : gB o653483 1 1 := gB_t1 bo653483 r653553
                    have ni653554 := x653485.resolve_left (by omega)
                    clear x653485
                    obtain ⟨rni653554a, rni653554b, rni653554c, rni653554d, rni653554e, rni653554f⟩ := ni653554
                    obtain ⟨z653555, hz653555⟩ : ∃ z : Int32, z = g651649 + Int32.ofInt 1 := ⟨_, rfl⟩
                    have ez653555 : z653555.toInt = g651649.toInt + 1 := gI_inc hz653555 (by decide) bg651649' (by decide) (by decide)
                    have bz653555 : gB z653555 2 41 := ⟨by omega, by omega⟩
                    refine G_iinc (L' := [(3, .int z653555), (4, .int o653438), (0, .ref q629334), (1, .ref q629335), (2, .int p629336)]) z653555 1 dr_cX17_giveAll_201 rfl hz653555.symm (Nat.le_of_ble_eq_true rfl) rfl ?_
                    refine G_goto 28 dr_cX17_giveAll_204 (by decide +kernel) ?_
                    refine G_lv (L' := [(3, .int z653555), (0, .ref q629334), (1, .ref q629335), (2, .int p629336)]) [0, 2, 3, 4] rfl ?_
                    have ac653556 : (fI (F653489 q629334) 11).toInt = p653509.toInt := by rw [he653504]; rfl
                    have ac653557 : (fI (F653489 q629334) 14).toInt = p653512.toInt := by rw [he653504]; rfl
                    exact ih28_651661 P653488 F653489 γ el z653555 (gB_w bz653555 (by decide) (by decide)) hT653494 hs653495 hph653500 hB653493 (by omega) (by omega) (by omega) (by omega) rni653554f mk653499 (by omega)
                  · have r653558 : o653483.toInt = 0 := gj_eq hc653552 (show Int32.toInt 0 = 0 by decide)
                    have bo653483' : gB o653483 0 0 := gB_t0 r653558
                    refine G_iconst (-1) dr_cX17_giveAll_199 (by decide +kernel) ?_
                    exact G_iretA dr_cX17_giveAll_200 rfl (show ((rPh γ el f - rPh γ0 el0 f) / 18) ≤ (((387 * B + 6000) - rPh γ0 el0 f) / 18) by omega) (show (rPh γ el f - rPh γ0 el0 f) ≤ ((387 * B + 6000) - rPh γ0 el0 f) by omega) ⟨P653488, F653489, γ, el, (-1), rfl, rfl, hs653495, ⟨by omega, by omega⟩, hB653493, (gB_w (gBl (show Int32.toInt (-1) = (-1) by decide)) (by decide) (by decide)), (by have qa0 : Int32.toInt (-1) = (-1) := (by decide); omega), mk653499⟩
                · have r653559 : o653438.toInt = 0 := gj_eq hc653454 (show Int32.toInt 0 = 0 by decide)
                  have bo653438' : gB o653438 0 0 := ⟨by omega, by omega⟩
                  have cq653560 : rPl γ el F653442 q629335 (γ 6 f) (cqR (cB (F653442 (γ0 9 17))) 0 0) := cq_0 gr653451 (fun m hm => by have z := x653439 (by omega); rw [congrFun (rSk_9 hs653445) 3, congrFun (rSk_9 hs653445) 17] at z; exact z m hm)
                  refine G_iconst 0 dr_cX17_giveAll_87 (by decide +kernel) ?_
                  refine G_istore (L' := [(5, .int 0), (4, .int o653438), (3, .int g651649), (0, .ref q629334), (1, .ref q629335), (2, .int p629336)]) dr_cX17_giveAll_88 (Nat.le_of_ble_eq_true rfl) rfl ?_
                  have hlp90_654162 : ∀ (n90_654162 : Nat) (P654150 : List Nat) (F654151 : Nat → va_E) (γ el : Nat → Nat → Nat) (g654149 : Int32), gB g654149 0 1000000 → RS D I P654150 F654151 γ el → rSk f [101] ([1, 3, 5, 6, 8, 9, 101] ++ npk) D I P629332 F629333 γ0 el0 P654150 F654151 γ el → rPh γ0 el0 f ≤ rPh γ el f → rBd γ el f B → γ 6 f = γ0 6 f → ((γ 7 f : Nat) : Int) = (fI (F654151 q629334) 11).toInt → ((γ 16 f : Nat) : Int) + 2001 ≤ (B : Int) + (fI (F654151 q629334) 14).toInt → 100 ≤ (fI (F654151 q629334) 14).toInt → (F654151 (γ0 9 17) = F653442 (γ0 9 17)) → rPl γ el F654151 q629335 (γ 6 f) (cqR (cB (F653442 (γ0 9 17))) (g654149.toInt : Int).toNat 0) → mKp (F629333 q629334) (F654151 q629334) → ((1000001 : Int) - g654149.toInt).toNat < n90_654162 → G (gV D I) l (gRm 10 224 (((387 * B + 6000) - rPh γ0 el0 f) / 18) ((387 * B + 6000) - rPh γ0 el0 f)) (gMA (gV D I) (pg_629340_SpillForgeModel_giveAll D I γ0 el0 f B P629332 F629333 q629334 q629335 p629336) gNA (((387 * B + 6000) - rPh γ0 el0 f) / 18) ((387 * B + 6000) - rPh γ0 el0 f)) ky_629340_SpillForgeModel_giveAll 90 [(5, .int g654149), (4, .int o653438), (3, .int g651649), (0, .ref q629334), (1, .ref q629335), (2, .int p629336)] [] (va_pl P654150 F654151) ((rPh γ el f - rPh γ0 el0 f) / 18) (rPh γ el f - rPh γ0 el0 f) := by
                    intro n90_654162
                    induction n90_654162 with
                    | zero => intro P654150 F654151 γ el g654149 bg654149 hT654152 hs654153 hph654154 hB654155 x654156 x654157 x654158 x654159 x654160 x654161 x654162 hm90_654162; exact absurd hm90_654162 (Nat.not_lt_zero _)
                    | succ n90_654162 ih90_654162 =>
                      intro P654150 F654151 γ el g654149 bg654149 hT654152 hs654153 hph654154 hB654155 x654156 x654157 x654158 x654159 x654160 x654161 x654162 hm90_654162
                      clear hr653347 hr653348 hph653356 pk653357 r653358 r653411
                      have ht654164 : rKd γ q629334 10 := rSk_k hs654153 hzq629334 (by decide) (by decide)
                      have ht654165 : rKd γ q629335 9 := rSk_k hs654153 hzq629335 (by decide) (by decide)
                      have hf654166 : γ 1 q629335 = f := rSk_1 hs654153 hzq629335 (by decide) hf0
                      have pk654167 : rPh γ el f ≤ 387 * B + 6000 := rm_pk (rM_ge hT654152 ht654165 hf654166).1 (rM_bd hB654155)
                      have r654168 : 0 < γ 6 (γ 1 q629335) := by rw [hf654166]; omega
                      have hm654169 : q629334 ∈ P654150 := RS_m hT654152 ht654164 (by decide)
                      refine rk10_e (show rk_10 γ (F654151 q629334) from RS_o hT654152 ht654164) (fun q654171 q654172 p654173 p654174 p654175 p654176 p654177 p654178 p654179 p654180 p654181 p654182 p654183 p654184 p654185 p654186 p654187 he654170 hB654214 ht654188 ht654189 ht654190 ht654191 ht654192 ht654193 ht654194 ht654195 ht654196 ht654197 ht654198 ht654199 ht654200 ht654201 ht654202 ht654203 ht654204 ht654205 ht654206 ht654207 ht654208 ht654209 ht654210 ht654211 hB654215 => ?_)
                      have ac654216 : (fI (F654151 q629334) 11).toInt = p654175.toInt := by rw [he654170]; rfl
                      have bp654175 : gB p654175 0 100 := (hB654214.2.2.1)
                      have ac654217 : (fI (F654151 q629334) 14).toInt = p654178.toInt := by rw [he654170]; rfl
                      have bp654178 : gB p654178 0 2000 := (hB654214.2.2.2.1)
                      refine G_iload 0 dr_cX17_giveAll_90 rfl ?_
                      refine G_aload_n 4 dr_cX17_giveAll_92 rfl ?_
                      have hm654218 : q629335 ∈ P654150 := RS_m hT654152 ht654165 (by decide)
                      obtain ⟨q654220, q654221, p654222, p654223, he654219, ht654239, ht654224, ht654225, ht654226, ht654227, r654228, r654229, r654230, r654231, r654232, r654233, r654234, r654235, r654236, r654237, r654238⟩ := show rk_9 γ el q629335 (F654151 q629335) from RS_o hT654152 ht654165
                      have bp654222 : gB p654222 0 1000000 := ⟨by omega, by omega⟩
                      have bp654223 : gB p654223 0 1000000 := ⟨by omega, by omega⟩
                      have hf654240 : γ 1 q654220 = f := (show γ 1 q654220 = γ 1 q629335 from ht654225).trans hf654166
                      have hf654241 : γ 1 q654221 = f := (show γ 1 q654221 = γ 1 q629335 from ht654227).trans hf654166
                      have r654242 : γ 6 (γ 1 q629335) = γ 6 f := by rw [hf654166]
                      have r654243 : γ 16 (γ 1 q629335) = γ 16 f := by rw [hf654166]
                      have r654244 : p654223.toInt = γ 6 f ∧ p654223.toInt ≤ 40 := by omega
                      clear r654234
                      refine Gw_callV (As := []) (gV_ok D I) (cp_12780_Code_size l hl0 D I P654150 F654151 q629335 q654220 q654221 p654222 p654223 hm654218 he654219) dr_cX17_giveAll_93 ⟨wr_10_160, wr_1_15, wr_9_131, by decide, rfl, (Nat.le_of_ble_eq_true rfl), (Nat.le_of_ble_eq_true rfl)⟩ wr_9_129 wr_9_130 hm654218 he654219 rfl (rm_zc pk654167) (rm_zs pk654167) (Nat.le_of_ble_eq_true rfl) (fun r654248 w654249 dc654245 ds654246 hp654247 => ?_) (fun _ _ _ _ _ z => z.elim)
                      obtain ⟨rfl, rfl, hdc, hds⟩ := hp654247
                      change G _ _ _ _ _ _ _ (.int p654223 :: _) _ _ _
                      refine G_widen (cs' := ((rPh γ el f - rPh γ0 el0 f) / 18)) (sl' := (rPh γ el f - rPh γ0 el0 f)) (rm_d0 hdc) (rm_d0 hds) ?_
                      refine G_icmp_ge 173 dr_cX17_giveAll_96 (by decide +kernel) (fun hc654250 => ?_) (fun hc654250 => ?_)
                      · have r654251 : p654223.toInt ≤ g654149.toInt := gC_le hc654250
                        have r654252 : γ 7 (γ 1 q629335) = γ 7 f := by rw [hf654166]
                        have ac654253 : (fI (F654151 q629334) 11).toInt = p654175.toInt := by rw [he654170]; rfl
                        have ac654254 : (fI (F654151 q629334) 14).toInt = p654178.toInt := by rw [he654170]; rfl
                        refine G_aload_n 3 dr_cX17_giveAll_173 rfl ?_
                        refine G_aload_n 4 dr_cX17_giveAll_174 rfl ?_
                        refine Gw_callV (As := [.ref q629335]) (gV_ok D I) (ct_343985_SpillForgeModel_share l hl0 D I γ el P654150 F654151 q629334 q629335 hT654152 ht654164 ht654165 (by omega) (by omega)) dr_cX17_giveAll_175 ⟨wr_11_59, wr_1_14, wr_11_62, by decide, rfl, (Nat.le_of_ble_eq_true rfl), (Nat.le_of_ble_eq_true rfl)⟩ wr_11_61 wr_p_109 hm654169 he654170 rfl (rm_zc pk654167) (rm_zs pk654167) (Nat.le_of_ble_eq_true rfl) (fun r654258 w654259 dc654255 ds654256 hp654257 => ?_) (fun _ _ _ _ _ z => z.elim)
                        obtain ⟨F654261, rfl, rfl, hT654262, hs654263, hdc, hds, x654260⟩ := hp654257
                        have he654264 : F654261 q629335 = .inr (18, [.ref q654220, .ref q654221, .int p654222, .int p654223]) := (hs654263 q629335 (rT0 ht654165 (by decide)) (rT1 ht654165 (by decide)) (rT2 ht654165 (by decide))).trans he654219
                        have hs654265 := rSk_str hs654153 hT654262 hs654263 (by decide) (by decide) (by decide)
                        have mk654266 : mKp (F629333 q629334) (F654261 q629334) := mKp_tr x654162 x654260
                        change G _ _ _ _ _ _ _ _ _ _ _
                        refine G_widen (cs' := ((rPh γ el f - rPh γ0 el0 f) / 18)) (sl' := (rPh γ el f - rPh γ0 el0 f)) (rm_d0 hdc) (rm_d0 hds) ?_
                        refine G_iload_n 2 dr_cX17_giveAll_178 rfl ?_
                        exact G_iretA dr_cX17_giveAll_179 rfl (show ((rPh γ el f - rPh γ0 el0 f) / 18) ≤ (((387 * B + 6000) - rPh γ0 el0 f) / 18) by omega) (show (rPh γ el f - rPh γ0 el0 f) ≤ ((387 * B + 6000) - rPh γ0 el0 f) by omega) ⟨P654150, F654261, γ, el, g651649, rfl, rfl, hs654265, ⟨by omega, by omega⟩, hB654155, (gB_w bg651649' (by decide) (by decide)), (by omega), mk654266⟩
                      · have r654267 : g654149.toInt < p654223.toInt := gC_nle hc654250
                        have bg654149' : gB g654149 0 999999 := ⟨by omega, by omega⟩
                        have bp654223' : gB p654223 1 1000000 := ⟨by omega, by omega⟩
                        refine G_aload_n 4 dr_cX17_giveAll_99 rfl ?_
                        refine G_iload 0 dr_cX17_giveAll_100 rfl ?_
                        have hm654268 : q654220 ∈ P654150 := RS_m hT654152 ht654224 (by decide)
                        obtain ⟨⟨p654270, p654271, q654272, he654269, r654273, r654274, r654275, r654277⟩, r654276⟩ := show rk_4 D I γ el F654151 q654220 from RS_o hT654152 ht654224
                        have bp654270 := gB_any p654270
                        have bp654271 : gB p654271 0 1000000 := ⟨by omega, by omega⟩
                        obtain ⟨r654278, r654279, n654286, f654287, r654280, r654281, r654282, r654283, r654284, r654285⟩ := rLC_n r654275 (by omega)
                        have hm654288 : q654272 ∈ P654150 := RS_m hT654152 r654278 (by decide)
                        obtain ⟨q654289, hx654290⟩ : ∃ x, x = el q654220 g654149.toInt.toNat := ⟨_, rfl⟩
                        have hx654291 : f654287 g654149.toNatClampNeg = some q654289 := (r654284 _ (show g654149.toInt.toNat < γ 2 q654220 by first | assumption | omega)).trans (by rw [hx654290])
                        have ht654294 : rKd γ q654289 2 := by rw [hx654290]; exact (r654235 _ (by omega)).resolve_right (fun z => absurd z.1 (by omega))
                        have ht654295 : rFm γ q654289 q654220 := by rw [hx654290]; exact (r654276 _ (show g654149.toInt.toNat < γ 2 q654220 by omega)).2.1
                        have hm654296 : q654289 ∈ P654150 := RS_m hT654152 ht654294 (by decide)
                        obtain ⟨q654298, q654299, p654300, p654301, he654297, ht654308, ht654302, ht654303, ht654304, ht654305, ht654306, bp654300, bp654301, r654307, r654309, r654310⟩ := show rk_2 γ q654289 (F654151 q654289) from RS_o hT654152 ht654294
                        refine Gw_callV (As := [.int g654149]) (gV_ok D I) (cp_7901_Code_get l hl0 D I P654150 F654151 q629335 q654220 q654272 g654149 q654221 p654222 p654223 p654270 p654271 f654287 n654286 q654289 q654298 q654299 p654300 p654301 hm654218 hm654268 hm654288 hm654296 he654219 he654269 r654280 he654297 (gB_w bg654149' (by decide) (by decide)) (gB_w bp654271 (by decide) (by decide)) (by omega) (by omega) (by assumption) (by omega)) dr_cX17_giveAll_102 ⟨wr_10_161, wr_1_15, wr_10_141, by decide, rfl, (Nat.le_of_ble_eq_true rfl), (Nat.le_of_ble_eq_true rfl)⟩ wr_10_139 wr_10_140 hm654218 he654219 rfl (rm_zc pk654167) (rm_zs pk654167) (Nat.le_of_ble_eq_true rfl) (fun r654314 w654315 dc654311 ds654312 hp654313 => ?_) (fun _ _ _ _ _ z => z.elim)
                        obtain ⟨rfl, rfl, hdc, hds, ht654316⟩ := hp654313
                        change G _ _ _ _ _ _ _ (.ref q654289 :: _) _ _ _
                        refine G_widen (cs' := ((rPh γ el f - rPh γ0 el0 f) / 18)) (sl' := (rPh γ el f - rPh γ0 el0 f)) (rm_d0 hdc) (rm_d0 hds) ?_
                        have hf654317 : γ 1 q654289 = f := (show γ 1 q654289 = γ 1 q654220 from ht654295).trans ((show γ 1 q654220 = γ 1 q629335 from ht654225).trans hf654166)
                        have hf654318 : γ 1 q654298 = f := (show γ 1 q654298 = γ 1 q654289 from ht654303).trans hf654317
                        have hf654319 : γ 1 q654299 = f := (show γ 1 q654299 = γ 1 q654289 from ht654305).trans hf654317
                        have r654320 : γ 6 (γ 1 q654289) = γ 6 f := by rw [hf654317]
                        have r654321 : γ 7 (γ 1 q654289) = γ 7 f := by rw [hf654317]
                        have r654322 : γ 19 (γ 1 q654289) = γ 19 f := by rw [hf654317]
                        have r654323 := r654307.resolve_left (by omega)
                        clear r654307
                        have r654324 : γ 2 (γ 14 q654289) = γ 2 q654298 := by rw [ht654308.1]
                        have r654325 : g654149.toInt.toNat < γ 2 (γ 14 q629335) := by rw [ht654239.1]; omega
                        have r654326 : el (γ 14 q629335) g654149.toInt.toNat = q654289 := by rw [ht654239.1, hx654290]
                        refine G_astore (L' := [(6, .ref q654289), (5, .int g654149), (4, .int o653438), (3, .int g651649), (0, .ref q629334), (1, .ref q629335), (2, .int p629336)]) dr_cX17_giveAll_105 (Nat.le_of_ble_eq_true rfl) rfl ?_
                        refine G_iconst 0 dr_cX17_giveAll_107 (by decide +kernel) ?_
                        refine G_istore (L' := [(7, .int 0), (6, .ref q654289), (5, .int g654149), (4, .int o653438), (3, .int g651649), (0, .ref q629334), (1, .ref q629335), (2, .int p629336)]) dr_cX17_giveAll_108 (Nat.le_of_ble_eq_true rfl) rfl ?_
                        have hlp110_654550 : ∀ (n110_654550 : Nat) (P654532 : List Nat) (F654533 : Nat → va_E) (γ el : Nat → Nat → Nat) (g654531 : Int32), gB g654531 0 1000001 → RS D I P654532 F654533 γ el → rSk f [101] ([1, 3, 5, 6, 8, 9, 101] ++ npk) D I P629332 F629333 γ0 el0 P654532 F654533 γ el → rPh γ0 el0 f ≤ rPh γ el f → rBd γ el f B → rKd γ q654289 2 → γ 1 q654289 = f → g654149.toInt.toNat < γ 2 (γ 14 q629335) → el (γ 14 q629335) g654149.toInt.toNat = q654289 → γ 6 f = γ0 6 f → ((γ 7 f : Nat) : Int) = (fI (F654533 q629334) 11).toInt → ((γ 16 f : Nat) : Int) + 2001 ≤ (B : Int) + (fI (F654533 q629334) 14).toInt → 100 ≤ (fI (F654533 q629334) 14).toInt → (F654533 (γ0 9 17) = F653442 (γ0 9 17)) → rPl γ el F654533 q629335 (γ 6 f) (cqR (cB (F653442 (γ0 9 17))) (g654149.toInt : Int).toNat (g654531.toInt : Int).toNat) → (g654531.toInt : Int) ≤ γ 2 (γ 14 q654289) + 1 → (g654149.toInt : Int) < γ 6 f → mKp (F629333 q629334) (F654533 q629334) → ((1000002 : Int) - g654531.toInt).toNat < n110_654550 → G (gV D I) l (gRm 10 224 (((387 * B + 6000) - rPh γ0 el0 f) / 18) ((387 * B + 6000) - rPh γ0 el0 f)) (gMA (gV D I) (pg_629340_SpillForgeModel_giveAll D I γ0 el0 f B P629332 F629333 q629334 q629335 p629336) gNA (((387 * B + 6000) - rPh γ0 el0 f) / 18) ((387 * B + 6000) - rPh γ0 el0 f)) ky_629340_SpillForgeModel_giveAll 110 [(7, .int g654531), (6, .ref q654289), (5, .int g654149), (4, .int o653438), (3, .int g651649), (0, .ref q629334), (1, .ref q629335), (2, .int p629336)] [] (va_pl P654532 F654533) ((rPh γ el f - rPh γ0 el0 f) / 18) (rPh γ el f - rPh γ0 el0 f) := by
                          intro n110_654550
                          induction n110_654550 with
                          | zero => intro P654532 F654533 γ el g654531 bg654531 hT654534 hs654535 hph654536 hB654537 ht654538 hf654539 r654540 r654541 x654542 x654543 x654544 x654545 x654546 x654547 x654548 x654549 x654550 hm110_654550; exact absurd hm110_654550 (Nat.not_lt_zero _)
                          | succ n110_654550 ih110_654550 =>
                            intro P654532 F654533 γ el g654531 bg654531 hT654534 hs654535 hph654536 hB654537 ht654538 hf654539 r654540 r654541 x654542 x654543 x654544 x654545 x654546 x654547 x654548 x654549 x654550 hm110_654550
                            clear r654228 r654229 r654230 r654231 r654232 r654233 r654235 r654236 r654237 r654238 bp654222 bp654223 bp654300 bp654301 r654309 r654310 r654242 r654243 r654244 r654273 r654274 r654275 r654277 r654276 r654278 r654279 r654280 r654281 r654282 r654283 r654284 r654285 r654320 r654321 r654322 r654323 r654324 r654325 r654326
                            have ht654552 : rKd γ q629334 10 := rSk_k hs654535 hzq629334 (by decide) (by decide)
                            have ht654553 : rKd γ q629335 9 := rSk_k hs654535 hzq629335 (by decide) (by decide)
                            have hf654554 : γ 1 q629335 = f := rSk_1 hs654535 hzq629335 (by decide) hf0
                            have pk654555 : rPh γ el f ≤ 387 * B + 6000 := rm_pk (rM_ge hT654534 ht654553 hf654554).1 (rM_bd hB654537)
                            have r654556 : 0 < γ 6 (γ 1 q629335) := by rw [hf654554]; omega
                            have hm654557 : q629334 ∈ P654532 := RS_m hT654534 ht654552 (by decide)
                            refine rk10_e (show rk_10 γ (F654533 q629334) from RS_o hT654534 ht654552) (fun q654559 q654560 p654561 p654562 p654563 p654564 p654565 p654566 p654567 p654568 p654569 p654570 p654571 p654572 p654573 p654574 p654575 he654558 hB654602 ht654576 ht654577 ht654578 ht654579 ht654580 ht654581 ht654582 ht654583 ht654584 ht654585 ht654586 ht654587 ht654588 ht654589 ht654590 ht654591 ht654592 ht654593 ht654594 ht654595 ht654596 ht654597 ht654598 ht654599 hB654603 => ?_)
                            have ac654604 : (fI (F654533 q629334) 11).toInt = p654563.toInt := by rw [he654558]; rfl
                            have bp654563 : gB p654563 0 100 := (hB654602.2.2.1)
                            have ac654605 : (fI (F654533 q629334) 14).toInt = p654566.toInt := by rw [he654558]; rfl
                            have bp654566 : gB p654566 0 2000 := (hB654602.2.2.2.1)
                            refine G_iload 0 dr_cX17_giveAll_110 rfl ?_
                            refine G_aload 1 dr_cX17_giveAll_112 rfl ?_
                            have hm654606 : q654289 ∈ P654532 := RS_m hT654534 ht654538 (by decide)
                            obtain ⟨q654608, q654609, p654610, p654611, he654607, ht654618, ht654612, ht654613, ht654614, ht654615, ht654616, bp654610, bp654611, r654617, r654619, r654620⟩ := show rk_2 γ q654289 (F654533 q654289) from RS_o hT654534 ht654538
                            have hf654621 : γ 1 q654608 = f := (show γ 1 q654608 = γ 1 q654289 from ht654613).trans hf654539
                            have hf654622 : γ 1 q654609 = f := (show γ 1 q654609 = γ 1 q654289 from ht654615).trans hf654539
                            have r654623 : γ 6 (γ 1 q654289) = γ 6 f := by rw [hf654539]
                            have r654624 : γ 7 (γ 1 q654289) = γ 7 f := by rw [hf654539]
                            have r654625 : γ 19 (γ 1 q654289) = γ 19 f := by rw [hf654539]
                            have r654626 := r654617.resolve_left (by omega)
                            clear r654617
                            have r654627 : γ 2 (γ 14 q654289) = γ 2 q654608 := by rw [ht654618.1]
                            refine Gp_get 0 hm654606 he654607 dr_cX17_giveAll_114 (gk_X12 D I) (Nat.le_of_ble_eq_true rfl) wr_9_220 rfl ?_
                            have hm654628 : q654608 ∈ P654532 := RS_m hT654534 ht654612 (by decide)
                            obtain ⟨⟨p654630, p654631, q654632, he654629, r654633, r654634, r654635, r654637⟩, r654636⟩ := show rk_3 D I γ el F654533 q654608 from RS_o hT654534 ht654612
                            have bp654630 := gB_any p654630
                            have bp654631 : gB p654631 0 1000000 := ⟨by omega, by omega⟩
                            refine Gw_callV (As := []) (gV_ok D I) (cp_7_ArrayList_size l hl0 D I P654532 F654533 q654608 p654630 q654632 p654631 hm654628 he654629 (gB_w bp654631 (by decide) (by decide))) dr_cX17_giveAll_117 ⟨wr_10_200, wr_1_18, wr_9_160, by decide, rfl, (Nat.le_of_ble_eq_true rfl), (Nat.le_of_ble_eq_true rfl)⟩ wr_9_158 wr_9_159 hm654628 he654629 rfl (rm_zc pk654555) (rm_zs pk654555) (Nat.le_of_ble_eq_true rfl) (fun r654641 w654642 dc654638 ds654639 hp654640 => ?_) (fun _ _ _ _ _ z => z.elim)
                            obtain ⟨rfl, rfl, hdc, hds⟩ := hp654640
                            change G _ _ _ _ _ _ _ (.int p654631 :: _) _ _ _
                            refine G_widen (cs' := ((rPh γ el f - rPh γ0 el0 f) / 18)) (sl' := (rPh γ el f - rPh γ0 el0 f)) (rm_d0 hdc) (rm_d0 hds) ?_
                            refine G_icmp_gt 167 dr_cX17_giveAll_120 (by decide +kernel) (fun hc654643 => ?_) (fun hc654643 => ?_)
                            · have r654644 : p654631.toInt < g654531.toInt := gC_lt hc654643
                              have bg654531' : gB g654531 1 1000001 := ⟨by omega, by omega⟩
                              obtain ⟨z654645, hz654645⟩ : ∃ z : Int32, z = g654149 + Int32.ofInt 1 := ⟨_, rfl⟩
                              have ez654645 : z654645.toInt = g654149.toInt + 1 := gI_inc hz654645 (by decide) bg654149' (by decide) (by decide)
                              have bz654645 : gB z654645 1 1000000 := ⟨by omega, by omega⟩
                              refine G_iinc (L' := [(5, .int z654645), (7, .int g654531), (6, .ref q654289), (4, .int o653438), (3, .int g651649), (0, .ref q629334), (1, .ref q629335), (2, .int p629336)]) z654645 2 dr_cX17_giveAll_167 rfl hz654645.symm (Nat.le_of_ble_eq_true rfl) rfl ?_
                              refine G_goto 90 dr_cX17_giveAll_170 (by decide +kernel) ?_
                              refine G_lv (L' := [(5, .int z654645), (4, .int o653438), (3, .int g651649), (0, .ref q629334), (1, .ref q629335), (2, .int p629336)]) [0, 3, 4, 5, 6, 7] rfl ?_
                              have ac654646 : (fI (F654533 q629334) 11).toInt = p654563.toInt := by rw [he654558]; rfl
                              have ac654647 : (fI (F654533 q629334) 14).toInt = p654566.toInt := by rw [he654558]; rfl
                              exact ih90_654162 P654532 F654533 γ el z654645 (gB_w bz654645 (by decide) (by decide)) hT654534 hs654535 hph654536 hB654537 (by omega) (by omega) (by omega) (by omega) x654546 (cq_nx x654547 (by omega)) x654550 (by omega)
                            · have r654648 : g654531.toInt ≤ p654631.toInt := gC_nlt hc654643
                              have bg654531' : gB g654531 0 1000000 := ⟨by omega, by omega⟩
                              refine G_aload_n 5 dr_cX17_giveAll_123 rfl ?_
                              refine G_iload 0 dr_cX17_giveAll_124 rfl ?_
                              refine G_aload 1 dr_cX17_giveAll_126 rfl ?_
                              refine Gp_get 0 hm654606 he654607 dr_cX17_giveAll_128 (gk_X12 D I) (Nat.le_of_ble_eq_true rfl) wr_9_220 rfl ?_
                              refine Gw_callV (As := []) (gV_ok D I) (cp_7_ArrayList_size l hl0 D I P654532 F654533 q654608 p654630 q654632 p654631 hm654628 he654629 (gB_w bp654631 (by decide) (by decide))) dr_cX17_giveAll_131 ⟨wr_10_200, wr_1_18, wr_9_160, by decide, rfl, (Nat.le_of_ble_eq_true rfl), (Nat.le_of_ble_eq_true rfl)⟩ wr_9_158 wr_9_159 hm654628 he654629 rfl (rm_zc pk654555) (rm_zs pk654555) (Nat.le_of_ble_eq_true rfl) (fun r654652 w654653 dc654649 ds654650 hp654651 => ?_) (fun _ _ _ _ _ z => z.elim)
                              obtain ⟨rfl, rfl, hdc, hds⟩ := hp654651
                              change G _ _ _ _ _ _ _ (.int p654631 :: _) _ _ _
                              refine G_widen (cs' := ((rPh γ el f - rPh γ0 el0 f) / 18)) (sl' := (rPh γ el f - rPh γ0 el0 f)) (rm_d0 hdc) (rm_d0 hds) ?_
                              refine G_icmp_ge 153 dr_cX17_giveAll_134 (by decide +kernel) (fun hc654654 => ?_) (fun hc654654 => ?_)
                              · have r654655 : p654631.toInt ≤ g654531.toInt := gC_le hc654654
                                refine G_aload 1 dr_cX17_giveAll_153 rfl ?_
                                refine Gp_get 1 hm654606 he654607 dr_cX17_giveAll_155 (gk_X12 D I) (Nat.le_of_ble_eq_true rfl) wr_9_223 rfl ?_
                                have fl654658 : p654631.toInt = γ 2 q654608 := r654633
                                have hp654656 : rAt γ el q629335 (g654149.toInt : Int).toNat (g654531.toInt : Int).toNat = q654609 := (rAt_e r654541 ht654618.1 (by omega)).trans ht654618.2.1
                                have hL654657 : (g654531.toInt : Int).toNat ≤ γ 2 (rwL γ el q629335 (g654149.toInt : Int).toNat) := by unfold rwL; rw [r654541, ht654618.1]; omega
                                have cn654659 : rNm (fun n => 0 ≤ (cB (F654533 (γ 9 17)) n).toInt) (F654533 q654609) := by rw [congrFun (rSk_9 hs654535) 17, x654546]; exact cq_at x654547 hp654656 (show (g654149.toInt : Int).toNat < γ 6 f by omega) hL654657
                                refine Gw_callV (As := [.ref q654609]) (gV_ok D I) (ct_343737_SpillForgeModel_coloured l hl0 D I γ el P654532 F654533 q629334 q654609 hT654534 ht654552 ht654614 (by omega)) dr_cX17_giveAll_158 ⟨wr_11_55, wr_1_14, wr_11_58, by decide, rfl, (Nat.le_of_ble_eq_true rfl), (Nat.le_of_ble_eq_true rfl)⟩ wr_11_57 wr_p_108 hm654557 he654558 rfl (rm_zc pk654555) (rm_zs pk654555) (Nat.le_of_ble_eq_true rfl) (fun r654663 w654664 dc654660 ds654661 hp654662 => ?_) (fun _ _ _ _ _ z => z.elim)
                                obtain ⟨F654669, rfl, rfl, hT654670, hs654671, hdc, hds, x654665, x654666, x654667, x654668⟩ := hp654662
                                have he654672 : F654669 q654289 = .inr (17, [.ref q654608, .ref q654609, .int p654610, .int p654611]) := (hs654671 q654289 (rT0 ht654538 (by decide)) (rT1 ht654538 (by decide)) (rT2 ht654538 (by decide))).trans he654607
                                have he654673 : F654669 q654608 = .inr (4, [.int p654630, .ref q654632, .int p654631]) := (hs654671 q654608 (rT0 ht654612 (by decide)) (rT1 ht654612 (by decide)) (rT2 ht654612 (by decide))).trans he654629
                                have hs654674 := rSk_str hs654535 hT654670 hs654671 (by decide) (by decide) (by decide)
                                have kp654675 : F654669 q629334 = F654533 q629334 := x654666
                                have kp654676 : F654669 (γ0 9 3) = F654533 (γ0 9 3) := (show F654669 (γ0 9 3) = F654533 (γ0 9 3) by rw [← congrFun (rSk_9 hs654674) 3]; exact x654667)
                                have kp654677 : F654669 (γ0 9 17) = F653442 (γ0 9 17) := ((show F654669 (γ0 9 17) = F654533 (γ0 9 17) by rw [← congrFun (rSk_9 hs654674) 17]; exact x654668)).trans x654546
                                have mk654678 : mKp (F629333 q629334) (F654669 q629334) := mKp_tr x654550 (mKp_eq x654666)
                                have he654679 : F654669 q629334 = .inr (22, [.ref (γ 9 0), .ref (γ 9 1), .ref (γ 9 2), .ref (γ 9 3), .ref (γ 9 4), .ref (γ 9 5), .ref (γ 9 6), .ref (γ 9 7), .ref (γ 9 8), .int p654561, .int p654562, .int p654563, .int p654564, .int p654565, .int p654566, .ref (γ 9 15), .ref (γ 9 16), .ref (γ 9 17), .ref (γ 9 18), .ref (γ 9 19), .ref (γ 9 20), .ref (γ 9 21), .ref (γ 9 22), .int p654567, .int p654568, .int p654569, .int p654570, .int p654571, .ref q654559, .ref (γ 9 29), .int p654572, .ref (γ 9 31), .int p654573, .int p654574, .int p654575, .ref q654560]) := (x654666).trans he654558
                                change G _ _ _ _ _ _ _ _ _ _ _
                                refine G_widen (cs' := ((rPh γ el f - rPh γ0 el0 f) / 18)) (sl' := (rPh γ el f - rPh γ0 el0 f)) (rm_d0 hdc) (rm_d0 hds) ?_
                                have cq654680 := cq_put (j1 := (g654531.toInt : Int).toNat + 1) hT654534 ht654553 hf654554 x654547 x654665 hp654656 (show (g654149.toInt : Int).toNat < γ 6 f by omega) hL654657 rfl
                                have ac654681 : (fI (F654669 q629334) 11).toInt = (fI (F654533 q629334) 11).toInt := by rw [kp654675]
                                have ac654682 : (fI (F654669 q629334) 14).toInt = (fI (F654533 q629334) 14).toInt := by rw [kp654675]
                                obtain ⟨z654683, hz654683⟩ : ∃ z : Int32, z = g654531 + Int32.ofInt 1 := ⟨_, rfl⟩
                                have ez654683 : z654683.toInt = g654531.toInt + 1 := gI_inc hz654683 (by decide) bg654531' (by decide) (by decide)
                                have bz654683 : gB z654683 1 1000001 := ⟨by omega, by omega⟩
                                refine G_iinc (L' := [(7, .int z654683), (6, .ref q654289), (5, .int g654149), (4, .int o653438), (3, .int g651649), (0, .ref q629334), (1, .ref q629335), (2, .int p629336)]) z654683 0 dr_cX17_giveAll_161 rfl hz654683.symm (Nat.le_of_ble_eq_true rfl) rfl ?_
                                refine G_goto 110 dr_cX17_giveAll_164 (by decide +kernel) ?_
                                have ac654684 : (fI (F654669 q629334) 11).toInt = p654563.toInt := by rw [he654679]; rfl
                                have ac654685 : (fI (F654669 q629334) 14).toInt = p654566.toInt := by rw [he654679]; rfl
                                exact ih110_654550 P654532 F654669 γ el z654683 (gB_w bz654683 (by decide) (by decide)) hT654670 hs654674 hph654536 hB654537 ht654538 hf654539 r654540 r654541 (by omega) (by omega) (by omega) (by omega) kp654677 (by rw [show (z654683.toInt : Int).toNat = ((g654531.toInt : Int).toNat + 1) by omega]; exact cq654680) (by omega) (by omega) mk654678 (by omega)
                              · have r654686 : g654531.toInt < p654631.toInt := gC_nle hc654654
                                have bg654531'' : gB g654531 0 999999 := ⟨by omega, by omega⟩
                                have bp654631' : gB p654631 1 1000000 := ⟨by omega, by omega⟩
                                refine G_aload 1 dr_cX17_giveAll_137 rfl ?_
                                refine Gp_get 0 hm654606 he654607 dr_cX17_giveAll_139 (gk_X12 D I) (Nat.le_of_ble_eq_true rfl) wr_9_220 rfl ?_
                                refine G_iload 0 dr_cX17_giveAll_142 rfl ?_
                                obtain ⟨r654687, r654688, n654695, f654696, r654689, r654690, r654691, r654692, r654693, r654694⟩ := rLC_n r654635 (by omega)
                                have hm654697 : q654632 ∈ P654532 := RS_m hT654534 r654687 (by decide)
                                obtain ⟨q654698, hx654699⟩ : ∃ x, x = el q654608 g654531.toInt.toNat := ⟨_, rfl⟩
                                have hx654700 : f654696 g654531.toNatClampNeg = some q654698 := (r654693 _ (show g654531.toInt.toNat < γ 2 q654608 by first | assumption | omega)).trans (by rw [hx654699])
                                have ht654701 : rKd γ q654698 1 := by rw [hx654699]; exact (r654636 _ (show g654531.toInt.toNat < γ 2 q654608 by first | assumption | omega)).1
                                have ht654702 : rFm γ q654698 q654608 := by rw [hx654699]; exact (r654636 _ (show g654531.toInt.toNat < γ 2 q654608 by first | assumption | omega)).2.1
                                have hf654703 : γ 1 q654698 = f := (show γ 1 q654698 = γ 1 q654608 from ht654702).trans hf654621
                                refine Gw_callV (As := [.int g654531]) (gV_ok D I) (cp_22_ArrayList_get l hl0 D I P654532 F654533 q654608 q654632 g654531 p654630 p654631 f654696 n654695 q654698 hm654628 hm654697 he654629 r654689 (gB_w bg654531'' (by decide) (by decide)) (gB_w bp654631' (by decide) (by decide)) (by omega) (by omega) (by assumption) (by omega)) dr_cX17_giveAll_144 ⟨wr_10_201, wr_1_18, wr_10_65, by decide, rfl, (Nat.le_of_ble_eq_true rfl), (Nat.le_of_ble_eq_true rfl)⟩ wr_10_63 wr_10_64 hm654628 he654629 rfl (rm_zc pk654555) (rm_zs pk654555) (Nat.le_of_ble_eq_true rfl) (fun r654707 w654708 dc654704 ds654705 hp654706 => ?_) (fun _ _ _ _ _ z => z.elim)
                                obtain ⟨rfl, rfl, hdc, hds, ht654709⟩ := hp654706
                                change G _ _ _ _ _ _ _ (.ref q654698 :: _) _ _ _
                                refine G_widen (cs' := ((rPh γ el f - rPh γ0 el0 f) / 18)) (sl' := (rPh γ el f - rPh γ0 el0 f)) (rm_d0 hdc) (rm_d0 hds) ?_
                                have hm654710 : q654698 ∈ P654532 := RS_m hT654534 ht654701 (by decide)
                                obtain ⟨p654712, p654713, p654714, p654715, p654716, p654717, p654718, he654711, bp654712, bp654713, bp654716, bp654717, bp654718, r654719, r654720, r654721, r654722, r654723⟩ := show rk_1 γ q654698 (F654533 q654698) from RS_o hT654534 ht654701
                                have bp654714 := gB_any p654714
                                have bp654715 := gB_any p654715
                                have r654724 : γ 7 (γ 1 q654698) = γ 7 f := by rw [hf654703]
                                refine Gp_cast hm654710 he654711 rfl dr_cX17_giveAll_147 wr_10_202 (gr_cast 1 rfl) ?_
                                refine G_goto 158 dr_cX17_giveAll_150 (by decide +kernel) ?_
                                have fl654727 : p654631.toInt = γ 2 q654608 := r654633
                                have hp654725 : rAt γ el q629335 (g654149.toInt : Int).toNat (g654531.toInt : Int).toNat = q654698 := (rAt_r r654541 ht654618.1 (by omega)).trans (by rw [hx654699])
                                have hL654726 : (g654531.toInt : Int).toNat ≤ γ 2 (rwL γ el q629335 (g654149.toInt : Int).toNat) := by unfold rwL; rw [r654541, ht654618.1]; omega
                                have cn654728 : rNm (fun n => 0 ≤ (cB (F654533 (γ 9 17)) n).toInt) (F654533 q654698) := by rw [congrFun (rSk_9 hs654535) 17, x654546]; exact cq_at x654547 hp654725 (show (g654149.toInt : Int).toNat < γ 6 f by omega) hL654726
                                refine Gw_callV (As := [.ref q654698]) (gV_ok D I) (ct_343737_SpillForgeModel_coloured l hl0 D I γ el P654532 F654533 q629334 q654698 hT654534 ht654552 ht654701 (by omega)) dr_cX17_giveAll_158 ⟨wr_11_55, wr_1_14, wr_11_58, by decide, rfl, (Nat.le_of_ble_eq_true rfl), (Nat.le_of_ble_eq_true rfl)⟩ wr_11_57 wr_p_108 hm654557 he654558 rfl (rm_zc pk654555) (rm_zs pk654555) (Nat.le_of_ble_eq_true rfl) (fun r654732 w654733 dc654729 ds654730 hp654731 => ?_) (fun _ _ _ _ _ z => z.elim)
                                obtain ⟨F654738, rfl, rfl, hT654739, hs654740, hdc, hds, x654734, x654735, x654736, x654737⟩ := hp654731
                                have he654741 : F654738 q654289 = .inr (17, [.ref q654608, .ref q654609, .int p654610, .int p654611]) := (hs654740 q654289 (rT0 ht654538 (by decide)) (rT1 ht654538 (by decide)) (rT2 ht654538 (by decide))).trans he654607
                                have he654742 : F654738 q654608 = .inr (4, [.int p654630, .ref q654632, .int p654631]) := (hs654740 q654608 (rT0 ht654612 (by decide)) (rT1 ht654612 (by decide)) (rT2 ht654612 (by decide))).trans he654629
                                have he654743 : F654738 q654632 = .inl (I (.object "java/lang/Object"), n654695, .inr (.inr (.inr (.inr f654696)))) := (hs654740 q654632 (rT0 r654687 (by decide)) (rT1 r654687 (by decide)) (rT2 r654687 (by decide))).trans r654689
                                have hs654744 := rSk_str hs654535 hT654739 hs654740 (by decide) (by decide) (by decide)
                                have kp654745 : F654738 q629334 = F654533 q629334 := x654735
                                have kp654746 : F654738 (γ0 9 3) = F654533 (γ0 9 3) := (show F654738 (γ0 9 3) = F654533 (γ0 9 3) by rw [← congrFun (rSk_9 hs654744) 3]; exact x654736)
                                have kp654747 : F654738 (γ0 9 17) = F653442 (γ0 9 17) := ((show F654738 (γ0 9 17) = F654533 (γ0 9 17) by rw [← congrFun (rSk_9 hs654744) 17]; exact x654737)).trans x654546
                                have mk654748 : mKp (F629333 q629334) (F654738 q629334) := mKp_tr x654550 (mKp_eq x654735)
                                have he654749 : F654738 q629334 = .inr (22, [.ref (γ 9 0), .ref (γ 9 1), .ref (γ 9 2), .ref (γ 9 3), .ref (γ 9 4), .ref (γ 9 5), .ref (γ 9 6), .ref (γ 9 7), .ref (γ 9 8), .int p654561, .int p654562, .int p654563, .int p654564, .int p654565, .int p654566, .ref (γ 9 15), .ref (γ 9 16), .ref (γ 9 17), .ref (γ 9 18), .ref (γ 9 19), .ref (γ 9 20), .ref (γ 9 21), .ref (γ 9 22), .int p654567, .int p654568, .int p654569, .int p654570, .int p654571, .ref q654559, .ref (γ 9 29), .int p654572, .ref (γ 9 31), .int p654573, .int p654574, .int p654575, .ref q654560]) := (x654735).trans he654558
                                change G _ _ _ _ _ _ _ _ _ _ _
                                refine G_widen (cs' := ((rPh γ el f - rPh γ0 el0 f) / 18)) (sl' := (rPh γ el f - rPh γ0 el0 f)) (rm_d0 hdc) (rm_d0 hds) ?_
                                have cq654750 := cq_put (j1 := (g654531.toInt : Int).toNat + 1) hT654534 ht654553 hf654554 x654547 x654734 hp654725 (show (g654149.toInt : Int).toNat < γ 6 f by omega) hL654726 rfl
                                have ac654751 : (fI (F654738 q629334) 11).toInt = (fI (F654533 q629334) 11).toInt := by rw [kp654745]
                                have ac654752 : (fI (F654738 q629334) 14).toInt = (fI (F654533 q629334) 14).toInt := by rw [kp654745]
                                obtain ⟨z654753, hz654753⟩ : ∃ z : Int32, z = g654531 + Int32.ofInt 1 := ⟨_, rfl⟩
                                have ez654753 : z654753.toInt = g654531.toInt + 1 := gI_inc hz654753 (by decide) bg654531'' (by decide) (by decide)
                                have bz654753 : gB z654753 1 1000000 := ⟨by omega, by omega⟩
                                refine G_iinc (L' := [(7, .int z654753), (6, .ref q654289), (5, .int g654149), (4, .int o653438), (3, .int g651649), (0, .ref q629334), (1, .ref q629335), (2, .int p629336)]) z654753 0 dr_cX17_giveAll_161 rfl hz654753.symm (Nat.le_of_ble_eq_true rfl) rfl ?_
                                refine G_goto 110 dr_cX17_giveAll_164 (by decide +kernel) ?_
                                have ac654754 : (fI (F654738 q629334) 11).toInt = p654563.toInt := by rw [he654749]; rfl
                                have ac654755 : (fI (F654738 q629334) 14).toInt = p654566.toInt := by rw [he654749]; rfl
                                exact ih110_654550 P654532 F654738 γ el z654753 (gB_w bz654753 (by decide) (by decide)) hT654739 hs654744 hph654536 hB654537 ht654538 hf654539 r654540 r654541 (by omega) (by omega) (by omega) (by omega) kp654747 (by rw [show (z654753.toInt : Int).toNat = ((g654531.toInt : Int).toNat + 1) by omega]; exact cq654750) (by omega) (by omega) mk654748 (by omega)
                        have ac654756 : (fI (F654151 q629334) 11).toInt = p654175.toInt := by rw [he654170]; rfl
                        have ac654757 : (fI (F654151 q629334) 14).toInt = p654178.toInt := by rw [he654170]; rfl
                        exact hlp110_654550 (((1000002 : Int) - 0).toNat + 1) P654150 F654151 γ el 0 (gB_w (gBl (show Int32.toInt 0 = 0 by decide)) (by decide) (by decide)) hT654152 hs654153 hph654154 hB654155 ht654294 hf654317 r654325 r654326 (by have qa0 : Int32.toInt 0 = 0 := (by decide); omega) (by have qa0 : Int32.toInt 0 = 0 := (by decide); omega) (by have qa0 : Int32.toInt 0 = 0 := (by decide); omega) (by have qa0 : Int32.toInt 0 = 0 := (by decide); omega) x654160 (by have qa : Int32.toInt 0 = 0 := (by decide); rw [qa]; exact x654161) (by have qa0 : Int32.toInt 0 = 0 := (by decide); omega) (by have qa0 : Int32.toInt 0 = 0 := (by decide); omega) x654162 (Nat.lt_succ_self _)
                  have ac654758 : (fI (F653442 q629334) 11).toInt = p653365.toInt := by rw [he653449]; rfl
                  have ac654759 : (fI (F653442 q629334) 14).toInt = p653368.toInt := by rw [he653449]; rfl
                  exact hlp90_654162 (((1000001 : Int) - 0).toNat + 1) P653344 F653442 γ el 0 (gB_w (gBl (show Int32.toInt 0 = 0 by decide)) (by decide) (by decide)) hT653443 hs653445 hph653356 hB653349 (by have qa0 : Int32.toInt 0 = 0 := (by decide); omega) (by have qa0 : Int32.toInt 0 = 0 := (by decide); omega) (by have qa0 : Int32.toInt 0 = 0 := (by decide); omega) (by have qa0 : Int32.toInt 0 = 0 := (by decide); omega) rfl (by have qa : Int32.toInt 0 = 0 := (by decide); rw [qa]; exact cq653560) mk653448 (Nat.lt_succ_self _)
              · have r654760 : o653333.toInt ≠ 0 := gj_neq hc653409 (show Int32.toInt 0 = 0 by decide)
                have bo653333' : gB o653333 1 1 := gB_t1 bo653333 r654760
                refine G_aload_n 1 dr_cX17_giveAll_61 rfl ?_
                refine G_aload_n 2 dr_cX17_giveAll_62 rfl ?_
                refine G_iconst 0 dr_cX17_giveAll_63 (by decide +kernel) ?_
                refine Gw_callV (As := [.ref q629335, .int 0]) (gV_ok D I) (ct_276669_SpillForgeModel_graph l hl0 D I γ el P653344 F653345 q629334 q629335 0 hT653350 ht653352 ht653353 (gB_w (gBl (show Int32.toInt 0 = 0 by decide)) (by decide) (by decide)) (by omega)) dr_cX17_giveAll_64 ⟨wr_10_233, wr_1_14, wr_10_236, by decide, rfl, (Nat.le_of_ble_eq_true rfl), (Nat.le_of_ble_eq_true rfl)⟩ wr_10_235 wr_p_99 hm653359 he653360 rfl (rm_zc pk653357) (rm_zs pk653357) (Nat.le_of_ble_eq_true rfl) (fun r654764 w654765 dc654761 ds654762 hp654763 => ?_) (fun _ _ _ _ _ z => z.elim)
                obtain ⟨F654769, rfl, rfl, hT654770, hs654771, hdc, hds, x654766, x654767, ht654768⟩ := hp654763
                have hs654772 := rSk_str hs653351 hT654770 hs654771 (by decide) (by decide) (by decide)
                have kp654773 : F654769 q629334 = F653345 q629334 := x654767
                have mk654774 : mKp (F629333 q629334) (F654769 q629334) := mKp_tr mk653355 (mKp_eq x654767)
                have he654775 : F654769 q629334 = .inr (22, [.ref (γ 9 0), .ref (γ 9 1), .ref (γ 9 2), .ref (γ 9 3), .ref (γ 9 4), .ref (γ 9 5), .ref (γ 9 6), .ref (γ 9 7), .ref (γ 9 8), .int p653363, .int p653364, .int p653365, .int p653366, .int p653367, .int p653368, .ref (γ 9 15), .ref (γ 9 16), .ref (γ 9 17), .ref (γ 9 18), .ref (γ 9 19), .ref (γ 9 20), .ref (γ 9 21), .ref (γ 9 22), .int p653369, .int p653370, .int p653371, .int p653372, .int p653373, .ref q653361, .ref (γ 9 29), .int p653374, .ref (γ 9 31), .int p653375, .int p653376, .int p653377, .ref q653362]) := (x654767).trans he653360
                rw [show Int32.toInt 0 = 0 from by decide] at x654766
                change G _ _ _ _ _ _ _ _ _ _ _
                refine G_widen (cs' := ((rPh γ el f - rPh γ0 el0 f) / 18)) (sl' := (rPh γ el f - rPh γ0 el0 f)) (rm_d0 hdc) (rm_d0 hds) ?_
                have ni654776 : rNI γ el F654769 q629335 (γ 6 f) (fI (F654769 q629334) 11).toInt := rNI_s (rNI_str hT653350 ht653353 hf653354 hs654771 (by decide) ni653408) (by rw [x654767])
                have gr654777 : rGr γ el F654769 q629335 (γ 6 f) (cB (F654769 (γ0 9 3))) (vA (γ 6 f)) := by have z := x654766 (by decide); rw [hf653354] at z; rw [← congrFun (rSk_9 hs654772) 3]; exact gq_str hT653350 ht653353 hf653354 hs654771 (by decide) z
                have ac654778 : (fI (F654769 q629334) 11).toInt = (fI (F653345 q629334) 11).toInt := by rw [kp654773]
                have ac654779 : (fI (F654769 q629334) 14).toInt = (fI (F653345 q629334) 14).toInt := by rw [kp654773]
                refine G_goto 52 dr_cX17_giveAll_67 (by decide +kernel) ?_
                have ac654780 : (fI (F654769 q629334) 11).toInt = p653365.toInt := by rw [he654775]; rfl
                have ac654781 : (fI (F654769 q629334) 14).toInt = p653368.toInt := by rw [he654775]; rfl
                exact ih52_653268 P653344 F654769 γ el hT654770 hs654772 hph653356 hB653349 (by omega) (by omega) (by omega) (by omega) ni654776 gr654777 mk654774 (by have z := x653338.resolve_left (by omega); omega)
          have ac654782 : (fI (F651764 q629334) 11).toInt = p651674.toInt := by rw [he651771]; rfl
          have ac654783 : (fI (F651764 q629334) 14).toInt = p651677.toInt := by rw [he651771]; rfl
          exact hlp52_653268 (rsum (fun i => γ 2 (γ 14 (el (γ 14 q629335) i))) (γ 6 f) + 1) P651650 F651764 γ el hT651765 hs651768 hph651654 hB651655 (by omega) (by omega) (by omega) (by omega) ni651772 gr651773 mk651770 (Nat.lt_succ_self _)
        · have r654784 : 4000 < o651752.toInt := gj_nle hc651754 (show Int32.toInt 4000 = 4000 by decide)
          have bo651752' : gB o651752 4001 2147483647 := ⟨by omega, by omega⟩
          refine G_iconst (-1) dr_cX17_giveAll_44 (by decide +kernel) ?_
          exact G_iretA dr_cX17_giveAll_45 rfl (show ((rPh γ el f - rPh γ0 el0 f) / 18) ≤ (((387 * B + 6000) - rPh γ0 el0 f) / 18) by omega) (show (rPh γ el f - rPh γ0 el0 f) ≤ ((387 * B + 6000) - rPh γ0 el0 f) by omega) ⟨P651650, F651651, γ, el, (-1), rfl, rfl, hs651653, ⟨by omega, by omega⟩, hB651655, (gB_w (gBl (show Int32.toInt (-1) = (-1) by decide)) (by decide) (by decide)), (by have qa0 : Int32.toInt (-1) = (-1) := (by decide); omega), x651661⟩
  have ac654785 : (fI (F629445 q629334) 11).toInt = p629467.toInt := by rw [he629462]; rfl
  have ac654786 : (fI (F629445 q629334) 14).toInt = p629470.toInt := by rw [he629462]; rfl
  exact hlp28_651661 (((42 : Int) - 1).toNat + 1) P629444 F629445 γ el 1 (gB_w (gBl (show Int32.toInt 1 = 1 by decide)) (by decide) (by decide)) hT629450 hs629451 hph629456 hB629449 (by have qa0 : Int32.toInt 1 = 1 := (by decide); omega) (by have qa0 : Int32.toInt 1 = 1 := (by decide); omega) (by have qa0 : Int32.toInt 1 = 1 := (by decide); omega) (by have qa0 : Int32.toInt 1 = 1 := (by decide); omega) ni629510 mk629455 (Nat.lt_succ_self _)
