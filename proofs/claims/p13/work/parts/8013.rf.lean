theorem dr_cX17_giveAll_0 : decode cX17_giveAll 0 = .ok (.aload_n 0, 1) := by decide +kernel
theorem dr_cX17_giveAll_1 : decode cX17_giveAll 1 = .ok (.iconst 0, 1) := by decide +kernel
theorem dr_cX17_giveAll_2 : decode cX17_giveAll 2 = .ok (.putfield 224, 3) := by decide +kernel
theorem dr_cX17_giveAll_5 : decode cX17_giveAll 5 = .ok (.aload_n 0, 1) := by decide +kernel
theorem dr_cX17_giveAll_6 : decode cX17_giveAll 6 = .ok (.iconst 0, 1) := by decide +kernel
theorem dr_cX17_giveAll_7 : decode cX17_giveAll 7 = .ok (.putfield 237, 3) := by decide +kernel
theorem dr_cX17_giveAll_10 : decode cX17_giveAll 10 = .ok (.aload_n 0, 1) := by decide +kernel
theorem dr_cX17_giveAll_11 : decode cX17_giveAll 11 = .ok (.iconst 0, 1) := by decide +kernel
theorem dr_cX17_giveAll_12 : decode cX17_giveAll 12 = .ok (.putfield 195, 3) := by decide +kernel
theorem dr_cX17_giveAll_15 : decode cX17_giveAll 15 = .ok (.aload_n 0, 1) := by decide +kernel
theorem dr_cX17_giveAll_16 : decode cX17_giveAll 16 = .ok (.bipush 100, 2) := by decide +kernel
theorem dr_cX17_giveAll_18 : decode cX17_giveAll 18 = .ok (.putfield 231, 3) := by decide +kernel
theorem dr_cX17_giveAll_21 : decode cX17_giveAll 21 = .ok (.aload_n 0, 1) := by decide +kernel
theorem dr_cX17_giveAll_22 : decode cX17_giveAll 22 = .ok (.aload_n 1, 1) := by decide +kernel
theorem dr_cX17_giveAll_23 : decode cX17_giveAll 23 = .ok (.invokevirtual 240, 3) := by decide +kernel
theorem dr_cX17_giveAll_26 : decode cX17_giveAll 26 = .ok (.iconst 1, 1) := by decide +kernel
theorem dr_cX17_giveAll_27 : decode cX17_giveAll 27 = .ok (.istore_n 3, 1) := by decide +kernel
theorem dr_cX17_giveAll_28 : decode cX17_giveAll 28 = .ok (.iload_n 3, 1) := by decide +kernel
theorem dr_cX17_giveAll_29 : decode cX17_giveAll 29 = .ok (.bipush 40, 2) := by decide +kernel
theorem dr_cX17_giveAll_31 : decode cX17_giveAll 31 = .ok (.if_icmp .gt 176, 3) := by decide +kernel
theorem dr_cX17_giveAll_207 : decode cX17_giveAll 207 = .ok (.iconst (-1), 1) := by decide +kernel
theorem dr_cX17_giveAll_208 : decode cX17_giveAll 208 = .ok (.ireturn, 1) := by decide +kernel
theorem dr_cX17_giveAll_34 : decode cX17_giveAll 34 = .ok (.aload_n 1, 1) := by decide +kernel
theorem dr_cX17_giveAll_35 : decode cX17_giveAll 35 = .ok (.invokevirtual 234, 3) := by decide +kernel
theorem dr_cX17_giveAll_38 : decode cX17_giveAll 38 = .ok (.sipush 4000, 3) := by decide +kernel
theorem dr_cX17_giveAll_41 : decode cX17_giveAll 41 = .ok (.if_icmp .le 5, 3) := by decide +kernel
theorem dr_cX17_giveAll_46 : decode cX17_giveAll 46 = .ok (.aload_n 0, 1) := by decide +kernel
theorem dr_cX17_giveAll_47 : decode cX17_giveAll 47 = .ok (.aload_n 1, 1) := by decide +kernel
theorem dr_cX17_giveAll_48 : decode cX17_giveAll 48 = .ok (.iconst 0, 1) := by decide +kernel
theorem dr_cX17_giveAll_49 : decode cX17_giveAll 49 = .ok (.invokevirtual 243, 3) := by decide +kernel
theorem dr_cX17_giveAll_52 : decode cX17_giveAll 52 = .ok (.aload_n 0, 1) := by decide +kernel
theorem dr_cX17_giveAll_53 : decode cX17_giveAll 53 = .ok (.aload_n 1, 1) := by decide +kernel
theorem dr_cX17_giveAll_54 : decode cX17_giveAll 54 = .ok (.iload_n 2, 1) := by decide +kernel
theorem dr_cX17_giveAll_55 : decode cX17_giveAll 55 = .ok (.invokevirtual 246, 3) := by decide +kernel
theorem wr_11_8 : (Jvm.Cond.methodLink "SpillForgeModel" (246 : Nat) ({ cls := "SpillForgeModel", name := "merge", desc := "(LSpillForgeModel$Code;I)Z" } : Jvm.MethodName)) ∈ gw := gw_11 8 rfl rfl
theorem wr_11_11 : (Jvm.Cond.code ({ cls := "SpillForgeModel", name := "merge", desc := "(LSpillForgeModel$Code;I)Z" } : Jvm.MethodName) prog_14_method_17_code (9 : Nat) (Option.some Jvm.ClassFile.FieldType.boolean)) ∈ gw := gw_11 11 rfl rfl
theorem wr_11_10 : (Jvm.Cond.instanceMethod ({ cls := "SpillForgeModel", name := "merge", desc := "(LSpillForgeModel$Code;I)Z" } : Jvm.MethodName)) ∈ gw := gw_11 10 rfl rfl
theorem wr_p_101 : Cond.selects "SpillForgeModel" ⟨"SpillForgeModel", "merge", "(LSpillForgeModel$Code;I)Z"⟩ ⟨"SpillForgeModel", "merge", "(LSpillForgeModel$Code;I)Z"⟩ ∈ gw := gw_p _ 101 rfl rfl rfl
theorem dr_cX17_giveAll_58 : decode cX17_giveAll 58 = .ok (.ifCond .eq 12, 3) := by decide +kernel
theorem dr_cX17_giveAll_70 : decode cX17_giveAll 70 = .ok (.aload_n 0, 1) := by decide +kernel
theorem dr_cX17_giveAll_71 : decode cX17_giveAll 71 = .ok (.aload_n 1, 1) := by decide +kernel
theorem dr_cX17_giveAll_72 : decode cX17_giveAll 72 = .ok (.invokevirtual 250, 3) := by decide +kernel
theorem dr_cX17_giveAll_75 : decode cX17_giveAll 75 = .ok (.aload_n 0, 1) := by decide +kernel
theorem dr_cX17_giveAll_76 : decode cX17_giveAll 76 = .ok (.iload_n 2, 1) := by decide +kernel
theorem dr_cX17_giveAll_77 : decode cX17_giveAll 77 = .ok (.invokevirtual 253, 3) := by decide +kernel
theorem wr_11_47 : (Jvm.Cond.methodLink "SpillForgeModel" (253 : Nat) ({ cls := "SpillForgeModel", name := "colours", desc := "(I)I" } : Jvm.MethodName)) ∈ gw := gw_11 47 rfl rfl
theorem wr_11_50 : (Jvm.Cond.code ({ cls := "SpillForgeModel", name := "colours", desc := "(I)I" } : Jvm.MethodName) prog_14_method_21_code (8 : Nat) (Option.some Jvm.ClassFile.FieldType.int)) ∈ gw := gw_11 50 rfl rfl
theorem wr_11_49 : (Jvm.Cond.instanceMethod ({ cls := "SpillForgeModel", name := "colours", desc := "(I)I" } : Jvm.MethodName)) ∈ gw := gw_11 49 rfl rfl
theorem wr_p_106 : Cond.selects "SpillForgeModel" ⟨"SpillForgeModel", "colours", "(I)I"⟩ ⟨"SpillForgeModel", "colours", "(I)I"⟩ ∈ gw := gw_p _ 106 rfl rfl rfl
theorem dr_cX17_giveAll_80 : decode cX17_giveAll 80 = .ok (.istore 4, 2) := by decide +kernel
theorem dr_cX17_giveAll_82 : decode cX17_giveAll 82 = .ok (.iload 4, 2) := by decide +kernel
theorem dr_cX17_giveAll_84 : decode cX17_giveAll 84 = .ok (.ifCond .ne 96, 3) := by decide +kernel
theorem dr_cX17_giveAll_180 : decode cX17_giveAll 180 = .ok (.aload_n 0, 1) := by decide +kernel
theorem dr_cX17_giveAll_181 : decode cX17_giveAll 181 = .ok (.dup, 1) := by decide +kernel
theorem dr_cX17_giveAll_182 : decode cX17_giveAll 182 = .ok (.getfield 237, 3) := by decide +kernel
theorem dr_cX17_giveAll_185 : decode cX17_giveAll 185 = .ok (.iload 4, 2) := by decide +kernel
theorem dr_cX17_giveAll_187 : decode cX17_giveAll 187 = .ok (.iadd, 1) := by decide +kernel
theorem dr_cX17_giveAll_188 : decode cX17_giveAll 188 = .ok (.putfield 237, 3) := by decide +kernel
theorem dr_cX17_giveAll_191 : decode cX17_giveAll 191 = .ok (.aload_n 0, 1) := by decide +kernel
theorem dr_cX17_giveAll_192 : decode cX17_giveAll 192 = .ok (.aload_n 1, 1) := by decide +kernel
theorem dr_cX17_giveAll_193 : decode cX17_giveAll 193 = .ok (.invokevirtual 263, 3) := by decide +kernel
theorem wr_11_63 : (Jvm.Cond.methodLink "SpillForgeModel" (263 : Nat) ({ cls := "SpillForgeModel", name := "spill", desc := "(LSpillForgeModel$Code;)Z" } : Jvm.MethodName)) ∈ gw := gw_11 63 rfl rfl
theorem wr_11_66 : (Jvm.Cond.code ({ cls := "SpillForgeModel", name := "spill", desc := "(LSpillForgeModel$Code;)Z" } : Jvm.MethodName) prog_14_method_22_code (10 : Nat) (Option.some Jvm.ClassFile.FieldType.boolean)) ∈ gw := gw_11 66 rfl rfl
theorem wr_11_65 : (Jvm.Cond.instanceMethod ({ cls := "SpillForgeModel", name := "spill", desc := "(LSpillForgeModel$Code;)Z" } : Jvm.MethodName)) ∈ gw := gw_11 65 rfl rfl
theorem wr_p_110 : Cond.selects "SpillForgeModel" ⟨"SpillForgeModel", "spill", "(LSpillForgeModel$Code;)Z"⟩ ⟨"SpillForgeModel", "spill", "(LSpillForgeModel$Code;)Z"⟩ ∈ gw := gw_p _ 110 rfl rfl rfl
theorem dr_cX17_giveAll_196 : decode cX17_giveAll 196 = .ok (.ifCond .ne 5, 3) := by decide +kernel
theorem dr_cX17_giveAll_201 : decode cX17_giveAll 201 = .ok (.iinc 3 1, 3) := by decide +kernel
theorem dr_cX17_giveAll_204 : decode cX17_giveAll 204 = .ok (.goto (-176), 3) := by decide +kernel
theorem dr_cX17_giveAll_199 : decode cX17_giveAll 199 = .ok (.iconst (-1), 1) := by decide +kernel
theorem dr_cX17_giveAll_200 : decode cX17_giveAll 200 = .ok (.ireturn, 1) := by decide +kernel
theorem dr_cX17_giveAll_87 : decode cX17_giveAll 87 = .ok (.iconst 0, 1) := by decide +kernel
theorem dr_cX17_giveAll_88 : decode cX17_giveAll 88 = .ok (.istore 5, 2) := by decide +kernel
theorem dr_cX17_giveAll_90 : decode cX17_giveAll 90 = .ok (.iload 5, 2) := by decide +kernel
theorem dr_cX17_giveAll_92 : decode cX17_giveAll 92 = .ok (.aload_n 1, 1) := by decide +kernel
theorem dr_cX17_giveAll_93 : decode cX17_giveAll 93 = .ok (.invokevirtual 96, 3) := by decide +kernel
theorem dr_cX17_giveAll_96 : decode cX17_giveAll 96 = .ok (.if_icmp .ge 77, 3) := by decide +kernel
theorem dr_cX17_giveAll_173 : decode cX17_giveAll 173 = .ok (.aload_n 0, 1) := by decide +kernel
theorem dr_cX17_giveAll_174 : decode cX17_giveAll 174 = .ok (.aload_n 1, 1) := by decide +kernel
theorem dr_cX17_giveAll_175 : decode cX17_giveAll 175 = .ok (.invokevirtual 260, 3) := by decide +kernel
theorem wr_11_59 : (Jvm.Cond.methodLink "SpillForgeModel" (260 : Nat) ({ cls := "SpillForgeModel", name := "share", desc := "(LSpillForgeModel$Code;)V" } : Jvm.MethodName)) ∈ gw := gw_11 59 rfl rfl
theorem wr_11_62 : (Jvm.Cond.code ({ cls := "SpillForgeModel", name := "share", desc := "(LSpillForgeModel$Code;)V" } : Jvm.MethodName) prog_14_method_26_code (7 : Nat) (Option.none : Option Jvm.ClassFile.FieldType)) ∈ gw := gw_11 62 rfl rfl
theorem wr_11_61 : (Jvm.Cond.instanceMethod ({ cls := "SpillForgeModel", name := "share", desc := "(LSpillForgeModel$Code;)V" } : Jvm.MethodName)) ∈ gw := gw_11 61 rfl rfl
theorem wr_p_109 : Cond.selects "SpillForgeModel" ⟨"SpillForgeModel", "share", "(LSpillForgeModel$Code;)V"⟩ ⟨"SpillForgeModel", "share", "(LSpillForgeModel$Code;)V"⟩ ∈ gw := gw_p _ 109 rfl rfl rfl
theorem dr_cX17_giveAll_178 : decode cX17_giveAll 178 = .ok (.iload_n 3, 1) := by decide +kernel
theorem dr_cX17_giveAll_179 : decode cX17_giveAll 179 = .ok (.ireturn, 1) := by decide +kernel
theorem dr_cX17_giveAll_99 : decode cX17_giveAll 99 = .ok (.aload_n 1, 1) := by decide +kernel
theorem dr_cX17_giveAll_100 : decode cX17_giveAll 100 = .ok (.iload 5, 2) := by decide +kernel
theorem dr_cX17_giveAll_102 : decode cX17_giveAll 102 = .ok (.invokevirtual 101, 3) := by decide +kernel
theorem dr_cX17_giveAll_105 : decode cX17_giveAll 105 = .ok (.astore 6, 2) := by decide +kernel
theorem dr_cX17_giveAll_107 : decode cX17_giveAll 107 = .ok (.iconst 0, 1) := by decide +kernel
theorem dr_cX17_giveAll_108 : decode cX17_giveAll 108 = .ok (.istore 7, 2) := by decide +kernel
theorem dr_cX17_giveAll_110 : decode cX17_giveAll 110 = .ok (.iload 7, 2) := by decide +kernel
theorem dr_cX17_giveAll_112 : decode cX17_giveAll 112 = .ok (.aload 6, 2) := by decide +kernel
theorem dr_cX17_giveAll_114 : decode cX17_giveAll 114 = .ok (.getfield 117, 3) := by decide +kernel
theorem dr_cX17_giveAll_117 : decode cX17_giveAll 117 = .ok (.invokevirtual 121, 3) := by decide +kernel
theorem dr_cX17_giveAll_120 : decode cX17_giveAll 120 = .ok (.if_icmp .gt 47, 3) := by decide +kernel
theorem dr_cX17_giveAll_167 : decode cX17_giveAll 167 = .ok (.iinc 5 1, 3) := by decide +kernel
theorem dr_cX17_giveAll_170 : decode cX17_giveAll 170 = .ok (.goto (-80), 3) := by decide +kernel
theorem dr_cX17_giveAll_123 : decode cX17_giveAll 123 = .ok (.aload_n 0, 1) := by decide +kernel
theorem dr_cX17_giveAll_124 : decode cX17_giveAll 124 = .ok (.iload 7, 2) := by decide +kernel
theorem dr_cX17_giveAll_126 : decode cX17_giveAll 126 = .ok (.aload 6, 2) := by decide +kernel
theorem dr_cX17_giveAll_128 : decode cX17_giveAll 128 = .ok (.getfield 117, 3) := by decide +kernel
theorem dr_cX17_giveAll_131 : decode cX17_giveAll 131 = .ok (.invokevirtual 121, 3) := by decide +kernel
theorem dr_cX17_giveAll_134 : decode cX17_giveAll 134 = .ok (.if_icmp .ge 19, 3) := by decide +kernel
theorem dr_cX17_giveAll_153 : decode cX17_giveAll 153 = .ok (.aload 6, 2) := by decide +kernel
theorem dr_cX17_giveAll_155 : decode cX17_giveAll 155 = .ok (.getfield 109, 3) := by decide +kernel
theorem dr_cX17_giveAll_158 : decode cX17_giveAll 158 = .ok (.invokevirtual 256, 3) := by decide +kernel
theorem wr_11_55 : (Jvm.Cond.methodLink "SpillForgeModel" (256 : Nat) ({ cls := "SpillForgeModel", name := "coloured", desc := "(LSpillForgeModel$Row;)V" } : Jvm.MethodName)) ∈ gw := gw_11 55 rfl rfl
theorem wr_11_58 : (Jvm.Cond.code ({ cls := "SpillForgeModel", name := "coloured", desc := "(LSpillForgeModel$Row;)V" } : Jvm.MethodName) prog_14_method_25_code (2 : Nat) (Option.none : Option Jvm.ClassFile.FieldType)) ∈ gw := gw_11 58 rfl rfl
theorem wr_11_57 : (Jvm.Cond.instanceMethod ({ cls := "SpillForgeModel", name := "coloured", desc := "(LSpillForgeModel$Row;)V" } : Jvm.MethodName)) ∈ gw := gw_11 57 rfl rfl
theorem wr_p_108 : Cond.selects "SpillForgeModel" ⟨"SpillForgeModel", "coloured", "(LSpillForgeModel$Row;)V"⟩ ⟨"SpillForgeModel", "coloured", "(LSpillForgeModel$Row;)V"⟩ ∈ gw := gw_p _ 108 rfl rfl rfl
theorem dr_cX17_giveAll_161 : decode cX17_giveAll 161 = .ok (.iinc 7 1, 3) := by decide +kernel
theorem dr_cX17_giveAll_164 : decode cX17_giveAll 164 = .ok (.goto (-54), 3) := by decide +kernel
theorem dr_cX17_giveAll_137 : decode cX17_giveAll 137 = .ok (.aload 6, 2) := by decide +kernel
theorem dr_cX17_giveAll_139 : decode cX17_giveAll 139 = .ok (.getfield 117, 3) := by decide +kernel
theorem dr_cX17_giveAll_142 : decode cX17_giveAll 142 = .ok (.iload 7, 2) := by decide +kernel
theorem dr_cX17_giveAll_144 : decode cX17_giveAll 144 = .ok (.invokevirtual 124, 3) := by decide +kernel
theorem dr_cX17_giveAll_147 : decode cX17_giveAll 147 = .ok (.checkcast 40, 3) := by decide +kernel
theorem dr_cX17_giveAll_150 : decode cX17_giveAll 150 = .ok (.goto 8, 3) := by decide +kernel
theorem dr_cX17_giveAll_61 : decode cX17_giveAll 61 = .ok (.aload_n 0, 1) := by decide +kernel
theorem dr_cX17_giveAll_62 : decode cX17_giveAll 62 = .ok (.aload_n 1, 1) := by decide +kernel
theorem dr_cX17_giveAll_63 : decode cX17_giveAll 63 = .ok (.iconst 0, 1) := by decide +kernel
theorem dr_cX17_giveAll_64 : decode cX17_giveAll 64 = .ok (.invokevirtual 243, 3) := by decide +kernel
theorem dr_cX17_giveAll_67 : decode cX17_giveAll 67 = .ok (.goto (-15), 3) := by decide +kernel
theorem dr_cX17_giveAll_44 : decode cX17_giveAll 44 = .ok (.iconst (-1), 1) := by decide +kernel
theorem dr_cX17_giveAll_45 : decode cX17_giveAll 45 = .ok (.ireturn, 1) := by decide +kernel
abbrev ky_632297_SpillForgeModel_giveAll : gKey := (cX17_giveAll, 8, "SpillForgeModel", (some FieldType.int), [], "giveAll", fun _ _ => True)
def pg_632297_SpillForgeModel_giveAll (D : va_G) (I : FieldType → ClassId) (γ0 el0 : Nat → Nat → Nat) (f : Nat) (B : Nat) (P632289 : List Nat) (F632290 : Nat → va_E) (q632291 : Nat) (q632292 : Nat) (p632293 : Int32) : Option Value → va_W → Nat → Nat → Prop := fun r w dc ds => ∃ (P658014 : List Nat) (F658015 : Nat → va_E) (γ el : Nat → Nat → Nat) (o658013 : Int32), r = some (.int o658013) ∧ w = va_pl P658014 F658015 ∧ rSk f [101] ([1, 3, 5, 6, 8, 9, 101] ++ npk) D I P632289 F632290 γ0 el0 P658014 F658015 γ el ∧ (18 * dc + rPh γ0 el0 f ≤ rPh γ el f ∧ ds + rPh γ0 el0 f ≤ rPh γ el f) ∧ rBd γ el f B ∧ gB o658013 (-1) 40 ∧ γ 6 f = γ0 6 f ∧ mKp (F632290 q632291) (F658015 q632291) ∧ tr_RModel_giveAll D I γ0 el0 f P632289 F632290 q632291 q632292 p632293 o658013 P658014 F658015 γ el
set_option maxRecDepth 100000 in
set_option maxHeartbeats 20000000 in
theorem cg_632297_SpillForgeModel_giveAll (l : Launch) (hl0 : l.stackTraces = false) (D : va_G) (I : FieldType → ClassId) (γ0 el0 : Nat → Nat → Nat) (f : Nat) (B : Nat) (P632289 : List Nat) (F632290 : Nat → va_E) (q632291 : Nat) (q632292 : Nat) (p632293 : Int32) (hT0 : RS D I P632289 F632290 γ0 el0) (hzq632291 : rKd γ0 q632291 10) (hzq632292 : rKd γ0 q632292 9) (hf0 : γ0 1 q632292 = f) (hB0 : rBd γ0 el0 f B) (hBk : B ≤ 100000) (bp632293 : gB p632293 1 32) (x632294 : 0 < γ0 6 f) (x632295 : γ0 7 f = 0) (x632296 : γ0 16 f + 3901 ≤ B) : CtA (gV D I) l yX17_giveAll cX17_giveAll 8 (some FieldType.int) 10 224 (((387 * B + 6000) - rPh γ0 el0 f) / 18) ((387 * B + 6000) - rPh γ0 el0 f) [.ref q632291, .ref q632292, .int p632293] (va_pl P632289 F632290) (pg_632297_SpillForgeModel_giveAll D I γ0 el0 f B P632289 F632290 q632291 q632292 p632293) gNA := by
  refine CtA_of hl0 (by decide) (Nat.le_of_ble_eq_true rfl) ?_
  obtain ⟨gm_0, hγ0⟩ : ∃ z, z = γ0 := ⟨_, rfl⟩
  obtain ⟨el_0, hel0⟩ : ∃ z, z = el0 := ⟨_, rfl⟩
  have hT : RS D I P632289 F632290 gm_0 el_0 := by rw [hγ0, hel0]; exact hT0
  have hst : rSk f [101] ([1, 3, 5, 6, 8, 9, 101] ++ npk) D I P632289 F632290 γ0 el0 P632289 F632290 gm_0 el_0 := by rw [hγ0, hel0]; exact rSk_rf hT0
  have hph : rPh γ0 el0 f ≤ rPh gm_0 el_0 f := by rw [hγ0, hel0]; exact Nat.le_refl _
  have hB : rBd gm_0 el_0 f B := by rw [hγ0, hel0]; exact hB0
  have htq632291 : rKd gm_0 q632291 10 := by rw [hγ0]; exact hzq632291
  have htq632292 : rKd gm_0 q632292 9 := by rw [hγ0]; exact hzq632292
  have hf1 : gm_0 1 q632292 = f := by rw [hγ0]; exact hf0
  have x632294n : 0 < gm_0 6 f := by rw [hγ0]; exact x632294
  have x632295n : gm_0 7 f = 0 := by rw [hγ0]; exact x632295
  have x632296n : gm_0 16 f + 3901 ≤ B := by rw [hγ0]; exact x632296
  have pk632298 : rPh gm_0 el_0 f ≤ 387 * B + 6000 := rm_pk (rM_ge hT htq632292 hf1).1 (rM_bd hB)
  refine G_widen (cs' := ((rPh gm_0 el_0 f - rPh γ0 el0 f) / 18)) (sl' := (rPh gm_0 el_0 f - rPh γ0 el0 f)) (Nat.zero_le _) (Nat.zero_le _) ?_
  have lz0 : Int32.toInt 0 = 0 := by decide
  have r632299 : gm_0 6 f = γ0 6 f := by rw [hγ0]
  have r632300 : gm_0 7 f = γ0 7 f := by rw [hγ0]
  have r632301 : gm_0 16 f = γ0 16 f := by rw [hγ0]
  have r632302 : gm_0 18 f = γ0 18 f := by rw [hγ0]
  have r632303 : gm_0 19 f = γ0 19 f := by rw [hγ0]
  have hm632304 : q632291 ∈ P632289 := RS_m hT htq632291 (by decide)
  refine rk10_e (show rk_10 gm_0 (F632290 q632291) from RS_o hT htq632291) (fun q632306 q632307 p632308 p632309 p632310 p632311 p632312 p632313 p632314 p632315 p632316 p632317 p632318 p632319 p632320 p632321 p632322 he632305 hB632349 ht632323 ht632324 ht632325 ht632326 ht632327 ht632328 ht632329 ht632330 ht632331 ht632332 ht632333 ht632334 ht632335 ht632336 ht632337 ht632338 ht632339 ht632340 ht632341 ht632342 ht632343 ht632344 ht632345 ht632346 hB632350 => ?_)
  have k0_3 : rKd γ0 (γ0 9 3) 14 := by rw [← hγ0]; exact ht632328
  have k0_17 : rKd γ0 (γ0 9 17) 20 := by rw [← hγ0]; exact ht632336
  refine G_aload_n 0 dr_cX17_giveAll_0 rfl ?_
  refine G_iconst 0 dr_cX17_giveAll_1 (by decide +kernel) ?_
  refine Gp_put 11 hm632304 he632305 dr_cX17_giveAll_2 (gk_X17 D I) (Nat.le_of_ble_eq_true rfl) wr_7_85 rfl rfl rfl (Nat.le_of_ble_eq_true rfl) (fun F632351 e632352 n632353 => ?_)
  have he632354 : F632351 q632291 = .inr (22, [.ref (gm_0 9 0), .ref (gm_0 9 1), .ref (gm_0 9 2), .ref (gm_0 9 3), .ref (gm_0 9 4), .ref (gm_0 9 5), .ref (gm_0 9 6), .ref (gm_0 9 7), .ref (gm_0 9 8), .int p632308, .int p632309, .int 0, .int p632311, .int p632312, .int p632313, .ref (gm_0 9 15), .ref (gm_0 9 16), .ref (gm_0 9 17), .ref (gm_0 9 18), .ref (gm_0 9 19), .ref (gm_0 9 20), .ref (gm_0 9 21), .ref (gm_0 9 22), .int p632314, .int p632315, .int p632316, .int p632317, .int p632318, .ref q632306, .ref (gm_0 9 29), .int p632319, .ref (gm_0 9 31), .int p632320, .int p632321, .int p632322, .ref q632307]) := e632352
  have mk632355 : mKp (F632290 q632291) (F632351 q632291) := mKp_tr mKp_rf (by rw [he632305, he632354]; exact ⟨rfl, rfl⟩)
  have kp632356 : F632351 (γ0 9 3) = F632290 (γ0 9 3) := n632353 (γ0 9 3) (rn_ty (rSk_k hst k0_3 (by decide) (by decide)) htq632291 (by decide))
  have kp632357 : F632351 (γ0 9 17) = F632290 (γ0 9 17) := n632353 (γ0 9 17) (rn_ty (rSk_k hst k0_17 (by decide) (by decide)) htq632291 (by decide))
  have fq632358 : F632351 q632291 = cF (F632290 q632291) 11 (.int 0) := by rw [he632354, he632305]; rfl
  refine G_aload_n 0 dr_cX17_giveAll_5 rfl ?_
  refine G_iconst 0 dr_cX17_giveAll_6 (by decide +kernel) ?_
  refine Gp_put 12 hm632304 he632354 dr_cX17_giveAll_7 (gk_X17 D I) (Nat.le_of_ble_eq_true rfl) wr_7_86 rfl rfl rfl (Nat.le_of_ble_eq_true rfl) (fun F632359 e632360 n632361 => ?_)
  have he632362 : F632359 q632291 = .inr (22, [.ref (gm_0 9 0), .ref (gm_0 9 1), .ref (gm_0 9 2), .ref (gm_0 9 3), .ref (gm_0 9 4), .ref (gm_0 9 5), .ref (gm_0 9 6), .ref (gm_0 9 7), .ref (gm_0 9 8), .int p632308, .int p632309, .int 0, .int 0, .int p632312, .int p632313, .ref (gm_0 9 15), .ref (gm_0 9 16), .ref (gm_0 9 17), .ref (gm_0 9 18), .ref (gm_0 9 19), .ref (gm_0 9 20), .ref (gm_0 9 21), .ref (gm_0 9 22), .int p632314, .int p632315, .int p632316, .int p632317, .int p632318, .ref q632306, .ref (gm_0 9 29), .int p632319, .ref (gm_0 9 31), .int p632320, .int p632321, .int p632322, .ref q632307]) := e632360
  have mk632363 : mKp (F632290 q632291) (F632359 q632291) := mKp_tr mk632355 (by rw [he632354, he632362]; exact ⟨rfl, rfl⟩)
  have n632364 : ∀ b, b ≠ q632291 → F632359 b = F632290 b := fun b hb => (n632361 b hb).trans (n632353 b hb)
  have kp632365 : F632359 (γ0 9 3) = F632290 (γ0 9 3) := (n632361 (γ0 9 3) (rn_ty (rSk_k hst k0_3 (by decide) (by decide)) htq632291 (by decide))).trans kp632356
  have kp632366 : F632359 (γ0 9 17) = F632290 (γ0 9 17) := (n632361 (γ0 9 17) (rn_ty (rSk_k hst k0_17 (by decide) (by decide)) htq632291 (by decide))).trans kp632357
  have fq632367 : F632359 q632291 = cF (F632351 q632291) 12 (.int 0) := by rw [he632362, he632354]; rfl
  refine G_aload_n 0 dr_cX17_giveAll_10 rfl ?_
  refine G_iconst 0 dr_cX17_giveAll_11 (by decide +kernel) ?_
  refine Gp_put 13 hm632304 he632362 dr_cX17_giveAll_12 (gk_X17 D I) (Nat.le_of_ble_eq_true rfl) wr_7_87 rfl rfl rfl (Nat.le_of_ble_eq_true rfl) (fun F632368 e632369 n632370 => ?_)
  have he632371 : F632368 q632291 = .inr (22, [.ref (gm_0 9 0), .ref (gm_0 9 1), .ref (gm_0 9 2), .ref (gm_0 9 3), .ref (gm_0 9 4), .ref (gm_0 9 5), .ref (gm_0 9 6), .ref (gm_0 9 7), .ref (gm_0 9 8), .int p632308, .int p632309, .int 0, .int 0, .int 0, .int p632313, .ref (gm_0 9 15), .ref (gm_0 9 16), .ref (gm_0 9 17), .ref (gm_0 9 18), .ref (gm_0 9 19), .ref (gm_0 9 20), .ref (gm_0 9 21), .ref (gm_0 9 22), .int p632314, .int p632315, .int p632316, .int p632317, .int p632318, .ref q632306, .ref (gm_0 9 29), .int p632319, .ref (gm_0 9 31), .int p632320, .int p632321, .int p632322, .ref q632307]) := e632369
  have mk632372 : mKp (F632290 q632291) (F632368 q632291) := mKp_tr mk632363 (by rw [he632362, he632371]; exact ⟨rfl, rfl⟩)
  have n632373 : ∀ b, b ≠ q632291 → F632368 b = F632290 b := fun b hb => (n632370 b hb).trans (n632364 b hb)
  have kp632374 : F632368 (γ0 9 3) = F632290 (γ0 9 3) := (n632370 (γ0 9 3) (rn_ty (rSk_k hst k0_3 (by decide) (by decide)) htq632291 (by decide))).trans kp632365
  have kp632375 : F632368 (γ0 9 17) = F632290 (γ0 9 17) := (n632370 (γ0 9 17) (rn_ty (rSk_k hst k0_17 (by decide) (by decide)) htq632291 (by decide))).trans kp632366
  have fq632376 : F632368 q632291 = cF (F632359 q632291) 13 (.int 0) := by rw [he632371, he632362]; rfl
  refine G_aload_n 0 dr_cX17_giveAll_15 rfl ?_
  refine G_bipush 100 dr_cX17_giveAll_16 (by decide +kernel) ?_
  refine Gp_put 14 hm632304 he632371 dr_cX17_giveAll_18 (gk_X17 D I) (Nat.le_of_ble_eq_true rfl) wr_7_88 rfl rfl rfl (Nat.le_of_ble_eq_true rfl) (fun F632377 e632378 n632379 => ?_)
  have he632380 : F632377 q632291 = .inr (22, [.ref (gm_0 9 0), .ref (gm_0 9 1), .ref (gm_0 9 2), .ref (gm_0 9 3), .ref (gm_0 9 4), .ref (gm_0 9 5), .ref (gm_0 9 6), .ref (gm_0 9 7), .ref (gm_0 9 8), .int p632308, .int p632309, .int 0, .int 0, .int 0, .int 100, .ref (gm_0 9 15), .ref (gm_0 9 16), .ref (gm_0 9 17), .ref (gm_0 9 18), .ref (gm_0 9 19), .ref (gm_0 9 20), .ref (gm_0 9 21), .ref (gm_0 9 22), .int p632314, .int p632315, .int p632316, .int p632317, .int p632318, .ref q632306, .ref (gm_0 9 29), .int p632319, .ref (gm_0 9 31), .int p632320, .int p632321, .int p632322, .ref q632307]) := e632378
  have mk632381 : mKp (F632290 q632291) (F632377 q632291) := mKp_tr mk632372 (by rw [he632371, he632380]; exact ⟨rfl, rfl⟩)
  have n632382 : ∀ b, b ≠ q632291 → F632377 b = F632290 b := fun b hb => (n632379 b hb).trans (n632373 b hb)
  have kp632383 : F632377 (γ0 9 3) = F632290 (γ0 9 3) := (n632379 (γ0 9 3) (rn_ty (rSk_k hst k0_3 (by decide) (by decide)) htq632291 (by decide))).trans kp632374
  have kp632384 : F632377 (γ0 9 17) = F632290 (γ0 9 17) := (n632379 (γ0 9 17) (rn_ty (rSk_k hst k0_17 (by decide) (by decide)) htq632291 (by decide))).trans kp632375
  have fq632385 : F632377 q632291 = cF (F632368 q632291) 14 (.int 100) := by rw [he632380, he632371]; rfl
  refine G_aload_n 0 dr_cX17_giveAll_21 rfl ?_
  have hT632386 : RS D I P632289 F632377 gm_0 el_0 := RS_set hT n632382 htq632291 (by decide) ⟨q632306, q632307, p632308, p632309, 0, 0, 0, 100, p632314, p632315, p632316, p632317, p632318, p632319, p632320, p632321, p632322, he632380, ⟨(hB632349.1), (hB632349.2.1), (gB_w (gBl (show Int32.toInt 0 = 0 by decide)) (by decide) (by decide)), (gB_w (gBl (show Int32.toInt 100 = 100 by decide)) (by decide) (by decide)), (hB632349.2.2.2.2.1), (hB632349.2.2.2.2.2.1), (hB632349.2.2.2.2.2.2.1), (hB632349.2.2.2.2.2.2.2.1), (hB632349.2.2.2.2.2.2.2.2)⟩, ht632323, ht632324, ht632325, ht632326, ht632327, ht632328, ht632329, ht632330, ht632331, ht632332, ht632333, ht632334, ht632335, ht632336, ht632337, ht632338, ht632339, ht632340, ht632341, ht632342, ht632343, ht632344, ht632345, ht632346, hB632350⟩
  have hs632387 := rSk_put hst hT632386 n632382 htq632291 (by decide) (by decide) (Or.inr (Or.inr (by decide)))
  have ac632388 : (fI (F632377 q632291) 11).toInt = 0 := by rw [he632380]; show Int32.toInt 0 = 0; decide
  have ac632389 : (fI (F632377 q632291) 14).toInt = 100 := by rw [he632380]; show Int32.toInt 100 = 100; decide
  refine G_aload_n 1 dr_cX17_giveAll_22 rfl ?_
  have rg632390 := rM_ge hT632386 htq632292 hf1
  have rm632391 := rM_bd hB
  have bd632392 := rBd_c hT632386 htq632292 hf1 hB
  have rc632393 := rc_at hT632386 htq632292 hf1
  refine Gw_callV (As := [.ref q632292]) (gV_ok D I) (cg_366617_SpillForgeModel_zeros l hl0 D I gm_0 el_0 f B P632289 F632377 q632291 q632292 hT632386 htq632291 htq632292 hf1 hB hBk (by omega) (by omega)) dr_cX17_giveAll_23 ⟨wr_10_152, wr_1_14, wr_10_155, by decide, rfl, (Nat.le_of_ble_eq_true rfl), (Nat.le_of_ble_eq_true rfl)⟩ wr_10_154 wr_p_93 hm632304 he632380 rfl (rm_gc hph pk632298) (rm_gs hph pk632298) (Nat.le_of_ble_eq_true rfl) (fun r632397 w632398 dc632394 ds632395 hp632396 => ?_) (fun _ _ _ _ _ z => z.elim)
  obtain ⟨P632405, F632406, gm_F632406, el_F632406, rfl, rfl, hk632407, ⟨hr632408, hr632409⟩, hB632410, x632399, x632400, x632401, x632402, x632403, ht632404⟩ := hp632396
  have hT632411 := hk632407.1
  have hs632412 := rSk_tr hs632387 hk632407 (by decide) (by decide) (by decide)
  have ht632413 : rKd gm_F632406 q632291 10 := rSk_k hk632407 htq632291 (by decide) (by decide)
  have ht632414 : rKd gm_F632406 q632292 9 := rSk_k hk632407 htq632292 (by decide) (by decide)
  have hf632415 : gm_F632406 1 q632292 = f := rSk_1 hk632407 htq632292 (by decide) hf1
  clear rg632390 rm632391 bd632392 rc632393
  have mk632416 : mKp (F632290 q632291) (F632406 q632291) := mKp_tr mk632381 (mKp_eq x632403)
  have hph632417 : rPh γ0 el0 f ≤ rPh gm_F632406 el_F632406 f := rm_ph hph hr632409
  have pk632418 : rPh gm_F632406 el_F632406 f ≤ 387 * B + 6000 := rm_pk (rM_ge hT632411 ht632414 hf632415).1 (rM_bd hB632410)
  change G _ _ _ _ _ _ _ _ _ _ _
  refine G_widen (cs' := ((rPh gm_F632406 el_F632406 f - rPh γ0 el0 f) / 18)) (sl' := (rPh gm_F632406 el_F632406 f - rPh γ0 el0 f)) (rm_wc hph hr632408) (rm_ws hph hr632409) ?_
  have r632419 : 0 < gm_F632406 6 (gm_F632406 1 q632292) := by rw [hf632415]; omega
  have ac632420 : (fI (F632406 q632291) 11).toInt = (fI (F632377 q632291) 11).toInt := by rw [x632403]
  have ac632421 : (fI (F632406 q632291) 14).toInt = (fI (F632377 q632291) 14).toInt := by rw [x632403]
  have hm632422 : q632291 ∈ P632405 := RS_m hT632411 ht632413 (by decide)
  refine rk10_e (show rk_10 gm_F632406 (F632406 q632291) from RS_o hT632411 ht632413) (fun q632424 q632425 p632426 p632427 p632428 p632429 p632430 p632431 p632432 p632433 p632434 p632435 p632436 p632437 p632438 p632439 p632440 he632423 hB632467 ht632441 ht632442 ht632443 ht632444 ht632445 ht632446 ht632447 ht632448 ht632449 ht632450 ht632451 ht632452 ht632453 ht632454 ht632455 ht632456 ht632457 ht632458 ht632459 ht632460 ht632461 ht632462 ht632463 ht632464 hB632468 => ?_)
  have ac632469 : (fI (F632406 q632291) 11).toInt = p632428.toInt := by rw [he632423]; rfl
  have bp632428 : gB p632428 0 100 := (hB632467.2.2.1)
  have ac632470 : (fI (F632406 q632291) 14).toInt = p632431.toInt := by rw [he632423]; rfl
  have bp632431 : gB p632431 0 2000 := (hB632467.2.2.2.1)
  have ni632471 : rNI gm_F632406 el_F632406 F632406 q632292 (gm_F632406 6 f) (fI (F632406 q632291) 11).toInt := rNI_s (rNI_0 hT632411 ht632414 hf632415 (by omega)) (by omega)
  refine G_iconst 1 dr_cX17_giveAll_26 (by decide +kernel) ?_
  refine G_istore_n (L' := [(3, .int 1), (0, .ref q632291), (1, .ref q632292), (2, .int p632293)]) dr_cX17_giveAll_27 (Nat.le_of_ble_eq_true rfl) rfl ?_
  have hlp28_654840 : ∀ (n28_654840 : Nat) (P654829 : List Nat) (F654830 : Nat → va_E) (gm_F654830 el_F654830 : Nat → Nat → Nat) (g654828 : Int32), gB g654828 1 41 → RS D I P654829 F654830 gm_F654830 el_F654830 → rSk f [101] ([1, 3, 5, 6, 8, 9, 101] ++ npk) D I P632289 F632290 γ0 el0 P654829 F654830 gm_F654830 el_F654830 → rPh γ0 el0 f ≤ rPh gm_F654830 el_F654830 f → rBd gm_F654830 el_F654830 f B → gm_F654830 6 f = γ0 6 f → ((gm_F654830 7 f : Nat) : Int) = (fI (F654830 q632291) 11).toInt → ((gm_F654830 16 f : Nat) : Int) + 2001 ≤ (B : Int) + (fI (F654830 q632291) 14).toInt → 100 ≤ (fI (F654830 q632291) 14).toInt → rNI gm_F654830 el_F654830 F654830 q632292 (gm_F654830 6 f) (fI (F654830 q632291) 11).toInt → mKp (F632290 q632291) (F654830 q632291) → (∀ (k : Nat) (e1 : Nat → va_E) (e2 : List Nat) (e3 : Nat → Nat → Nat) (e4 : Nat → Nat → Nat) (e5 : Int32), tl_RModel_giveAll_28 D I γ0 el0 f P632289 F632290 q632291 q632292 p632293 P654829 F654830 gm_F654830 el_F654830 g654828 k e1 e2 e3 e4 e5 → tl_RModel_giveAll_28 D I γ0 el0 f P632289 F632290 q632291 q632292 p632293 P632405 F632406 gm_F632406 el_F632406 (1 : Int32) k e1 e2 e3 e4 e5) → ((42 : Int) - g654828.toInt).toNat < n28_654840 → G (gV D I) l (gRm 10 224 (((387 * B + 6000) - rPh γ0 el0 f) / 18) ((387 * B + 6000) - rPh γ0 el0 f)) (gMA (gV D I) (pg_632297_SpillForgeModel_giveAll D I γ0 el0 f B P632289 F632290 q632291 q632292 p632293) gNA (((387 * B + 6000) - rPh γ0 el0 f) / 18) ((387 * B + 6000) - rPh γ0 el0 f)) ky_632297_SpillForgeModel_giveAll 28 [(3, .int g654828), (0, .ref q632291), (1, .ref q632292), (2, .int p632293)] [] (va_pl P654829 F654830) ((rPh gm_F654830 el_F654830 f - rPh γ0 el0 f) / 18) (rPh gm_F654830 el_F654830 f - rPh γ0 el0 f) := by
    intro n28_654840
    induction n28_654840 with
    | zero => intro P654829 F654830 gm_F654830 el_F654830 g654828 bg654828 hT654831 hs654832 hph654833 hB654834 x654835 x654836 x654837 x654838 x654839 x654840 kt28_654841 hm28_654840; exact absurd hm28_654840 (Nat.not_lt_zero _)
    | succ n28_654840 ih28_654840 =>
      intro P654829 F654830 gm_F654830 el_F654830 g654828 bg654828 hT654831 hs654832 hph654833 hB654834 x654835 x654836 x654837 x654838 x654839 x654840 kt28_654841 hm28_654840
      clear r632299 r632300 r632301 r632302 r632303 hr632408 hr632409 hph632417 pk632418 r632419
      have ht654842 : rKd gm_F654830 q632291 10 := rSk_k hs654832 hzq632291 (by decide) (by decide)
      have ht654843 : rKd gm_F654830 q632292 9 := rSk_k hs654832 hzq632292 (by decide) (by decide)
      have hf654844 : gm_F654830 1 q632292 = f := rSk_1 hs654832 hzq632292 (by decide) hf0
      have pk654845 : rPh gm_F654830 el_F654830 f ≤ 387 * B + 6000 := rm_pk (rM_ge hT654831 ht654843 hf654844).1 (rM_bd hB654834)
      have r654846 : 0 < gm_F654830 6 (gm_F654830 1 q632292) := by rw [hf654844]; omega
      have hm654847 : q632291 ∈ P654829 := RS_m hT654831 ht654842 (by decide)
      refine rk10_e (show rk_10 gm_F654830 (F654830 q632291) from RS_o hT654831 ht654842) (fun q654849 q654850 p654851 p654852 p654853 p654854 p654855 p654856 p654857 p654858 p654859 p654860 p654861 p654862 p654863 p654864 p654865 he654848 hB654892 ht654866 ht654867 ht654868 ht654869 ht654870 ht654871 ht654872 ht654873 ht654874 ht654875 ht654876 ht654877 ht654878 ht654879 ht654880 ht654881 ht654882 ht654883 ht654884 ht654885 ht654886 ht654887 ht654888 ht654889 hB654893 => ?_)
      have ac654894 : (fI (F654830 q632291) 11).toInt = p654853.toInt := by rw [he654848]; rfl
      have bp654853 : gB p654853 0 100 := (hB654892.2.2.1)
      have ac654895 : (fI (F654830 q632291) 14).toInt = p654856.toInt := by rw [he654848]; rfl
      have bp654856 : gB p654856 0 2000 := (hB654892.2.2.2.1)
      refine G_iload_n 0 dr_cX17_giveAll_28 rfl ?_
      refine G_bipush 40 dr_cX17_giveAll_29 (by decide +kernel) ?_
      refine G_icmp_gt 207 dr_cX17_giveAll_31 (by decide +kernel) (fun hc654896 => ?_) (fun hc654896 => ?_)
      · have r654897 : 40 < g654828.toInt := gj_ltL hc654896 (show Int32.toInt 40 = 40 by decide)
        have bg654828' : gB g654828 41 41 := ⟨by omega, by omega⟩
        have hx654898 : tl_RModel_giveAll_28 D I γ0 el0 f P632289 F632290 q632291 q632292 p632293 P632405 F632406 gm_F632406 el_F632406 (1 : Int32) 207 F654830 P654829 gm_F654830 el_F654830 (0 : Int32) := kt28_654841 207 F654830 P654829 gm_F654830 el_F654830 (0 : Int32) (fun R c1 c2 c3 c4 c5 => c1 P654829 F654830 gm_F654830 el_F654830 g654828 bg654828 hT654831 hs654832 x654835 x654836 x654838 x654839 x654840 r654897)
        refine G_iconst (-1) dr_cX17_giveAll_207 (by decide +kernel) ?_
        exact G_iretA dr_cX17_giveAll_208 rfl (show ((rPh gm_F654830 el_F654830 f - rPh γ0 el0 f) / 18) ≤ (((387 * B + 6000) - rPh γ0 el0 f) / 18) by omega) (show (rPh gm_F654830 el_F654830 f - rPh γ0 el0 f) ≤ ((387 * B + 6000) - rPh γ0 el0 f) by omega) ⟨P654829, F654830, gm_F654830, el_F654830, (-1), rfl, rfl, hs654832, ⟨by omega, by omega⟩, hB654834, (gB_w (gBl (show Int32.toInt (-1) = (-1) by decide)) (by decide) (by decide)), (by have qa0 : Int32.toInt (-1) = (-1) := (by decide); omega), x654840, (fun R c1 c2 c3 c4 => c1 gm_0 el_0 F632351 F632359 F632368 F632377 P632405 F632406 gm_F632406 el_F632406 F654830 P654829 gm_F654830 el_F654830 hγ0 hel0 n632353 fq632358 n632361 fq632367 n632370 fq632376 n632379 fq632385 hk632407 x632399 x632400 x632401 x632402 x632403 ht632404 hx654898)⟩
      · have r654899 : g654828.toInt ≤ 40 := gj_nltL hc654896 (show Int32.toInt 40 = 40 by decide)
        have bg654828' : gB g654828 1 40 := ⟨by omega, by omega⟩
        refine G_aload_n 2 dr_cX17_giveAll_34 rfl ?_
        have hm654905 : q632292 ∈ P654829 := RS_m hT654831 ht654843 (by decide)
        obtain ⟨q654907, q654908, p654909, p654910, he654906, ht654926, ht654911, ht654912, ht654913, ht654914, r654915, r654916, r654917, r654918, r654919, r654920, r654921, r654922, r654923, r654924, r654925⟩ := show rk_9 gm_F654830 el_F654830 q632292 (F654830 q632292) from RS_o hT654831 ht654843
        have bp654909 : gB p654909 0 1000000 := ⟨by omega, by omega⟩
        have bp654910 : gB p654910 0 1000000 := ⟨by omega, by omega⟩
        have hf654927 : gm_F654830 1 q654907 = f := (show gm_F654830 1 q654907 = gm_F654830 1 q632292 from ht654912).trans hf654844
        have hf654928 : gm_F654830 1 q654908 = f := (show gm_F654830 1 q654908 = gm_F654830 1 q632292 from ht654914).trans hf654844
        have r654929 : gm_F654830 6 (gm_F654830 1 q632292) = gm_F654830 6 f := by rw [hf654844]
        have r654930 : gm_F654830 16 (gm_F654830 1 q632292) = gm_F654830 16 f := by rw [hf654844]
        have r654931 : p654910.toInt = gm_F654830 6 f ∧ p654910.toInt ≤ 40 := by omega
        clear r654921
        refine Gw_callV (As := []) (gV_ok D I) (ct_7810_Code_countRows l hl0 D I gm_F654830 el_F654830 P654829 F654830 q632292 hT654831 ht654843 (by omega)) dr_cX17_giveAll_35 ⟨wr_10_229, wr_1_15, wr_10_232, by decide, rfl, (Nat.le_of_ble_eq_true rfl), (Nat.le_of_ble_eq_true rfl)⟩ wr_10_230 wr_10_231 hm654905 he654906 rfl (rm_zc pk654845) (rm_zs pk654845) (Nat.le_of_ble_eq_true rfl) (fun r654903 w654904 dc654900 ds654901 hp654902 => ?_) (fun _ _ _ _ _ z => z.elim)
        obtain ⟨o654932, rfl, rfl, hdc, hds, ht654933⟩ := hp654902
        have bo654932 := gB_any o654932
        change G _ _ _ _ _ _ _ (.int o654932 :: _) _ _ _
        refine G_widen (cs' := ((rPh gm_F654830 el_F654830 f - rPh γ0 el0 f) / 18)) (sl' := (rPh gm_F654830 el_F654830 f - rPh γ0 el0 f)) (rm_d0 hdc) (rm_d0 hds) ?_
        refine G_sipush 4000 dr_cX17_giveAll_38 (by decide +kernel) ?_
        refine G_icmp_le 46 dr_cX17_giveAll_41 (by decide +kernel) (fun hc654934 => ?_) (fun hc654934 => ?_)
        · have r654935 : o654932.toInt ≤ 4000 := gj_le hc654934 (show Int32.toInt 4000 = 4000 by decide)
          have bo654932' : gB o654932 (-2147483648) 4000 := ⟨by omega, by omega⟩
          refine G_aload_n 1 dr_cX17_giveAll_46 rfl ?_
          refine G_aload_n 2 dr_cX17_giveAll_47 rfl ?_
          refine G_iconst 0 dr_cX17_giveAll_48 (by decide +kernel) ?_
          refine Gw_callV (As := [.ref q632292, .int 0]) (gV_ok D I) (ct_277563_SpillForgeModel_graph l hl0 D I gm_F654830 el_F654830 P654829 F654830 q632291 q632292 0 hT654831 ht654842 ht654843 (gB_w (gBl (show Int32.toInt 0 = 0 by decide)) (by decide) (by decide)) (by omega)) dr_cX17_giveAll_49 ⟨wr_10_233, wr_1_14, wr_10_236, by decide, rfl, (Nat.le_of_ble_eq_true rfl), (Nat.le_of_ble_eq_true rfl)⟩ wr_10_235 wr_p_99 hm654847 he654848 rfl (rm_zc pk654845) (rm_zs pk654845) (Nat.le_of_ble_eq_true rfl) (fun r654939 w654940 dc654936 ds654937 hp654938 => ?_) (fun _ _ _ _ _ z => z.elim)
          obtain ⟨F654944, rfl, rfl, hT654945, hs654946, hdc, hds, x654941, x654942, ht654943⟩ := hp654938
          have he654947 : F654944 q632292 = .inr (18, [.ref q654907, .ref q654908, .int p654909, .int p654910]) := (hs654946 q632292 (rT0 ht654843 (by decide)) (rT1 ht654843 (by decide)) (rT2 ht654843 (by decide))).trans he654906
          have hs654948 := rSk_str hs654832 hT654945 hs654946 (by decide) (by decide) (by decide)
          have kp654949 : F654944 q632291 = F654830 q632291 := x654942
          have mk654950 : mKp (F632290 q632291) (F654944 q632291) := mKp_tr x654840 (mKp_eq x654942)
          have he654951 : F654944 q632291 = .inr (22, [.ref (gm_F654830 9 0), .ref (gm_F654830 9 1), .ref (gm_F654830 9 2), .ref (gm_F654830 9 3), .ref (gm_F654830 9 4), .ref (gm_F654830 9 5), .ref (gm_F654830 9 6), .ref (gm_F654830 9 7), .ref (gm_F654830 9 8), .int p654851, .int p654852, .int p654853, .int p654854, .int p654855, .int p654856, .ref (gm_F654830 9 15), .ref (gm_F654830 9 16), .ref (gm_F654830 9 17), .ref (gm_F654830 9 18), .ref (gm_F654830 9 19), .ref (gm_F654830 9 20), .ref (gm_F654830 9 21), .ref (gm_F654830 9 22), .int p654857, .int p654858, .int p654859, .int p654860, .int p654861, .ref q654849, .ref (gm_F654830 9 29), .int p654862, .ref (gm_F654830 9 31), .int p654863, .int p654864, .int p654865, .ref q654850]) := (x654942).trans he654848
          rw [show Int32.toInt 0 = 0 from by decide] at x654941
          change G _ _ _ _ _ _ _ _ _ _ _
          refine G_widen (cs' := ((rPh gm_F654830 el_F654830 f - rPh γ0 el0 f) / 18)) (sl' := (rPh gm_F654830 el_F654830 f - rPh γ0 el0 f)) (rm_d0 hdc) (rm_d0 hds) ?_
          have ni654952 : rNI gm_F654830 el_F654830 F654944 q632292 (gm_F654830 6 f) (fI (F654944 q632291) 11).toInt := rNI_s (rNI_str hT654831 ht654843 hf654844 hs654946 (by decide) x654839) (by rw [x654942])
          have gr654953 : rGr gm_F654830 el_F654830 F654944 q632292 (gm_F654830 6 f) (cB (F654944 (γ0 9 3))) (vA (gm_F654830 6 f)) := by have z := x654941 (by decide); rw [hf654844] at z; rw [← congrFun (rSk_9 hs654948) 3]; exact gq_str hT654831 ht654843 hf654844 hs654946 (by decide) z
          have ac654954 : (fI (F654944 q632291) 11).toInt = (fI (F654830 q632291) 11).toInt := by rw [kp654949]
          have ac654955 : (fI (F654944 q632291) 14).toInt = (fI (F654830 q632291) 14).toInt := by rw [kp654949]
          have hlp52_656463 : ∀ (n52_656463 : Nat) (P656451 : List Nat) (F656452 : Nat → va_E) (gm_F656452 el_F656452 : Nat → Nat → Nat) , RS D I P656451 F656452 gm_F656452 el_F656452 → rSk f [101] ([1, 3, 5, 6, 8, 9, 101] ++ npk) D I P632289 F632290 γ0 el0 P656451 F656452 gm_F656452 el_F656452 → rPh γ0 el0 f ≤ rPh gm_F656452 el_F656452 f → rBd gm_F656452 el_F656452 f B → gm_F656452 6 f = γ0 6 f → ((gm_F656452 7 f : Nat) : Int) = (fI (F656452 q632291) 11).toInt → ((gm_F656452 16 f : Nat) : Int) + 2001 ≤ (B : Int) + (fI (F656452 q632291) 14).toInt → 100 ≤ (fI (F656452 q632291) 14).toInt → rNI gm_F656452 el_F656452 F656452 q632292 (gm_F656452 6 f) (fI (F656452 q632291) 11).toInt → rGr gm_F656452 el_F656452 F656452 q632292 (gm_F656452 6 f) (cB (F656452 (γ0 9 3))) (vA (gm_F656452 6 f)) → mKp (F632290 q632291) (F656452 q632291) → (∀ (k : Nat) (e1 : Nat → va_E) (e2 : List Nat) (e3 : Nat → Nat → Nat) (e4 : Nat → Nat → Nat), tl_RModel_giveAll_52 D I γ0 el0 f P632289 F632290 q632291 q632292 p632293 P656451 F656452 gm_F656452 el_F656452 k e1 e2 e3 e4 → tl_RModel_giveAll_52 D I γ0 el0 f P632289 F632290 q632291 q632292 p632293 P654829 F654944 gm_F654830 el_F654830 k e1 e2 e3 e4) → rsum (fun i => gm_F656452 2 (gm_F656452 14 (el_F656452 (gm_F656452 14 q632292) i))) (gm_F656452 6 f) < n52_656463 → G (gV D I) l (gRm 10 224 (((387 * B + 6000) - rPh γ0 el0 f) / 18) ((387 * B + 6000) - rPh γ0 el0 f)) (gMA (gV D I) (pg_632297_SpillForgeModel_giveAll D I γ0 el0 f B P632289 F632290 q632291 q632292 p632293) gNA (((387 * B + 6000) - rPh γ0 el0 f) / 18) ((387 * B + 6000) - rPh γ0 el0 f)) ky_632297_SpillForgeModel_giveAll 52 [(3, .int g654828), (0, .ref q632291), (1, .ref q632292), (2, .int p632293)] [] (va_pl P656451 F656452) ((rPh gm_F656452 el_F656452 f - rPh γ0 el0 f) / 18) (rPh gm_F656452 el_F656452 f - rPh γ0 el0 f) := by
            intro n52_656463
            induction n52_656463 with
            | zero => intro P656451 F656452 gm_F656452 el_F656452 hT656453 hs656454 hph656455 hB656456 x656457 x656458 x656459 x656460 x656461 x656462 x656463 kt52_656464 hm52_656463; exact absurd hm52_656463 (Nat.not_lt_zero _)
            | succ n52_656463 ih52_656463 =>
              intro P656451 F656452 gm_F656452 el_F656452 hT656453 hs656454 hph656455 hB656456 x656457 x656458 x656459 x656460 x656461 x656462 x656463 kt52_656464 hm52_656463
              clear r654915 r654916 r654917 r654918 r654919 r654920 r654922 r654923 r654924 r654925 bp654909 bp654910 r654929 r654930 r654931
              have ht656465 : rKd gm_F656452 q632291 10 := rSk_k hs656454 hzq632291 (by decide) (by decide)
              have ht656466 : rKd gm_F656452 q632292 9 := rSk_k hs656454 hzq632292 (by decide) (by decide)
              have hf656467 : gm_F656452 1 q632292 = f := rSk_1 hs656454 hzq632292 (by decide) hf0
              have pk656468 : rPh gm_F656452 el_F656452 f ≤ 387 * B + 6000 := rm_pk (rM_ge hT656453 ht656466 hf656467).1 (rM_bd hB656456)
              have r656469 : 0 < gm_F656452 6 (gm_F656452 1 q632292) := by rw [hf656467]; omega
              have hm656470 : q632291 ∈ P656451 := RS_m hT656453 ht656465 (by decide)
              refine rk10_e (show rk_10 gm_F656452 (F656452 q632291) from RS_o hT656453 ht656465) (fun q656472 q656473 p656474 p656475 p656476 p656477 p656478 p656479 p656480 p656481 p656482 p656483 p656484 p656485 p656486 p656487 p656488 he656471 hB656515 ht656489 ht656490 ht656491 ht656492 ht656493 ht656494 ht656495 ht656496 ht656497 ht656498 ht656499 ht656500 ht656501 ht656502 ht656503 ht656504 ht656505 ht656506 ht656507 ht656508 ht656509 ht656510 ht656511 ht656512 hB656516 => ?_)
              have ac656517 : (fI (F656452 q632291) 11).toInt = p656476.toInt := by rw [he656471]; rfl
              have bp656476 : gB p656476 0 100 := (hB656515.2.2.1)
              have ac656518 : (fI (F656452 q632291) 14).toInt = p656479.toInt := by rw [he656471]; rfl
              have bp656479 : gB p656479 0 2000 := (hB656515.2.2.2.1)
              refine G_aload_n 1 dr_cX17_giveAll_52 rfl ?_
              refine G_aload_n 2 dr_cX17_giveAll_53 rfl ?_
              refine G_iload_n 3 dr_cX17_giveAll_54 rfl ?_
              have rg656519 := rM_ge hT656453 ht656466 hf656467
              have rm656520 := rM_bd hB656456
              have bd656521 := rBd_c hT656453 ht656466 hf656467 hB656456
              have rc656522 := rc_at hT656453 ht656466 hf656467
              refine Gw_callV (As := [.ref q632292, .int p632293]) (gV_ok D I) (cg_399053_SpillForgeModel_merge l hl0 D I gm_F656452 el_F656452 f B P656451 F656452 q632291 q632292 p632293 hT656453 ht656465 ht656466 hf656467 hB656456 hBk (by omega)) dr_cX17_giveAll_55 ⟨wr_11_8, wr_1_14, wr_11_11, by decide, rfl, (Nat.le_of_ble_eq_true rfl), (Nat.le_of_ble_eq_true rfl)⟩ wr_11_10 wr_p_101 hm656470 he656471 rfl (rm_gc hph656455 pk656468) (rm_gs hph656455 pk656468) (Nat.le_of_ble_eq_true rfl) (fun r656526 w656527 dc656523 ds656524 hp656525 => ?_) (fun _ _ _ _ _ z => z.elim)
              obtain ⟨P656540, F656541, gm_F656541, el_F656541, o656528, rfl, rfl, hk656542, ⟨hr656543, hr656544⟩, hB656545, bo656528, x656529, x656530, x656531, x656532, x656533, x656534, x656535, x656536, x656537, x656538, ht656539⟩ := hp656525
              have hT656546 := hk656542.1
              have hs656547 := rSk_tr hs656454 hk656542 (by decide) (by decide) (by decide)
              have ht656548 : rKd gm_F656541 q632291 10 := rSk_k hk656542 ht656465 (by decide) (by decide)
              have ht656549 : rKd gm_F656541 q632292 9 := rSk_k hk656542 ht656466 (by decide) (by decide)
              have hf656550 : gm_F656541 1 q632292 = f := rSk_1 hk656542 ht656466 (by decide) hf656467
              clear rg656519 rm656520 bd656521 rc656522
              have mk656551 : mKp (F632290 q632291) (F656541 q632291) := mKp_tr x656463 x656538
              have hph656552 : rPh γ0 el0 f ≤ rPh gm_F656541 el_F656541 f := rm_ph hph656455 hr656544
              have pk656553 : rPh gm_F656541 el_F656541 f ≤ 387 * B + 6000 := rm_pk (rM_ge hT656546 ht656549 hf656550).1 (rM_bd hB656545)
              change G _ _ _ _ _ _ _ (.int o656528 :: _) _ _ _
              refine G_widen (cs' := ((rPh gm_F656541 el_F656541 f - rPh γ0 el0 f) / 18)) (sl' := (rPh gm_F656541 el_F656541 f - rPh γ0 el0 f)) (rm_wc hph656455 hr656543) (rm_ws hph656455 hr656544) ?_
              have r656554 : 0 < gm_F656541 6 (gm_F656541 1 q632292) := by rw [hf656550]; omega
              have hm656555 : q632291 ∈ P656540 := RS_m hT656546 ht656548 (by decide)
              refine rk10_e (show rk_10 gm_F656541 (F656541 q632291) from RS_o hT656546 ht656548) (fun q656557 q656558 p656559 p656560 p656561 p656562 p656563 p656564 p656565 p656566 p656567 p656568 p656569 p656570 p656571 p656572 p656573 he656556 hB656600 ht656574 ht656575 ht656576 ht656577 ht656578 ht656579 ht656580 ht656581 ht656582 ht656583 ht656584 ht656585 ht656586 ht656587 ht656588 ht656589 ht656590 ht656591 ht656592 ht656593 ht656594 ht656595 ht656596 ht656597 hB656601 => ?_)
              have ac656602 : (fI (F656541 q632291) 11).toInt = p656561.toInt := by rw [he656556]; rfl
              have bp656561 : gB p656561 0 100 := (hB656600.2.2.1)
              have ac656603 : (fI (F656541 q632291) 14).toInt = p656564.toInt := by rw [he656556]; rfl
              have bp656564 : gB p656564 0 2000 := (hB656600.2.2.2.1)
              have ni656604 : rNI gm_F656541 el_F656541 F656541 q632292 (gm_F656541 6 f) (fI (F656541 q632291) 11).toInt := rNI_s (rNI_mg x656534 x656461) x656535
              refine G_if_eq 70 dr_cX17_giveAll_58 (by decide +kernel) (fun hc656605 => ?_) (fun hc656605 => ?_)
              · have r656606 : o656528.toInt = 0 := gj_eq hc656605 (show Int32.toInt 0 = 0 by decide)
                have bo656528' : gB o656528 0 0 := gB_t0 r656606
                have hx656607 : tl_RModel_giveAll_52 D I γ0 el0 f P632289 F632290 q632291 q632292 p632293 P654829 F654944 gm_F654830 el_F654830 70 F656541 P656540 gm_F656541 el_F656541 := kt52_656464 70 F656541 P656540 gm_F656541 el_F656541 (fun R c1 c2 => c1 P656451 F656452 gm_F656452 el_F656452 P656540 F656541 gm_F656541 el_F656541 o656528 hT656453 hs656454 x656457 x656458 x656460 x656461 x656462 x656463 hk656542 x656529 x656530 x656531 x656532 x656533 x656534 x656535 x656536 x656537 x656538 ht656539 r656606)
                have r656608 := x656537 (by omega)
                have gr656609 : rGr gm_F656541 el_F656541 F656541 q632292 (gm_F656541 6 f) (cB (F656541 (γ0 9 3))) (vA (gm_F656541 6 f)) := by rw [r656608.1, r656608.2.1, r656608.2.2]; exact x656462
                refine G_aload_n 1 dr_cX17_giveAll_70 rfl ?_
                refine G_aload_n 2 dr_cX17_giveAll_71 rfl ?_
                refine Gw_callV (As := [.ref q632292]) (gV_ok D I) (ct_410275_SpillForgeModel_weigh l hl0 D I gm_F656541 el_F656541 P656540 F656541 q632291 q632292 hT656546 ht656548 ht656549 (by omega)) dr_cX17_giveAll_72 ⟨wr_11_33, wr_1_14, wr_11_36, by decide, rfl, (Nat.le_of_ble_eq_true rfl), (Nat.le_of_ble_eq_true rfl)⟩ wr_11_35 wr_p_104 hm656555 he656556 rfl (rm_zc pk656553) (rm_zs pk656553) (Nat.le_of_ble_eq_true rfl) (fun r656613 w656614 dc656610 ds656611 hp656612 => ?_) (fun _ _ _ _ _ z => z.elim)
                obtain ⟨F656618, rfl, rfl, hT656619, hs656620, hdc, hds, x656615, x656616, ht656617⟩ := hp656612
                have hs656621 := rSk_str hs656547 hT656619 hs656620 (by decide) (by decide) (by decide)
                have kp656622 : F656618 q632291 = F656541 q632291 := x656615
                have kp656623 : F656618 (γ0 9 3) = F656541 (γ0 9 3) := (show F656618 (γ0 9 3) = F656541 (γ0 9 3) by rw [← congrFun (rSk_9 hs656621) 3]; exact x656616)
                have mk656624 : mKp (F632290 q632291) (F656618 q632291) := mKp_tr mk656551 (mKp_eq x656615)
                have he656625 : F656618 q632291 = .inr (22, [.ref (gm_F656541 9 0), .ref (gm_F656541 9 1), .ref (gm_F656541 9 2), .ref (gm_F656541 9 3), .ref (gm_F656541 9 4), .ref (gm_F656541 9 5), .ref (gm_F656541 9 6), .ref (gm_F656541 9 7), .ref (gm_F656541 9 8), .int p656559, .int p656560, .int p656561, .int p656562, .int p656563, .int p656564, .ref (gm_F656541 9 15), .ref (gm_F656541 9 16), .ref (gm_F656541 9 17), .ref (gm_F656541 9 18), .ref (gm_F656541 9 19), .ref (gm_F656541 9 20), .ref (gm_F656541 9 21), .ref (gm_F656541 9 22), .int p656565, .int p656566, .int p656567, .int p656568, .int p656569, .ref q656557, .ref (gm_F656541 9 29), .int p656570, .ref (gm_F656541 9 31), .int p656571, .int p656572, .int p656573, .ref q656558]) := (x656615).trans he656556
                change G _ _ _ _ _ _ _ _ _ _ _
                refine G_widen (cs' := ((rPh gm_F656541 el_F656541 f - rPh γ0 el0 f) / 18)) (sl' := (rPh gm_F656541 el_F656541 f - rPh γ0 el0 f)) (rm_d0 hdc) (rm_d0 hds) ?_
                have ni656626 : rNI gm_F656541 el_F656541 F656618 q632292 (gm_F656541 6 f) (fI (F656618 q632291) 11).toInt := rNI_s (rNI_str hT656546 ht656549 hf656550 hs656620 (by decide) ni656604) (by rw [x656615])
                have gr656627 : rGr gm_F656541 el_F656541 F656618 q632292 (gm_F656541 6 f) (cB (F656618 (γ0 9 3))) (vA (gm_F656541 6 f)) := by rw [← congrFun (rSk_9 hs656621) 3, x656616, congrFun (rSk_9 hs656621) 3]; exact gq_str hT656546 ht656549 hf656550 hs656620 (by decide) gr656609
                have ac656628 : (fI (F656618 q632291) 11).toInt = (fI (F656541 q632291) 11).toInt := by rw [kp656622]
                have ac656629 : (fI (F656618 q632291) 14).toInt = (fI (F656541 q632291) 14).toInt := by rw [kp656622]
                refine G_aload_n 1 dr_cX17_giveAll_75 rfl ?_
                refine G_iload_n 3 dr_cX17_giveAll_76 rfl ?_
                refine Gw_callV (As := [.int p632293]) (gV_ok D I) (ct_335990_SpillForgeModel_colours l hl0 D I gm_F656541 el_F656541 P656540 F656618 q632291 p632293 hT656619 ht656548 bp632293) dr_cX17_giveAll_77 ⟨wr_11_47, wr_1_14, wr_11_50, by decide, rfl, (Nat.le_of_ble_eq_true rfl), (Nat.le_of_ble_eq_true rfl)⟩ wr_11_49 wr_p_106 hm656555 he656625 rfl (rm_zc pk656553) (rm_zs pk656553) (Nat.le_of_ble_eq_true rfl) (fun r656633 w656634 dc656630 ds656631 hp656632 => ?_) (fun _ _ _ _ _ z => z.elim)
                obtain ⟨F656640, o656635, rfl, rfl, hT656641, hs656642, hdc, hds, bo656635, x656636, x656637, x656638, ht656639⟩ := hp656632
                have hs656643 := rSk_str hs656621 hT656641 hs656642 (by decide) (by decide) (by decide)
                have kp656644 : F656640 q632291 = F656541 q632291 := (x656637).trans kp656622
                have kp656645 : F656640 (γ0 9 3) = F656541 (γ0 9 3) := ((show F656640 (γ0 9 3) = F656618 (γ0 9 3) by rw [← congrFun (rSk_9 hs656643) 3]; exact x656638)).trans kp656623
                have mk656646 : mKp (F632290 q632291) (F656640 q632291) := mKp_tr mk656624 (mKp_eq x656637)
                have he656647 : F656640 q632291 = .inr (22, [.ref (gm_F656541 9 0), .ref (gm_F656541 9 1), .ref (gm_F656541 9 2), .ref (gm_F656541 9 3), .ref (gm_F656541 9 4), .ref (gm_F656541 9 5), .ref (gm_F656541 9 6), .ref (gm_F656541 9 7), .ref (gm_F656541 9 8), .int p656559, .int p656560, .int p656561, .int p656562, .int p656563, .int p656564, .ref (gm_F656541 9 15), .ref (gm_F656541 9 16), .ref (gm_F656541 9 17), .ref (gm_F656541 9 18), .ref (gm_F656541 9 19), .ref (gm_F656541 9 20), .ref (gm_F656541 9 21), .ref (gm_F656541 9 22), .int p656565, .int p656566, .int p656567, .int p656568, .int p656569, .ref q656557, .ref (gm_F656541 9 29), .int p656570, .ref (gm_F656541 9 31), .int p656571, .int p656572, .int p656573, .ref q656558]) := (x656637).trans he656625
                change G _ _ _ _ _ _ _ (.int o656635 :: _) _ _ _
                refine G_widen (cs' := ((rPh gm_F656541 el_F656541 f - rPh γ0 el0 f) / 18)) (sl' := (rPh gm_F656541 el_F656541 f - rPh γ0 el0 f)) (rm_d0 hdc) (rm_d0 hds) ?_
                have ni656648 : rNI gm_F656541 el_F656541 F656640 q632292 (gm_F656541 6 f) (fI (F656640 q632291) 11).toInt := rNI_s (rNI_str hT656619 ht656549 hf656550 hs656642 (by decide) ni656626) (by rw [x656637])
                have gr656649 : rGr gm_F656541 el_F656541 F656640 q632292 (gm_F656541 6 f) (cB (F656640 (γ0 9 3))) (vA (gm_F656541 6 f)) := by rw [← congrFun (rSk_9 hs656643) 3, x656638, congrFun (rSk_9 hs656643) 3]; exact gq_str hT656619 ht656549 hf656550 hs656642 (by decide) gr656627
                have ac656650 : (fI (F656640 q632291) 11).toInt = (fI (F656541 q632291) 11).toInt := by rw [kp656644]
                have ac656651 : (fI (F656640 q632291) 14).toInt = (fI (F656541 q632291) 14).toInt := by rw [kp656644]
                refine G_istore (L' := [(4, .int o656635), (3, .int g654828), (0, .ref q632291), (1, .ref q632292), (2, .int p632293)]) dr_cX17_giveAll_80 (Nat.le_of_ble_eq_true rfl) rfl ?_
                refine G_iload 0 dr_cX17_giveAll_82 rfl ?_
                refine G_if_ne 180 dr_cX17_giveAll_84 (by decide +kernel) (fun hc656652 => ?_) (fun hc656652 => ?_)
                · have r656653 : o656635.toInt ≠ 0 := gj_neq hc656652 (show Int32.toInt 0 = 0 by decide)
                  have bo656635' : gB o656635 1 2000 := ⟨by omega, by omega⟩
                  have ac656654 : (fI (F656640 q632291) 11).toInt = p656561.toInt := by rw [he656647]; rfl
                  have ac656655 : (fI (F656640 q632291) 14).toInt = p656564.toInt := by rw [he656647]; rfl
                  refine G_aload_n 2 dr_cX17_giveAll_180 rfl ?_
                  refine G_dup dr_cX17_giveAll_181 rfl ?_
                  have fq656656 : fI (F656640 q632291) 12 = p656562 := by rw [he656647]; rfl
                  refine Gp_get 12 hm656555 he656647 dr_cX17_giveAll_182 (gk_X17 D I) (Nat.le_of_ble_eq_true rfl) wr_7_86 rfl ?_
                  have bp656562 : gB p656562 (-2147483648) 2147483647 := (gB_any p656562)
                  refine G_iload 0 dr_cX17_giveAll_185 rfl ?_
                  refine G_iadd dr_cX17_giveAll_187 (G_nam fun z656657 hz656657 => ?_)
                  have bz656657 : gB z656657 (-2147483648) 2147483647 := gB_any z656657
                  refine Gp_put 12 hm656555 he656647 dr_cX17_giveAll_188 (gk_X17 D I) (Nat.le_of_ble_eq_true rfl) wr_7_86 rfl rfl rfl (Nat.le_of_ble_eq_true rfl) (fun F656658 e656659 n656660 => ?_)
                  have he656661 : F656658 q632291 = .inr (22, [.ref (gm_F656541 9 0), .ref (gm_F656541 9 1), .ref (gm_F656541 9 2), .ref (gm_F656541 9 3), .ref (gm_F656541 9 4), .ref (gm_F656541 9 5), .ref (gm_F656541 9 6), .ref (gm_F656541 9 7), .ref (gm_F656541 9 8), .int p656559, .int p656560, .int p656561, .int z656657, .int p656563, .int p656564, .ref (gm_F656541 9 15), .ref (gm_F656541 9 16), .ref (gm_F656541 9 17), .ref (gm_F656541 9 18), .ref (gm_F656541 9 19), .ref (gm_F656541 9 20), .ref (gm_F656541 9 21), .ref (gm_F656541 9 22), .int p656565, .int p656566, .int p656567, .int p656568, .int p656569, .ref q656557, .ref (gm_F656541 9 29), .int p656570, .ref (gm_F656541 9 31), .int p656571, .int p656572, .int p656573, .ref q656558]) := e656659
                  have mk656662 : mKp (F632290 q632291) (F656658 q632291) := mKp_tr mk656646 (by rw [he656647, he656661]; exact ⟨rfl, rfl⟩)
                  have kp656663 : F656658 (γ0 9 3) = F656541 (γ0 9 3) := (n656660 (γ0 9 3) (rn_ty (rSk_k hs656643 k0_3 (by decide) (by decide)) ht656548 (by decide))).trans kp656645
                  have kp656664 : F656658 (γ0 9 17) = F656640 (γ0 9 17) := n656660 (γ0 9 17) (rn_ty (rSk_k hs656643 k0_17 (by decide) (by decide)) ht656548 (by decide))
                  have fq656665 : F656658 q632291 = cF (F656640 q632291) 12 (.int z656657) := by rw [he656661, he656647]; rfl
                  have hT656666 : RS D I P656540 F656658 gm_F656541 el_F656541 := RS_set hT656641 n656660 ht656548 (by decide) ⟨q656557, q656558, p656559, p656560, p656561, z656657, p656563, p656564, p656565, p656566, p656567, p656568, p656569, p656570, p656571, p656572, p656573, he656661, ⟨(hB656600.1), (hB656600.2.1), bp656561, bp656564, (hB656600.2.2.2.2.1), (hB656600.2.2.2.2.2.1), (hB656600.2.2.2.2.2.2.1), (hB656600.2.2.2.2.2.2.2.1), (hB656600.2.2.2.2.2.2.2.2)⟩, ht656574, ht656575, ht656576, ht656577, ht656578, ht656579, ht656580, ht656581, ht656582, ht656583, ht656584, ht656585, ht656586, ht656587, ht656588, ht656589, ht656590, ht656591, ht656592, ht656593, ht656594, ht656595, ht656596, ht656597, hB656601⟩
                  have hs656667 := rSk_put hs656643 hT656666 n656660 ht656548 (by decide) (by decide) (Or.inr (Or.inr (by decide)))
                  have ac656668 : (fI (F656658 q632291) 11).toInt = p656561.toInt := by rw [he656661]; rfl
                  have ac656669 : (fI (F656658 q632291) 14).toInt = p656564.toInt := by rw [he656661]; rfl
                  have gr656671 := rNI_gr ni656648 gr656649
                  have p3656672 : (fI (F656658 q632291) 11).toInt + (rcn (cB (F656658 (γ0 9 3))) 100 : Nat) ≤ 100 := by rw [(n656660 (γ0 9 3) (rn_ty (rSk_k hs656667 k0_3 (by decide) (by decide)) ht656548 (by decide)))]; have z := gr656671.1; omega
                  have p4656673 : rPl gm_F656541 el_F656541 F656658 q632292 (gm_F656541 6 f) (fun _ _ => rNx (rSd (cB (F656658 (γ0 9 3))))) := by rw [(n656660 (γ0 9 3) (rn_ty (rSk_k hs656667 k0_3 (by decide) (by decide)) ht656548 (by decide)))]; exact rPl_fr hT656641 ht656549 hf656550 gr656671.2 (fun b hb _ => n656660 b (rn_ty (show rKd gm_F656541 b 1 from hb) ht656548 (by decide)))
                  refine G_aload_n 2 dr_cX17_giveAll_191 rfl ?_
                  refine G_aload_n 3 dr_cX17_giveAll_192 rfl ?_
                  have rg656674 := rM_ge hT656666 ht656549 hf656550
                  have rm656675 := rM_bd hB656545
                  have bd656676 := rBd_c hT656666 ht656549 hf656550 hB656545
                  have rc656677 := rc_at hT656666 ht656549 hf656550
                  refine Gw_callV (As := [.ref q632292]) (gV_ok D I) (cg_590262_SpillForgeModel_spill l hl0 D I gm_F656541 el_F656541 f B P656540 F656658 q632291 q632292 hT656666 ht656548 ht656549 hf656550 hB656545 hBk (by omega) (by omega) (by omega) (by rw [congrFun (rSk_9 hs656667) 3]; exact p3656672) (by rw [congrFun (rSk_9 hs656667) 3]; exact p4656673) (by omega)) dr_cX17_giveAll_193 ⟨wr_11_63, wr_1_14, wr_11_66, by decide, rfl, (Nat.le_of_ble_eq_true rfl), (Nat.le_of_ble_eq_true rfl)⟩ wr_11_65 wr_p_110 hm656555 he656661 rfl (rm_gc hph656552 pk656553) (rm_gs hph656552 pk656553) (Nat.le_of_ble_eq_true rfl) (fun r656681 w656682 dc656678 ds656679 hp656680 => ?_) (fun _ _ _ _ _ z => z.elim)
                  obtain ⟨P656689, F656690, gm_F656690, el_F656690, o656683, rfl, rfl, hk656691, ⟨hr656692, hr656693⟩, hB656694, bo656683, x656684, x656685, x656686, x656687, ht656688⟩ := hp656680
                  have hT656695 := hk656691.1
                  have hs656696 := rSk_tr hs656667 hk656691 (by decide) (by decide) (by decide)
                  have ht656697 : rKd gm_F656690 q632291 10 := rSk_k hk656691 ht656548 (by decide) (by decide)
                  have ht656698 : rKd gm_F656690 q632292 9 := rSk_k hk656691 ht656549 (by decide) (by decide)
                  have hf656699 : gm_F656690 1 q632292 = f := rSk_1 hk656691 ht656549 (by decide) hf656550
                  clear rg656674 rm656675 bd656676 rc656677
                  have mk656700 : mKp (F632290 q632291) (F656690 q632291) := mKp_tr mk656662 x656687
                  have hph656701 : rPh γ0 el0 f ≤ rPh gm_F656690 el_F656690 f := rm_ph hph656552 hr656693
                  have pk656702 : rPh gm_F656690 el_F656690 f ≤ 387 * B + 6000 := rm_pk (rM_ge hT656695 ht656698 hf656699).1 (rM_bd hB656694)
                  change G _ _ _ _ _ _ _ (.int o656683 :: _) _ _ _
                  refine G_widen (cs' := ((rPh gm_F656690 el_F656690 f - rPh γ0 el0 f) / 18)) (sl' := (rPh gm_F656690 el_F656690 f - rPh γ0 el0 f)) (rm_wc hph656552 hr656692) (rm_ws hph656552 hr656693) ?_
                  have r656703 : 0 < gm_F656690 6 (gm_F656690 1 q632292) := by rw [hf656699]; omega
                  have hm656704 : q632291 ∈ P656689 := RS_m hT656695 ht656697 (by decide)
                  refine rk10_e (show rk_10 gm_F656690 (F656690 q632291) from RS_o hT656695 ht656697) (fun q656706 q656707 p656708 p656709 p656710 p656711 p656712 p656713 p656714 p656715 p656716 p656717 p656718 p656719 p656720 p656721 p656722 he656705 hB656749 ht656723 ht656724 ht656725 ht656726 ht656727 ht656728 ht656729 ht656730 ht656731 ht656732 ht656733 ht656734 ht656735 ht656736 ht656737 ht656738 ht656739 ht656740 ht656741 ht656742 ht656743 ht656744 ht656745 ht656746 hB656750 => ?_)
                  have ac656751 : (fI (F656690 q632291) 11).toInt = p656710.toInt := by rw [he656705]; rfl
                  have bp656710 : gB p656710 0 100 := (hB656749.2.2.1)
                  have ac656752 : (fI (F656690 q632291) 14).toInt = p656713.toInt := by rw [he656705]; rfl
                  have bp656713 : gB p656713 0 2000 := (hB656749.2.2.2.1)
                  refine G_if_ne 201 dr_cX17_giveAll_196 (by decide +kernel) (fun hc656753 => ?_) (fun hc656753 => ?_)
                  · have r656754 : o656683.toInt ≠ 0 := gj_neq hc656753 (show Int32.toInt 0 = 0 by decide)
                    have bo656683' : gB o656683 1 1 := gB_t1 bo656683 r656754
                    have ni656755 := x656685.resolve_left (by omega)
                    clear x656685
                    obtain ⟨rni656755a, rni656755b, rni656755c, rni656755d, rni656755e, rni656755f⟩ := ni656755
                    obtain ⟨z656756, hz656756⟩ : ∃ z : Int32, z = g654828 + Int32.ofInt 1 := ⟨_, rfl⟩
                    have ez656756 : z656756.toInt = g654828.toInt + 1 := gI_inc hz656756 (by decide) bg654828' (by decide) (by decide)
                    have bz656756 : gB z656756 2 41 := ⟨by omega, by omega⟩
                    refine G_iinc (L' := [(3, .int z656756), (4, .int o656635), (0, .ref q632291), (1, .ref q632292), (2, .int p632293)]) z656756 1 dr_cX17_giveAll_201 rfl hz656756.symm (Nat.le_of_ble_eq_true rfl) rfl ?_
                    refine G_goto 28 dr_cX17_giveAll_204 (by decide +kernel) ?_
                    refine G_lv (L' := [(3, .int z656756), (0, .ref q632291), (1, .ref q632292), (2, .int p632293)]) [0, 2, 3, 4] rfl ?_
                    have ac656757 : (fI (F656690 q632291) 11).toInt = p656710.toInt := by rw [he656705]; rfl
                    have ac656758 : (fI (F656690 q632291) 14).toInt = p656713.toInt := by rw [he656705]; rfl
                    exact ih28_654840 P656689 F656690 gm_F656690 el_F656690 z656756 (gB_w bz656756 (by decide) (by decide)) hT656695 hs656696 hph656701 hB656694 (by omega) (by omega) (by omega) (by omega) rni656755f mk656700 (fun k e1 e2 e3 e4 e5 ht => kt28_654841 k e1 e2 e3 e4 e5 (fun R c1 c2 c3 c4 c5 => c2 P654829 F654830 gm_F654830 el_F654830 g654828 o654932 F654944 F656541 P656540 gm_F656541 el_F656541 F656618 o656635 F656640 p656562 z656657 F656658 P656689 F656690 gm_F656690 el_F656690 o656683 z656756 k e1 e2 e3 e4 e5 bg654828 hT654831 hs654832 x654835 x654836 x654838 x654839 x654840 r654899 ht654933 r654935 hT654945 hs654946 x654941 x654942 ht654943 hx656607 hT656619 hs656620 x656615 x656616 ht656617 bo656635 hT656641 hs656642 x656636 x656637 x656638 ht656639 r656653 fq656656 hz656657 n656660 fq656665 hk656691 x656684 x656686 x656687 ht656688 r656754 ez656756 (ht R c1 c2 c3 c4 c5))) (by omega)
                  · have r656759 : o656683.toInt = 0 := gj_eq hc656753 (show Int32.toInt 0 = 0 by decide)
                    have bo656683' : gB o656683 0 0 := gB_t0 r656759
                    have hx656760 : tl_RModel_giveAll_28 D I γ0 el0 f P632289 F632290 q632291 q632292 p632293 P632405 F632406 gm_F632406 el_F632406 (1 : Int32) 199 F656690 P656689 gm_F656690 el_F656690 (0 : Int32) := kt28_654841 199 F656690 P656689 gm_F656690 el_F656690 (0 : Int32) (fun R c1 c2 c3 c4 c5 => c3 P654829 F654830 gm_F654830 el_F654830 g654828 o654932 F654944 F656541 P656540 gm_F656541 el_F656541 F656618 o656635 F656640 p656562 z656657 F656658 P656689 F656690 gm_F656690 el_F656690 o656683 bg654828 hT654831 hs654832 x654835 x654836 x654838 x654839 x654840 r654899 ht654933 r654935 hT654945 hs654946 x654941 x654942 ht654943 hx656607 hT656619 hs656620 x656615 x656616 ht656617 bo656635 hT656641 hs656642 x656636 x656637 x656638 ht656639 r656653 fq656656 hz656657 n656660 fq656665 hk656691 x656684 x656686 x656687 ht656688 r656759)
                    refine G_iconst (-1) dr_cX17_giveAll_199 (by decide +kernel) ?_
                    exact G_iretA dr_cX17_giveAll_200 rfl (show ((rPh gm_F656690 el_F656690 f - rPh γ0 el0 f) / 18) ≤ (((387 * B + 6000) - rPh γ0 el0 f) / 18) by omega) (show (rPh gm_F656690 el_F656690 f - rPh γ0 el0 f) ≤ ((387 * B + 6000) - rPh γ0 el0 f) by omega) ⟨P656689, F656690, gm_F656690, el_F656690, (-1), rfl, rfl, hs656696, ⟨by omega, by omega⟩, hB656694, (gB_w (gBl (show Int32.toInt (-1) = (-1) by decide)) (by decide) (by decide)), (by have qa0 : Int32.toInt (-1) = (-1) := (by decide); omega), mk656700, (fun R c1 c2 c3 c4 => c2 gm_0 el_0 F632351 F632359 F632368 F632377 P632405 F632406 gm_F632406 el_F632406 F656690 P656689 gm_F656690 el_F656690 hγ0 hel0 n632353 fq632358 n632361 fq632367 n632370 fq632376 n632379 fq632385 hk632407 x632399 x632400 x632401 x632402 x632403 ht632404 hx656760)⟩
                · have r656761 : o656635.toInt = 0 := gj_eq hc656652 (show Int32.toInt 0 = 0 by decide)
                  have bo656635' : gB o656635 0 0 := ⟨by omega, by omega⟩
                  have hx656762 : tl_RModel_giveAll_28 D I γ0 el0 f P632289 F632290 q632291 q632292 p632293 P632405 F632406 gm_F632406 el_F632406 (1 : Int32) 87 F656640 P656540 gm_F656541 el_F656541 g654828 := kt28_654841 87 F656640 P656540 gm_F656541 el_F656541 g654828 (fun R c1 c2 c3 c4 c5 => c4 P654829 F654830 gm_F654830 el_F654830 g654828 o654932 F654944 F656541 P656540 gm_F656541 el_F656541 F656618 o656635 F656640 bg654828 hT654831 hs654832 x654835 x654836 x654838 x654839 x654840 r654899 ht654933 r654935 hT654945 hs654946 x654941 x654942 ht654943 hx656607 hT656619 hs656620 x656615 x656616 ht656617 bo656635 hT656641 hs656642 x656636 x656637 x656638 ht656639 r656761)
                  have cq656763 : rPl gm_F656541 el_F656541 F656640 q632292 (gm_F656541 6 f) (cqR (cB (F656640 (γ0 9 17))) 0 0) := cq_0 gr656649 (fun m hm => by have z := x656636 (by omega); rw [congrFun (rSk_9 hs656643) 3, congrFun (rSk_9 hs656643) 17] at z; exact z m hm)
                  refine G_iconst 0 dr_cX17_giveAll_87 (by decide +kernel) ?_
                  refine G_istore (L' := [(5, .int 0), (4, .int o656635), (3, .int g654828), (0, .ref q632291), (1, .ref q632292), (2, .int p632293)]) dr_cX17_giveAll_88 (Nat.le_of_ble_eq_true rfl) rfl ?_
                  have hlp90_657371 : ∀ (n90_657371 : Nat) (P657359 : List Nat) (F657360 : Nat → va_E) (gm_F657360 el_F657360 : Nat → Nat → Nat) (g657358 : Int32), gB g657358 0 1000000 → RS D I P657359 F657360 gm_F657360 el_F657360 → rSk f [101] ([1, 3, 5, 6, 8, 9, 101] ++ npk) D I P632289 F632290 γ0 el0 P657359 F657360 gm_F657360 el_F657360 → rPh γ0 el0 f ≤ rPh gm_F657360 el_F657360 f → rBd gm_F657360 el_F657360 f B → gm_F657360 6 f = γ0 6 f → ((gm_F657360 7 f : Nat) : Int) = (fI (F657360 q632291) 11).toInt → ((gm_F657360 16 f : Nat) : Int) + 2001 ≤ (B : Int) + (fI (F657360 q632291) 14).toInt → 100 ≤ (fI (F657360 q632291) 14).toInt → (F657360 (γ0 9 17) = F656640 (γ0 9 17)) → rPl gm_F657360 el_F657360 F657360 q632292 (gm_F657360 6 f) (cqR (cB (F656640 (γ0 9 17))) (g657358.toInt : Int).toNat 0) → mKp (F632290 q632291) (F657360 q632291) → (∀ (k : Nat) (e1 : Nat → va_E) (e2 : List Nat) (e3 : Nat → Nat → Nat) (e4 : Nat → Nat → Nat), tl_RModel_giveAll_90 D I γ0 el0 f P632289 F632290 q632291 F656640 q632292 P657359 F657360 gm_F657360 el_F657360 g657358 k e1 e2 e3 e4 → tl_RModel_giveAll_90 D I γ0 el0 f P632289 F632290 q632291 F656640 q632292 P656540 F656640 gm_F656541 el_F656541 (0 : Int32) k e1 e2 e3 e4) → ((1000001 : Int) - g657358.toInt).toNat < n90_657371 → G (gV D I) l (gRm 10 224 (((387 * B + 6000) - rPh γ0 el0 f) / 18) ((387 * B + 6000) - rPh γ0 el0 f)) (gMA (gV D I) (pg_632297_SpillForgeModel_giveAll D I γ0 el0 f B P632289 F632290 q632291 q632292 p632293) gNA (((387 * B + 6000) - rPh γ0 el0 f) / 18) ((387 * B + 6000) - rPh γ0 el0 f)) ky_632297_SpillForgeModel_giveAll 90 [(5, .int g657358), (4, .int o656635), (3, .int g654828), (0, .ref q632291), (1, .ref q632292), (2, .int p632293)] [] (va_pl P657359 F657360) ((rPh gm_F657360 el_F657360 f - rPh γ0 el0 f) / 18) (rPh gm_F657360 el_F657360 f - rPh γ0 el0 f) := by
                    intro n90_657371
                    induction n90_657371 with
                    | zero => intro P657359 F657360 gm_F657360 el_F657360 g657358 bg657358 hT657361 hs657362 hph657363 hB657364 x657365 x657366 x657367 x657368 x657369 x657370 x657371 kt90_657372 hm90_657371; exact absurd hm90_657371 (Nat.not_lt_zero _)
                    | succ n90_657371 ih90_657371 =>
                      intro P657359 F657360 gm_F657360 el_F657360 g657358 bg657358 hT657361 hs657362 hph657363 hB657364 x657365 x657366 x657367 x657368 x657369 x657370 x657371 kt90_657372 hm90_657371
                      clear hr656543 hr656544 hph656552 pk656553 r656554 r656608
                      have ht657373 : rKd gm_F657360 q632291 10 := rSk_k hs657362 hzq632291 (by decide) (by decide)
                      have ht657374 : rKd gm_F657360 q632292 9 := rSk_k hs657362 hzq632292 (by decide) (by decide)
                      have hf657375 : gm_F657360 1 q632292 = f := rSk_1 hs657362 hzq632292 (by decide) hf0
                      have pk657376 : rPh gm_F657360 el_F657360 f ≤ 387 * B + 6000 := rm_pk (rM_ge hT657361 ht657374 hf657375).1 (rM_bd hB657364)
                      have r657377 : 0 < gm_F657360 6 (gm_F657360 1 q632292) := by rw [hf657375]; omega
                      have hm657378 : q632291 ∈ P657359 := RS_m hT657361 ht657373 (by decide)
                      refine rk10_e (show rk_10 gm_F657360 (F657360 q632291) from RS_o hT657361 ht657373) (fun q657380 q657381 p657382 p657383 p657384 p657385 p657386 p657387 p657388 p657389 p657390 p657391 p657392 p657393 p657394 p657395 p657396 he657379 hB657423 ht657397 ht657398 ht657399 ht657400 ht657401 ht657402 ht657403 ht657404 ht657405 ht657406 ht657407 ht657408 ht657409 ht657410 ht657411 ht657412 ht657413 ht657414 ht657415 ht657416 ht657417 ht657418 ht657419 ht657420 hB657424 => ?_)
                      have ac657425 : (fI (F657360 q632291) 11).toInt = p657384.toInt := by rw [he657379]; rfl
                      have bp657384 : gB p657384 0 100 := (hB657423.2.2.1)
                      have ac657426 : (fI (F657360 q632291) 14).toInt = p657387.toInt := by rw [he657379]; rfl
                      have bp657387 : gB p657387 0 2000 := (hB657423.2.2.2.1)
                      refine G_iload 0 dr_cX17_giveAll_90 rfl ?_
                      refine G_aload_n 4 dr_cX17_giveAll_92 rfl ?_
                      have hm657427 : q632292 ∈ P657359 := RS_m hT657361 ht657374 (by decide)
                      obtain ⟨q657429, q657430, p657431, p657432, he657428, ht657448, ht657433, ht657434, ht657435, ht657436, r657437, r657438, r657439, r657440, r657441, r657442, r657443, r657444, r657445, r657446, r657447⟩ := show rk_9 gm_F657360 el_F657360 q632292 (F657360 q632292) from RS_o hT657361 ht657374
                      have bp657431 : gB p657431 0 1000000 := ⟨by omega, by omega⟩
                      have bp657432 : gB p657432 0 1000000 := ⟨by omega, by omega⟩
                      have hf657449 : gm_F657360 1 q657429 = f := (show gm_F657360 1 q657429 = gm_F657360 1 q632292 from ht657434).trans hf657375
                      have hf657450 : gm_F657360 1 q657430 = f := (show gm_F657360 1 q657430 = gm_F657360 1 q632292 from ht657436).trans hf657375
                      have r657451 : gm_F657360 6 (gm_F657360 1 q632292) = gm_F657360 6 f := by rw [hf657375]
                      have r657452 : gm_F657360 16 (gm_F657360 1 q632292) = gm_F657360 16 f := by rw [hf657375]
                      have r657453 : p657432.toInt = gm_F657360 6 f ∧ p657432.toInt ≤ 40 := by omega
                      clear r657443
                      have fq657454 : fI (F657360 q632292) 3 = p657432 := by rw [he657428]; rfl
                      refine Gw_callV (As := []) (gV_ok D I) (cp_12780_Code_size l hl0 D I P657359 F657360 q632292 q657429 q657430 p657431 p657432 hm657427 he657428) dr_cX17_giveAll_93 ⟨wr_10_160, wr_1_15, wr_9_131, by decide, rfl, (Nat.le_of_ble_eq_true rfl), (Nat.le_of_ble_eq_true rfl)⟩ wr_9_129 wr_9_130 hm657427 he657428 rfl (rm_zc pk657376) (rm_zs pk657376) (Nat.le_of_ble_eq_true rfl) (fun r657458 w657459 dc657455 ds657456 hp657457 => ?_) (fun _ _ _ _ _ z => z.elim)
                      obtain ⟨rfl, rfl, hdc, hds⟩ := hp657457
                      change G _ _ _ _ _ _ _ (.int p657432 :: _) _ _ _
                      refine G_widen (cs' := ((rPh gm_F657360 el_F657360 f - rPh γ0 el0 f) / 18)) (sl' := (rPh gm_F657360 el_F657360 f - rPh γ0 el0 f)) (rm_d0 hdc) (rm_d0 hds) ?_
                      refine G_icmp_ge 173 dr_cX17_giveAll_96 (by decide +kernel) (fun hc657460 => ?_) (fun hc657460 => ?_)
                      · have r657461 : p657432.toInt ≤ g657358.toInt := gC_le hc657460
                        have hx657462 : tl_RModel_giveAll_90 D I γ0 el0 f P632289 F632290 q632291 F656640 q632292 P656540 F656640 gm_F656541 el_F656541 (0 : Int32) 173 F657360 P657359 gm_F657360 el_F657360 := kt90_657372 173 F657360 P657359 gm_F657360 el_F657360 (fun R c1 c2 => c1 P657359 F657360 gm_F657360 el_F657360 g657358 p657432 bg657358 hT657361 hs657362 x657365 x657366 x657368 x657369 x657370 x657371 fq657454 r657461)
                        have r657463 : gm_F657360 7 (gm_F657360 1 q632292) = gm_F657360 7 f := by rw [hf657375]
                        have ac657464 : (fI (F657360 q632291) 11).toInt = p657384.toInt := by rw [he657379]; rfl
                        have ac657465 : (fI (F657360 q632291) 14).toInt = p657387.toInt := by rw [he657379]; rfl
                        refine G_aload_n 3 dr_cX17_giveAll_173 rfl ?_
                        refine G_aload_n 4 dr_cX17_giveAll_174 rfl ?_
                        refine Gw_callV (As := [.ref q632292]) (gV_ok D I) (ct_344961_SpillForgeModel_share l hl0 D I gm_F657360 el_F657360 P657359 F657360 q632291 q632292 hT657361 ht657373 ht657374 (by omega) (by omega)) dr_cX17_giveAll_175 ⟨wr_11_59, wr_1_14, wr_11_62, by decide, rfl, (Nat.le_of_ble_eq_true rfl), (Nat.le_of_ble_eq_true rfl)⟩ wr_11_61 wr_p_109 hm657378 he657379 rfl (rm_zc pk657376) (rm_zs pk657376) (Nat.le_of_ble_eq_true rfl) (fun r657469 w657470 dc657466 ds657467 hp657468 => ?_) (fun _ _ _ _ _ z => z.elim)
                        obtain ⟨F657474, rfl, rfl, hT657475, hs657476, hdc, hds, x657471, x657472, ht657473⟩ := hp657468
                        have he657477 : F657474 q632292 = .inr (18, [.ref q657429, .ref q657430, .int p657431, .int p657432]) := (hs657476 q632292 (rT0 ht657374 (by decide)) (rT1 ht657374 (by decide)) (rT2 ht657374 (by decide))).trans he657428
                        have hs657478 := rSk_str hs657362 hT657475 hs657476 (by decide) (by decide) (by decide) (Or.inr (rFs_e x657471 hf657375))
                        have mk657479 : mKp (F632290 q632291) (F657474 q632291) := mKp_tr x657371 x657472
                        change G _ _ _ _ _ _ _ _ _ _ _
                        refine G_widen (cs' := ((rPh gm_F657360 el_F657360 f - rPh γ0 el0 f) / 18)) (sl' := (rPh gm_F657360 el_F657360 f - rPh γ0 el0 f)) (rm_d0 hdc) (rm_d0 hds) ?_
                        refine G_iload_n 2 dr_cX17_giveAll_178 rfl ?_
                        exact G_iretA dr_cX17_giveAll_179 rfl (show ((rPh gm_F657360 el_F657360 f - rPh γ0 el0 f) / 18) ≤ (((387 * B + 6000) - rPh γ0 el0 f) / 18) by omega) (show (rPh gm_F657360 el_F657360 f - rPh γ0 el0 f) ≤ ((387 * B + 6000) - rPh γ0 el0 f) by omega) ⟨P657359, F657474, gm_F657360, el_F657360, g654828, rfl, rfl, hs657478, ⟨by omega, by omega⟩, hB657364, (gB_w bg654828' (by decide) (by decide)), (by omega), mk657479, (fun R c1 c2 c3 c4 => c3 gm_0 el_0 F632351 F632359 F632368 F632377 P632405 F632406 gm_F632406 el_F632406 F656640 P656540 gm_F656541 el_F656541 g654828 F657360 P657359 gm_F657360 el_F657360 F657474 hγ0 hel0 n632353 fq632358 n632361 fq632367 n632370 fq632376 n632379 fq632385 hk632407 x632399 x632400 x632401 x632402 x632403 ht632404 hx656762 hx657462 hT657475 hs657476 x657471 x657472 ht657473)⟩
                      · have r657480 : g657358.toInt < p657432.toInt := gC_nle hc657460
                        have bg657358' : gB g657358 0 999999 := ⟨by omega, by omega⟩
                        have bp657432' : gB p657432 1 1000000 := ⟨by omega, by omega⟩
                        refine G_aload_n 4 dr_cX17_giveAll_99 rfl ?_
                        refine G_iload 0 dr_cX17_giveAll_100 rfl ?_
                        have hm657481 : q657429 ∈ P657359 := RS_m hT657361 ht657433 (by decide)
                        obtain ⟨⟨p657483, p657484, q657485, he657482, r657486, r657487, r657488, r657490⟩, r657489⟩ := show rk_4 D I gm_F657360 el_F657360 F657360 q657429 from RS_o hT657361 ht657433
                        have bp657483 := gB_any p657483
                        have bp657484 : gB p657484 0 1000000 := ⟨by omega, by omega⟩
                        obtain ⟨r657491, r657492, n657499, f657500, r657493, r657494, r657495, r657496, r657497, r657498⟩ := rLC_n r657488 (by omega)
                        have hm657501 : q657485 ∈ P657359 := RS_m hT657361 r657491 (by decide)
                        obtain ⟨q657502, hx657503⟩ : ∃ x, x = el_F657360 q657429 g657358.toInt.toNat := ⟨_, rfl⟩
                        have fq657507 : fR (F657360 q632292) 0 = q657429 := by rw [he657428]; rfl
                        have hx657504 : f657500 g657358.toNatClampNeg = some q657502 := (r657497 _ (show g657358.toInt.toNat < gm_F657360 2 q657429 by first | assumption | omega)).trans (by rw [hx657503])
                        have ht657508 : rKd gm_F657360 q657502 2 := by rw [hx657503]; exact (r657444 _ (by omega)).resolve_right (fun z => absurd z.1 (by omega))
                        have ht657509 : rFm gm_F657360 q657502 q657429 := by rw [hx657503]; exact (r657489 _ (show g657358.toInt.toNat < gm_F657360 2 q657429 by omega)).2.1
                        have hm657510 : q657502 ∈ P657359 := RS_m hT657361 ht657508 (by decide)
                        obtain ⟨q657512, q657513, p657514, p657515, he657511, ht657522, ht657516, ht657517, ht657518, ht657519, ht657520, bp657514, bp657515, r657521, r657523, r657524⟩ := show rk_2 gm_F657360 q657502 (F657360 q657502) from RS_o hT657361 ht657508
                        have fq657525 : fI (F657360 q657429) 2 = p657484 := by rw [he657482]; rfl
                        refine Gw_callV (As := [.int g657358]) (gV_ok D I) (cp_7901_Code_get l hl0 D I P657359 F657360 q632292 q657429 q657485 g657358 q657430 p657431 p657432 p657483 p657484 f657500 n657499 q657502 q657512 q657513 p657514 p657515 hm657427 hm657481 hm657501 hm657510 he657428 he657482 r657493 he657511 (gB_w bg657358' (by decide) (by decide)) (gB_w bp657484 (by decide) (by decide)) (by omega) (by omega) (by assumption) (by omega)) dr_cX17_giveAll_102 ⟨wr_10_161, wr_1_15, wr_10_141, by decide, rfl, (Nat.le_of_ble_eq_true rfl), (Nat.le_of_ble_eq_true rfl)⟩ wr_10_139 wr_10_140 hm657427 he657428 rfl (rm_zc pk657376) (rm_zs pk657376) (Nat.le_of_ble_eq_true rfl) (fun r657529 w657530 dc657526 ds657527 hp657528 => ?_) (fun _ _ _ _ _ z => z.elim)
                        obtain ⟨rfl, rfl, hdc, hds, ht657531⟩ := hp657528
                        change G _ _ _ _ _ _ _ (.ref q657502 :: _) _ _ _
                        refine G_widen (cs' := ((rPh gm_F657360 el_F657360 f - rPh γ0 el0 f) / 18)) (sl' := (rPh gm_F657360 el_F657360 f - rPh γ0 el0 f)) (rm_d0 hdc) (rm_d0 hds) ?_
                        have hf657532 : gm_F657360 1 q657502 = f := (show gm_F657360 1 q657502 = gm_F657360 1 q657429 from ht657509).trans ((show gm_F657360 1 q657429 = gm_F657360 1 q632292 from ht657434).trans hf657375)
                        have hf657533 : gm_F657360 1 q657512 = f := (show gm_F657360 1 q657512 = gm_F657360 1 q657502 from ht657517).trans hf657532
                        have hf657534 : gm_F657360 1 q657513 = f := (show gm_F657360 1 q657513 = gm_F657360 1 q657502 from ht657519).trans hf657532
                        have r657535 : gm_F657360 6 (gm_F657360 1 q657502) = gm_F657360 6 f := by rw [hf657532]
                        have r657536 : gm_F657360 7 (gm_F657360 1 q657502) = gm_F657360 7 f := by rw [hf657532]
                        have r657537 : gm_F657360 19 (gm_F657360 1 q657502) = gm_F657360 19 f := by rw [hf657532]
                        have r657538 := r657521.resolve_left (by omega)
                        clear r657521
                        have r657539 : gm_F657360 2 (gm_F657360 14 q657502) = gm_F657360 2 q657512 := by rw [ht657522.1]
                        have r657540 : g657358.toInt.toNat < gm_F657360 2 (gm_F657360 14 q632292) := by rw [ht657448.1]; omega
                        have r657541 : el_F657360 (gm_F657360 14 q632292) g657358.toInt.toNat = q657502 := by rw [ht657448.1, hx657503]
                        refine G_astore (L' := [(6, .ref q657502), (5, .int g657358), (4, .int o656635), (3, .int g654828), (0, .ref q632291), (1, .ref q632292), (2, .int p632293)]) dr_cX17_giveAll_105 (Nat.le_of_ble_eq_true rfl) rfl ?_
                        refine G_iconst 0 dr_cX17_giveAll_107 (by decide +kernel) ?_
                        refine G_istore (L' := [(7, .int 0), (6, .ref q657502), (5, .int g657358), (4, .int o656635), (3, .int g654828), (0, .ref q632291), (1, .ref q632292), (2, .int p632293)]) dr_cX17_giveAll_108 (Nat.le_of_ble_eq_true rfl) rfl ?_
                        have hlp110_657767 : ∀ (n110_657767 : Nat) (P657749 : List Nat) (F657750 : Nat → va_E) (gm_F657750 el_F657750 : Nat → Nat → Nat) (g657748 : Int32), gB g657748 0 1000001 → RS D I P657749 F657750 gm_F657750 el_F657750 → rSk f [101] ([1, 3, 5, 6, 8, 9, 101] ++ npk) D I P632289 F632290 γ0 el0 P657749 F657750 gm_F657750 el_F657750 → rPh γ0 el0 f ≤ rPh gm_F657750 el_F657750 f → rBd gm_F657750 el_F657750 f B → rKd gm_F657750 q657502 2 → gm_F657750 1 q657502 = f → g657358.toInt.toNat < gm_F657750 2 (gm_F657750 14 q632292) → el_F657750 (gm_F657750 14 q632292) g657358.toInt.toNat = q657502 → gm_F657750 6 f = γ0 6 f → ((gm_F657750 7 f : Nat) : Int) = (fI (F657750 q632291) 11).toInt → ((gm_F657750 16 f : Nat) : Int) + 2001 ≤ (B : Int) + (fI (F657750 q632291) 14).toInt → 100 ≤ (fI (F657750 q632291) 14).toInt → (F657750 (γ0 9 17) = F656640 (γ0 9 17)) → rPl gm_F657750 el_F657750 F657750 q632292 (gm_F657750 6 f) (cqR (cB (F656640 (γ0 9 17))) (g657358.toInt : Int).toNat (g657748.toInt : Int).toNat) → (g657748.toInt : Int) ≤ gm_F657750 2 (gm_F657750 14 q657502) + 1 → (g657358.toInt : Int) < gm_F657750 6 f → mKp (F632290 q632291) (F657750 q632291) → (∀ (k : Nat) (e1 : Nat → va_E) (e2 : List Nat) (e3 : Nat → Nat → Nat) (e4 : Nat → Nat → Nat), tl_RModel_giveAll_110 D I γ0 el0 f P632289 F632290 q632291 F656640 q632292 g657358 q657502 P657749 F657750 gm_F657750 el_F657750 g657748 k e1 e2 e3 e4 → tl_RModel_giveAll_110 D I γ0 el0 f P632289 F632290 q632291 F656640 q632292 g657358 q657502 P657359 F657360 gm_F657360 el_F657360 (0 : Int32) k e1 e2 e3 e4) → ((1000002 : Int) - g657748.toInt).toNat < n110_657767 → G (gV D I) l (gRm 10 224 (((387 * B + 6000) - rPh γ0 el0 f) / 18) ((387 * B + 6000) - rPh γ0 el0 f)) (gMA (gV D I) (pg_632297_SpillForgeModel_giveAll D I γ0 el0 f B P632289 F632290 q632291 q632292 p632293) gNA (((387 * B + 6000) - rPh γ0 el0 f) / 18) ((387 * B + 6000) - rPh γ0 el0 f)) ky_632297_SpillForgeModel_giveAll 110 [(7, .int g657748), (6, .ref q657502), (5, .int g657358), (4, .int o656635), (3, .int g654828), (0, .ref q632291), (1, .ref q632292), (2, .int p632293)] [] (va_pl P657749 F657750) ((rPh gm_F657750 el_F657750 f - rPh γ0 el0 f) / 18) (rPh gm_F657750 el_F657750 f - rPh γ0 el0 f) := by
                          intro n110_657767
                          induction n110_657767 with
                          | zero => intro P657749 F657750 gm_F657750 el_F657750 g657748 bg657748 hT657751 hs657752 hph657753 hB657754 ht657755 hf657756 r657757 r657758 x657759 x657760 x657761 x657762 x657763 x657764 x657765 x657766 x657767 kt110_657768 hm110_657767; exact absurd hm110_657767 (Nat.not_lt_zero _)
                          | succ n110_657767 ih110_657767 =>
                            intro P657749 F657750 gm_F657750 el_F657750 g657748 bg657748 hT657751 hs657752 hph657753 hB657754 ht657755 hf657756 r657757 r657758 x657759 x657760 x657761 x657762 x657763 x657764 x657765 x657766 x657767 kt110_657768 hm110_657767
                            clear r657437 r657438 r657439 r657440 r657441 r657442 r657444 r657445 r657446 r657447 bp657431 bp657432 bp657514 bp657515 r657523 r657524 r657451 r657452 r657453 r657486 r657487 r657488 r657490 r657489 r657491 r657492 r657493 r657494 r657495 r657496 r657497 r657498 r657535 r657536 r657537 r657538 r657539 r657540 r657541
                            have ht657769 : rKd gm_F657750 q632291 10 := rSk_k hs657752 hzq632291 (by decide) (by decide)
                            have ht657770 : rKd gm_F657750 q632292 9 := rSk_k hs657752 hzq632292 (by decide) (by decide)
                            have hf657771 : gm_F657750 1 q632292 = f := rSk_1 hs657752 hzq632292 (by decide) hf0
                            have pk657772 : rPh gm_F657750 el_F657750 f ≤ 387 * B + 6000 := rm_pk (rM_ge hT657751 ht657770 hf657771).1 (rM_bd hB657754)
                            have r657773 : 0 < gm_F657750 6 (gm_F657750 1 q632292) := by rw [hf657771]; omega
                            have hm657774 : q632291 ∈ P657749 := RS_m hT657751 ht657769 (by decide)
                            refine rk10_e (show rk_10 gm_F657750 (F657750 q632291) from RS_o hT657751 ht657769) (fun q657776 q657777 p657778 p657779 p657780 p657781 p657782 p657783 p657784 p657785 p657786 p657787 p657788 p657789 p657790 p657791 p657792 he657775 hB657819 ht657793 ht657794 ht657795 ht657796 ht657797 ht657798 ht657799 ht657800 ht657801 ht657802 ht657803 ht657804 ht657805 ht657806 ht657807 ht657808 ht657809 ht657810 ht657811 ht657812 ht657813 ht657814 ht657815 ht657816 hB657820 => ?_)
                            have ac657821 : (fI (F657750 q632291) 11).toInt = p657780.toInt := by rw [he657775]; rfl
                            have bp657780 : gB p657780 0 100 := (hB657819.2.2.1)
                            have ac657822 : (fI (F657750 q632291) 14).toInt = p657783.toInt := by rw [he657775]; rfl
                            have bp657783 : gB p657783 0 2000 := (hB657819.2.2.2.1)
                            refine G_iload 0 dr_cX17_giveAll_110 rfl ?_
                            refine G_aload 1 dr_cX17_giveAll_112 rfl ?_
                            have hm657823 : q657502 ∈ P657749 := RS_m hT657751 ht657755 (by decide)
                            obtain ⟨q657825, q657826, p657827, p657828, he657824, ht657835, ht657829, ht657830, ht657831, ht657832, ht657833, bp657827, bp657828, r657834, r657836, r657837⟩ := show rk_2 gm_F657750 q657502 (F657750 q657502) from RS_o hT657751 ht657755
                            have hf657838 : gm_F657750 1 q657825 = f := (show gm_F657750 1 q657825 = gm_F657750 1 q657502 from ht657830).trans hf657756
                            have hf657839 : gm_F657750 1 q657826 = f := (show gm_F657750 1 q657826 = gm_F657750 1 q657502 from ht657832).trans hf657756
                            have r657840 : gm_F657750 6 (gm_F657750 1 q657502) = gm_F657750 6 f := by rw [hf657756]
                            have r657841 : gm_F657750 7 (gm_F657750 1 q657502) = gm_F657750 7 f := by rw [hf657756]
                            have r657842 : gm_F657750 19 (gm_F657750 1 q657502) = gm_F657750 19 f := by rw [hf657756]
                            have r657843 := r657834.resolve_left (by omega)
                            clear r657834
                            have r657844 : gm_F657750 2 (gm_F657750 14 q657502) = gm_F657750 2 q657825 := by rw [ht657835.1]
                            have fq657845 : fR (F657750 q657502) 0 = q657825 := by rw [he657824]; rfl
                            refine Gp_get 0 hm657823 he657824 dr_cX17_giveAll_114 (gk_X12 D I) (Nat.le_of_ble_eq_true rfl) wr_9_220 rfl ?_
                            have hm657846 : q657825 ∈ P657749 := RS_m hT657751 ht657829 (by decide)
                            obtain ⟨⟨p657848, p657849, q657850, he657847, r657851, r657852, r657853, r657855⟩, r657854⟩ := show rk_3 D I gm_F657750 el_F657750 F657750 q657825 from RS_o hT657751 ht657829
                            have bp657848 := gB_any p657848
                            have bp657849 : gB p657849 0 1000000 := ⟨by omega, by omega⟩
                            have fq657856 : p657849.toInt = (gm_F657750 2 q657825 : Int) := by omega
                            have fq657857 : fI (F657750 q657825) 2 = p657849 := by rw [he657847]; rfl
                            refine Gw_callV (As := []) (gV_ok D I) (cp_7_ArrayList_size l hl0 D I P657749 F657750 q657825 p657848 q657850 p657849 hm657846 he657847 (gB_w bp657849 (by decide) (by decide))) dr_cX17_giveAll_117 ⟨wr_10_200, wr_1_18, wr_9_160, by decide, rfl, (Nat.le_of_ble_eq_true rfl), (Nat.le_of_ble_eq_true rfl)⟩ wr_9_158 wr_9_159 hm657846 he657847 rfl (rm_zc pk657772) (rm_zs pk657772) (Nat.le_of_ble_eq_true rfl) (fun r657861 w657862 dc657858 ds657859 hp657860 => ?_) (fun _ _ _ _ _ z => z.elim)
                            obtain ⟨rfl, rfl, hdc, hds⟩ := hp657860
                            change G _ _ _ _ _ _ _ (.int p657849 :: _) _ _ _
                            refine G_widen (cs' := ((rPh gm_F657750 el_F657750 f - rPh γ0 el0 f) / 18)) (sl' := (rPh gm_F657750 el_F657750 f - rPh γ0 el0 f)) (rm_d0 hdc) (rm_d0 hds) ?_
                            refine G_icmp_gt 167 dr_cX17_giveAll_120 (by decide +kernel) (fun hc657863 => ?_) (fun hc657863 => ?_)
                            · have r657864 : p657849.toInt < g657748.toInt := gC_lt hc657863
                              have bg657748' : gB g657748 1 1000001 := ⟨by omega, by omega⟩
                              have hx657865 : tl_RModel_giveAll_110 D I γ0 el0 f P632289 F632290 q632291 F656640 q632292 g657358 q657502 P657359 F657360 gm_F657360 el_F657360 (0 : Int32) 167 F657750 P657749 gm_F657750 el_F657750 := kt110_657768 167 F657750 P657749 gm_F657750 el_F657750 (fun R c1 c2 c3 => c1 P657749 F657750 gm_F657750 el_F657750 g657748 q657825 p657849 bg657748 hT657751 hs657752 x657759 x657760 x657762 x657763 x657764 x657765 x657766 x657767 fq657845 fq657856 fq657857 r657864)
                              obtain ⟨z657866, hz657866⟩ : ∃ z : Int32, z = g657358 + Int32.ofInt 1 := ⟨_, rfl⟩
                              have ez657866 : z657866.toInt = g657358.toInt + 1 := gI_inc hz657866 (by decide) bg657358' (by decide) (by decide)
                              have bz657866 : gB z657866 1 1000000 := ⟨by omega, by omega⟩
                              refine G_iinc (L' := [(5, .int z657866), (7, .int g657748), (6, .ref q657502), (4, .int o656635), (3, .int g654828), (0, .ref q632291), (1, .ref q632292), (2, .int p632293)]) z657866 2 dr_cX17_giveAll_167 rfl hz657866.symm (Nat.le_of_ble_eq_true rfl) rfl ?_
                              refine G_goto 90 dr_cX17_giveAll_170 (by decide +kernel) ?_
                              refine G_lv (L' := [(5, .int z657866), (4, .int o656635), (3, .int g654828), (0, .ref q632291), (1, .ref q632292), (2, .int p632293)]) [0, 3, 4, 5, 6, 7] rfl ?_
                              have ac657867 : (fI (F657750 q632291) 11).toInt = p657780.toInt := by rw [he657775]; rfl
                              have ac657868 : (fI (F657750 q632291) 14).toInt = p657783.toInt := by rw [he657775]; rfl
                              exact ih90_657371 P657749 F657750 gm_F657750 el_F657750 z657866 (gB_w bz657866 (by decide) (by decide)) hT657751 hs657752 hph657753 hB657754 (by omega) (by omega) (by omega) (by omega) x657763 (cq_nx x657764 (by omega)) x657767 (fun k e1 e2 e3 e4 ht => kt90_657372 k e1 e2 e3 e4 (fun R c1 c2 => c2 P657359 F657360 gm_F657360 el_F657360 g657358 p657432 q657429 q657502 p657484 F657750 P657749 gm_F657750 el_F657750 z657866 k e1 e2 e3 e4 bg657358 hT657361 hs657362 x657365 x657366 x657368 x657369 x657370 x657371 fq657454 r657480 fq657507 hx657503 fq657525 ht657531 hx657865 ez657866 (ht R c1 c2))) (by omega)
                            · have r657869 : g657748.toInt ≤ p657849.toInt := gC_nlt hc657863
                              have bg657748' : gB g657748 0 1000000 := ⟨by omega, by omega⟩
                              refine G_aload_n 5 dr_cX17_giveAll_123 rfl ?_
                              refine G_iload 0 dr_cX17_giveAll_124 rfl ?_
                              refine G_aload 1 dr_cX17_giveAll_126 rfl ?_
                              refine Gp_get 0 hm657823 he657824 dr_cX17_giveAll_128 (gk_X12 D I) (Nat.le_of_ble_eq_true rfl) wr_9_220 rfl ?_
                              have fq657870 : p657849.toInt = (gm_F657750 2 q657825 : Int) := by omega
                              refine Gw_callV (As := []) (gV_ok D I) (cp_7_ArrayList_size l hl0 D I P657749 F657750 q657825 p657848 q657850 p657849 hm657846 he657847 (gB_w bp657849 (by decide) (by decide))) dr_cX17_giveAll_131 ⟨wr_10_200, wr_1_18, wr_9_160, by decide, rfl, (Nat.le_of_ble_eq_true rfl), (Nat.le_of_ble_eq_true rfl)⟩ wr_9_158 wr_9_159 hm657846 he657847 rfl (rm_zc pk657772) (rm_zs pk657772) (Nat.le_of_ble_eq_true rfl) (fun r657874 w657875 dc657871 ds657872 hp657873 => ?_) (fun _ _ _ _ _ z => z.elim)
                              obtain ⟨rfl, rfl, hdc, hds⟩ := hp657873
                              change G _ _ _ _ _ _ _ (.int p657849 :: _) _ _ _
                              refine G_widen (cs' := ((rPh gm_F657750 el_F657750 f - rPh γ0 el0 f) / 18)) (sl' := (rPh gm_F657750 el_F657750 f - rPh γ0 el0 f)) (rm_d0 hdc) (rm_d0 hds) ?_
                              refine G_icmp_ge 153 dr_cX17_giveAll_134 (by decide +kernel) (fun hc657876 => ?_) (fun hc657876 => ?_)
                              · have r657877 : p657849.toInt ≤ g657748.toInt := gC_le hc657876
                                refine G_aload 1 dr_cX17_giveAll_153 rfl ?_
                                have fq657878 : fR (F657750 q657502) 1 = q657826 := by rw [he657824]; rfl
                                refine Gp_get 1 hm657823 he657824 dr_cX17_giveAll_155 (gk_X12 D I) (Nat.le_of_ble_eq_true rfl) wr_9_223 rfl ?_
                                have fl657881 : p657849.toInt = gm_F657750 2 q657825 := r657851
                                have hp657879 : rAt gm_F657750 el_F657750 q632292 (g657358.toInt : Int).toNat (g657748.toInt : Int).toNat = q657826 := (rAt_e r657758 ht657835.1 (by omega)).trans ht657835.2.1
                                have hL657880 : (g657748.toInt : Int).toNat ≤ gm_F657750 2 (rwL gm_F657750 el_F657750 q632292 (g657358.toInt : Int).toNat) := by unfold rwL; rw [r657758, ht657835.1]; omega
                                have cn657882 : rNm (fun n => 0 ≤ (cB (F657750 (gm_F657750 9 17)) n).toInt) (F657750 q657826) := by rw [congrFun (rSk_9 hs657752) 17, x657763]; exact cq_at x657764 hp657879 (show (g657358.toInt : Int).toNat < gm_F657750 6 f by omega) hL657880
                                refine Gw_callV (As := [.ref q657826]) (gV_ok D I) (ct_344685_SpillForgeModel_coloured l hl0 D I gm_F657750 el_F657750 P657749 F657750 q632291 q657826 hT657751 ht657769 ht657831 (by omega)) dr_cX17_giveAll_158 ⟨wr_11_55, wr_1_14, wr_11_58, by decide, rfl, (Nat.le_of_ble_eq_true rfl), (Nat.le_of_ble_eq_true rfl)⟩ wr_11_57 wr_p_108 hm657774 he657775 rfl (rm_zc pk657772) (rm_zs pk657772) (Nat.le_of_ble_eq_true rfl) (fun r657886 w657887 dc657883 ds657884 hp657885 => ?_) (fun _ _ _ _ _ z => z.elim)
                                obtain ⟨F657893, rfl, rfl, hT657894, hs657895, hdc, hds, x657888, x657889, x657890, x657891, ht657892⟩ := hp657885
                                have he657896 : F657893 q657502 = .inr (17, [.ref q657825, .ref q657826, .int p657827, .int p657828]) := (hs657895 q657502 (rT0 ht657755 (by decide)) (rT1 ht657755 (by decide)) (rT2 ht657755 (by decide))).trans he657824
                                have he657897 : F657893 q657825 = .inr (4, [.int p657848, .ref q657850, .int p657849]) := (hs657895 q657825 (rT0 ht657829 (by decide)) (rT1 ht657829 (by decide)) (rT2 ht657829 (by decide))).trans he657847
                                have hs657898 := rSk_str hs657752 hT657894 hs657895 (by decide) (by decide) (by decide) (Or.inr (rFs_1 x657888 hf657839))
                                have kp657899 : F657893 q632291 = F657750 q632291 := x657889
                                have kp657900 : F657893 (γ0 9 3) = F657750 (γ0 9 3) := (show F657893 (γ0 9 3) = F657750 (γ0 9 3) by rw [← congrFun (rSk_9 hs657898) 3]; exact x657890)
                                have kp657901 : F657893 (γ0 9 17) = F656640 (γ0 9 17) := ((show F657893 (γ0 9 17) = F657750 (γ0 9 17) by rw [← congrFun (rSk_9 hs657898) 17]; exact x657891)).trans x657763
                                have mk657902 : mKp (F632290 q632291) (F657893 q632291) := mKp_tr x657767 (mKp_eq x657889)
                                have he657903 : F657893 q632291 = .inr (22, [.ref (gm_F657750 9 0), .ref (gm_F657750 9 1), .ref (gm_F657750 9 2), .ref (gm_F657750 9 3), .ref (gm_F657750 9 4), .ref (gm_F657750 9 5), .ref (gm_F657750 9 6), .ref (gm_F657750 9 7), .ref (gm_F657750 9 8), .int p657778, .int p657779, .int p657780, .int p657781, .int p657782, .int p657783, .ref (gm_F657750 9 15), .ref (gm_F657750 9 16), .ref (gm_F657750 9 17), .ref (gm_F657750 9 18), .ref (gm_F657750 9 19), .ref (gm_F657750 9 20), .ref (gm_F657750 9 21), .ref (gm_F657750 9 22), .int p657784, .int p657785, .int p657786, .int p657787, .int p657788, .ref q657776, .ref (gm_F657750 9 29), .int p657789, .ref (gm_F657750 9 31), .int p657790, .int p657791, .int p657792, .ref q657777]) := (x657889).trans he657775
                                change G _ _ _ _ _ _ _ _ _ _ _
                                refine G_widen (cs' := ((rPh gm_F657750 el_F657750 f - rPh γ0 el0 f) / 18)) (sl' := (rPh gm_F657750 el_F657750 f - rPh γ0 el0 f)) (rm_d0 hdc) (rm_d0 hds) ?_
                                have cq657904 := cq_put (j1 := (g657748.toInt : Int).toNat + 1) hT657751 ht657770 hf657771 x657764 x657888 hp657879 (show (g657358.toInt : Int).toNat < gm_F657750 6 f by omega) hL657880 rfl
                                have ac657905 : (fI (F657893 q632291) 11).toInt = (fI (F657750 q632291) 11).toInt := by rw [kp657899]
                                have ac657906 : (fI (F657893 q632291) 14).toInt = (fI (F657750 q632291) 14).toInt := by rw [kp657899]
                                obtain ⟨z657907, hz657907⟩ : ∃ z : Int32, z = g657748 + Int32.ofInt 1 := ⟨_, rfl⟩
                                have ez657907 : z657907.toInt = g657748.toInt + 1 := gI_inc hz657907 (by decide) bg657748' (by decide) (by decide)
                                have bz657907 : gB z657907 1 1000001 := ⟨by omega, by omega⟩
                                refine G_iinc (L' := [(7, .int z657907), (6, .ref q657502), (5, .int g657358), (4, .int o656635), (3, .int g654828), (0, .ref q632291), (1, .ref q632292), (2, .int p632293)]) z657907 0 dr_cX17_giveAll_161 rfl hz657907.symm (Nat.le_of_ble_eq_true rfl) rfl ?_
                                refine G_goto 110 dr_cX17_giveAll_164 (by decide +kernel) ?_
                                have ac657908 : (fI (F657893 q632291) 11).toInt = p657780.toInt := by rw [he657903]; rfl
                                have ac657909 : (fI (F657893 q632291) 14).toInt = p657783.toInt := by rw [he657903]; rfl
                                exact ih110_657767 P657749 F657893 gm_F657750 el_F657750 z657907 (gB_w bz657907 (by decide) (by decide)) hT657894 hs657898 hph657753 hB657754 ht657755 hf657756 r657757 r657758 (by omega) (by omega) (by omega) (by omega) kp657901 (by rw [show (z657907.toInt : Int).toNat = ((g657748.toInt : Int).toNat + 1) by omega]; exact cq657904) (by omega) (by omega) mk657902 (fun k e1 e2 e3 e4 ht => kt110_657768 k e1 e2 e3 e4 (fun R c1 c2 c3 => c2 P657749 F657750 gm_F657750 el_F657750 g657748 q657825 p657849 q657826 F657893 z657907 k e1 e2 e3 e4 bg657748 hT657751 hs657752 x657759 x657760 x657762 x657763 x657764 x657765 x657766 x657767 fq657845 fq657856 fq657857 r657869 fq657870 r657877 fq657878 hT657894 hs657895 x657888 x657889 x657890 x657891 ht657892 ez657907 (ht R c1 c2 c3))) (by omega)
                              · have r657910 : g657748.toInt < p657849.toInt := gC_nle hc657876
                                have bg657748'' : gB g657748 0 999999 := ⟨by omega, by omega⟩
                                have bp657849' : gB p657849 1 1000000 := ⟨by omega, by omega⟩
                                refine G_aload 1 dr_cX17_giveAll_137 rfl ?_
                                refine Gp_get 0 hm657823 he657824 dr_cX17_giveAll_139 (gk_X12 D I) (Nat.le_of_ble_eq_true rfl) wr_9_220 rfl ?_
                                refine G_iload 0 dr_cX17_giveAll_142 rfl ?_
                                obtain ⟨r657911, r657912, n657919, f657920, r657913, r657914, r657915, r657916, r657917, r657918⟩ := rLC_n r657853 (by omega)
                                have hm657921 : q657850 ∈ P657749 := RS_m hT657751 r657911 (by decide)
                                obtain ⟨q657922, hx657923⟩ : ∃ x, x = el_F657750 q657825 g657748.toInt.toNat := ⟨_, rfl⟩
                                have hx657924 : f657920 g657748.toNatClampNeg = some q657922 := (r657917 _ (show g657748.toInt.toNat < gm_F657750 2 q657825 by first | assumption | omega)).trans (by rw [hx657923])
                                have ht657925 : rKd gm_F657750 q657922 1 := by rw [hx657923]; exact (r657854 _ (show g657748.toInt.toNat < gm_F657750 2 q657825 by first | assumption | omega)).1
                                have ht657926 : rFm gm_F657750 q657922 q657825 := by rw [hx657923]; exact (r657854 _ (show g657748.toInt.toNat < gm_F657750 2 q657825 by first | assumption | omega)).2.1
                                have hf657927 : gm_F657750 1 q657922 = f := (show gm_F657750 1 q657922 = gm_F657750 1 q657825 from ht657926).trans hf657838
                                refine Gw_callV (As := [.int g657748]) (gV_ok D I) (cp_22_ArrayList_get l hl0 D I P657749 F657750 q657825 q657850 g657748 p657848 p657849 f657920 n657919 q657922 hm657846 hm657921 he657847 r657913 (gB_w bg657748'' (by decide) (by decide)) (gB_w bp657849' (by decide) (by decide)) (by omega) (by omega) (by assumption) (by omega)) dr_cX17_giveAll_144 ⟨wr_10_201, wr_1_18, wr_10_65, by decide, rfl, (Nat.le_of_ble_eq_true rfl), (Nat.le_of_ble_eq_true rfl)⟩ wr_10_63 wr_10_64 hm657846 he657847 rfl (rm_zc pk657772) (rm_zs pk657772) (Nat.le_of_ble_eq_true rfl) (fun r657931 w657932 dc657928 ds657929 hp657930 => ?_) (fun _ _ _ _ _ z => z.elim)
                                obtain ⟨rfl, rfl, hdc, hds, ht657933⟩ := hp657930
                                change G _ _ _ _ _ _ _ (.ref q657922 :: _) _ _ _
                                refine G_widen (cs' := ((rPh gm_F657750 el_F657750 f - rPh γ0 el0 f) / 18)) (sl' := (rPh gm_F657750 el_F657750 f - rPh γ0 el0 f)) (rm_d0 hdc) (rm_d0 hds) ?_
                                have hm657934 : q657922 ∈ P657749 := RS_m hT657751 ht657925 (by decide)
                                obtain ⟨p657936, p657937, p657938, p657939, p657940, p657941, p657942, he657935, bp657936, bp657937, bp657940, bp657941, bp657942, r657943, r657944, r657945, r657946, r657947⟩ := show rk_1 gm_F657750 q657922 (F657750 q657922) from RS_o hT657751 ht657925
                                have bp657938 := gB_any p657938
                                have bp657939 := gB_any p657939
                                have r657948 : gm_F657750 7 (gm_F657750 1 q657922) = gm_F657750 7 f := by rw [hf657927]
                                refine Gp_cast hm657934 he657935 rfl dr_cX17_giveAll_147 wr_10_202 (gr_cast 1 rfl) ?_
                                refine G_goto 158 dr_cX17_giveAll_150 (by decide +kernel) ?_
                                have fl657951 : p657849.toInt = gm_F657750 2 q657825 := r657851
                                have hp657949 : rAt gm_F657750 el_F657750 q632292 (g657358.toInt : Int).toNat (g657748.toInt : Int).toNat = q657922 := (rAt_r r657758 ht657835.1 (by omega)).trans (by rw [hx657923])
                                have hL657950 : (g657748.toInt : Int).toNat ≤ gm_F657750 2 (rwL gm_F657750 el_F657750 q632292 (g657358.toInt : Int).toNat) := by unfold rwL; rw [r657758, ht657835.1]; omega
                                have cn657952 : rNm (fun n => 0 ≤ (cB (F657750 (gm_F657750 9 17)) n).toInt) (F657750 q657922) := by rw [congrFun (rSk_9 hs657752) 17, x657763]; exact cq_at x657764 hp657949 (show (g657358.toInt : Int).toNat < gm_F657750 6 f by omega) hL657950
                                refine Gw_callV (As := [.ref q657922]) (gV_ok D I) (ct_344685_SpillForgeModel_coloured l hl0 D I gm_F657750 el_F657750 P657749 F657750 q632291 q657922 hT657751 ht657769 ht657925 (by omega)) dr_cX17_giveAll_158 ⟨wr_11_55, wr_1_14, wr_11_58, by decide, rfl, (Nat.le_of_ble_eq_true rfl), (Nat.le_of_ble_eq_true rfl)⟩ wr_11_57 wr_p_108 hm657774 he657775 rfl (rm_zc pk657772) (rm_zs pk657772) (Nat.le_of_ble_eq_true rfl) (fun r657956 w657957 dc657953 ds657954 hp657955 => ?_) (fun _ _ _ _ _ z => z.elim)
                                obtain ⟨F657963, rfl, rfl, hT657964, hs657965, hdc, hds, x657958, x657959, x657960, x657961, ht657962⟩ := hp657955
                                have he657966 : F657963 q657502 = .inr (17, [.ref q657825, .ref q657826, .int p657827, .int p657828]) := (hs657965 q657502 (rT0 ht657755 (by decide)) (rT1 ht657755 (by decide)) (rT2 ht657755 (by decide))).trans he657824
                                have he657967 : F657963 q657825 = .inr (4, [.int p657848, .ref q657850, .int p657849]) := (hs657965 q657825 (rT0 ht657829 (by decide)) (rT1 ht657829 (by decide)) (rT2 ht657829 (by decide))).trans he657847
                                have he657968 : F657963 q657850 = .inl (I (.object "java/lang/Object"), n657919, .inr (.inr (.inr (.inr f657920)))) := (hs657965 q657850 (rT0 r657911 (by decide)) (rT1 r657911 (by decide)) (rT2 r657911 (by decide))).trans r657913
                                have hs657969 := rSk_str hs657752 hT657964 hs657965 (by decide) (by decide) (by decide) (Or.inr (rFs_1 x657958 hf657927))
                                have kp657970 : F657963 q632291 = F657750 q632291 := x657959
                                have kp657971 : F657963 (γ0 9 3) = F657750 (γ0 9 3) := (show F657963 (γ0 9 3) = F657750 (γ0 9 3) by rw [← congrFun (rSk_9 hs657969) 3]; exact x657960)
                                have kp657972 : F657963 (γ0 9 17) = F656640 (γ0 9 17) := ((show F657963 (γ0 9 17) = F657750 (γ0 9 17) by rw [← congrFun (rSk_9 hs657969) 17]; exact x657961)).trans x657763
                                have mk657973 : mKp (F632290 q632291) (F657963 q632291) := mKp_tr x657767 (mKp_eq x657959)
                                have he657974 : F657963 q632291 = .inr (22, [.ref (gm_F657750 9 0), .ref (gm_F657750 9 1), .ref (gm_F657750 9 2), .ref (gm_F657750 9 3), .ref (gm_F657750 9 4), .ref (gm_F657750 9 5), .ref (gm_F657750 9 6), .ref (gm_F657750 9 7), .ref (gm_F657750 9 8), .int p657778, .int p657779, .int p657780, .int p657781, .int p657782, .int p657783, .ref (gm_F657750 9 15), .ref (gm_F657750 9 16), .ref (gm_F657750 9 17), .ref (gm_F657750 9 18), .ref (gm_F657750 9 19), .ref (gm_F657750 9 20), .ref (gm_F657750 9 21), .ref (gm_F657750 9 22), .int p657784, .int p657785, .int p657786, .int p657787, .int p657788, .ref q657776, .ref (gm_F657750 9 29), .int p657789, .ref (gm_F657750 9 31), .int p657790, .int p657791, .int p657792, .ref q657777]) := (x657959).trans he657775
                                change G _ _ _ _ _ _ _ _ _ _ _
                                refine G_widen (cs' := ((rPh gm_F657750 el_F657750 f - rPh γ0 el0 f) / 18)) (sl' := (rPh gm_F657750 el_F657750 f - rPh γ0 el0 f)) (rm_d0 hdc) (rm_d0 hds) ?_
                                have cq657975 := cq_put (j1 := (g657748.toInt : Int).toNat + 1) hT657751 ht657770 hf657771 x657764 x657958 hp657949 (show (g657358.toInt : Int).toNat < gm_F657750 6 f by omega) hL657950 rfl
                                have ac657976 : (fI (F657963 q632291) 11).toInt = (fI (F657750 q632291) 11).toInt := by rw [kp657970]
                                have ac657977 : (fI (F657963 q632291) 14).toInt = (fI (F657750 q632291) 14).toInt := by rw [kp657970]
                                obtain ⟨z657978, hz657978⟩ : ∃ z : Int32, z = g657748 + Int32.ofInt 1 := ⟨_, rfl⟩
                                have ez657978 : z657978.toInt = g657748.toInt + 1 := gI_inc hz657978 (by decide) bg657748'' (by decide) (by decide)
                                have bz657978 : gB z657978 1 1000000 := ⟨by omega, by omega⟩
                                refine G_iinc (L' := [(7, .int z657978), (6, .ref q657502), (5, .int g657358), (4, .int o656635), (3, .int g654828), (0, .ref q632291), (1, .ref q632292), (2, .int p632293)]) z657978 0 dr_cX17_giveAll_161 rfl hz657978.symm (Nat.le_of_ble_eq_true rfl) rfl ?_
                                refine G_goto 110 dr_cX17_giveAll_164 (by decide +kernel) ?_
                                have ac657979 : (fI (F657963 q632291) 11).toInt = p657780.toInt := by rw [he657974]; rfl
                                have ac657980 : (fI (F657963 q632291) 14).toInt = p657783.toInt := by rw [he657974]; rfl
                                exact ih110_657767 P657749 F657963 gm_F657750 el_F657750 z657978 (gB_w bz657978 (by decide) (by decide)) hT657964 hs657969 hph657753 hB657754 ht657755 hf657756 r657757 r657758 (by omega) (by omega) (by omega) (by omega) kp657972 (by rw [show (z657978.toInt : Int).toNat = ((g657748.toInt : Int).toNat + 1) by omega]; exact cq657975) (by omega) (by omega) mk657973 (fun k e1 e2 e3 e4 ht => kt110_657768 k e1 e2 e3 e4 (fun R c1 c2 c3 => c3 P657749 F657750 gm_F657750 el_F657750 g657748 q657825 p657849 q657922 F657963 z657978 k e1 e2 e3 e4 bg657748 hT657751 hs657752 x657759 x657760 x657762 x657763 x657764 x657765 x657766 x657767 fq657845 fq657856 fq657857 r657869 fq657870 r657910 hx657923 ht657933 hT657964 hs657965 x657958 x657959 x657960 x657961 ht657962 ez657978 (ht R c1 c2 c3))) (by omega)
                        have ac657981 : (fI (F657360 q632291) 11).toInt = p657384.toInt := by rw [he657379]; rfl
                        have ac657982 : (fI (F657360 q632291) 14).toInt = p657387.toInt := by rw [he657379]; rfl
                        exact hlp110_657767 (((1000002 : Int) - 0).toNat + 1) P657359 F657360 gm_F657360 el_F657360 0 (gB_w (gBl (show Int32.toInt 0 = 0 by decide)) (by decide) (by decide)) hT657361 hs657362 hph657363 hB657364 ht657508 hf657532 r657540 r657541 (by have qa0 : Int32.toInt 0 = 0 := (by decide); omega) (by have qa0 : Int32.toInt 0 = 0 := (by decide); omega) (by have qa0 : Int32.toInt 0 = 0 := (by decide); omega) (by have qa0 : Int32.toInt 0 = 0 := (by decide); omega) x657369 (by have qa : Int32.toInt 0 = 0 := (by decide); rw [qa]; exact x657370) (by have qa0 : Int32.toInt 0 = 0 := (by decide); omega) (by have qa0 : Int32.toInt 0 = 0 := (by decide); omega) x657371 (fun k e1 e2 e3 e4 ht => ht) (Nat.lt_succ_self _)
                  have ac657983 : (fI (F656640 q632291) 11).toInt = p656561.toInt := by rw [he656647]; rfl
                  have ac657984 : (fI (F656640 q632291) 14).toInt = p656564.toInt := by rw [he656647]; rfl
                  exact hlp90_657371 (((1000001 : Int) - 0).toNat + 1) P656540 F656640 gm_F656541 el_F656541 0 (gB_w (gBl (show Int32.toInt 0 = 0 by decide)) (by decide) (by decide)) hT656641 hs656643 hph656552 hB656545 (by have qa0 : Int32.toInt 0 = 0 := (by decide); omega) (by have qa0 : Int32.toInt 0 = 0 := (by decide); omega) (by have qa0 : Int32.toInt 0 = 0 := (by decide); omega) (by have qa0 : Int32.toInt 0 = 0 := (by decide); omega) rfl (by have qa : Int32.toInt 0 = 0 := (by decide); rw [qa]; exact cq656763) mk656646 (fun k e1 e2 e3 e4 ht => ht) (Nat.lt_succ_self _)
              · have r657985 : o656528.toInt ≠ 0 := gj_neq hc656605 (show Int32.toInt 0 = 0 by decide)
                have bo656528' : gB o656528 1 1 := gB_t1 bo656528 r657985
                refine G_aload_n 1 dr_cX17_giveAll_61 rfl ?_
                refine G_aload_n 2 dr_cX17_giveAll_62 rfl ?_
                refine G_iconst 0 dr_cX17_giveAll_63 (by decide +kernel) ?_
                refine Gw_callV (As := [.ref q632292, .int 0]) (gV_ok D I) (ct_277563_SpillForgeModel_graph l hl0 D I gm_F656541 el_F656541 P656540 F656541 q632291 q632292 0 hT656546 ht656548 ht656549 (gB_w (gBl (show Int32.toInt 0 = 0 by decide)) (by decide) (by decide)) (by omega)) dr_cX17_giveAll_64 ⟨wr_10_233, wr_1_14, wr_10_236, by decide, rfl, (Nat.le_of_ble_eq_true rfl), (Nat.le_of_ble_eq_true rfl)⟩ wr_10_235 wr_p_99 hm656555 he656556 rfl (rm_zc pk656553) (rm_zs pk656553) (Nat.le_of_ble_eq_true rfl) (fun r657989 w657990 dc657986 ds657987 hp657988 => ?_) (fun _ _ _ _ _ z => z.elim)
                obtain ⟨F657994, rfl, rfl, hT657995, hs657996, hdc, hds, x657991, x657992, ht657993⟩ := hp657988
                have hs657997 := rSk_str hs656547 hT657995 hs657996 (by decide) (by decide) (by decide)
                have kp657998 : F657994 q632291 = F656541 q632291 := x657992
                have mk657999 : mKp (F632290 q632291) (F657994 q632291) := mKp_tr mk656551 (mKp_eq x657992)
                have he658000 : F657994 q632291 = .inr (22, [.ref (gm_F656541 9 0), .ref (gm_F656541 9 1), .ref (gm_F656541 9 2), .ref (gm_F656541 9 3), .ref (gm_F656541 9 4), .ref (gm_F656541 9 5), .ref (gm_F656541 9 6), .ref (gm_F656541 9 7), .ref (gm_F656541 9 8), .int p656559, .int p656560, .int p656561, .int p656562, .int p656563, .int p656564, .ref (gm_F656541 9 15), .ref (gm_F656541 9 16), .ref (gm_F656541 9 17), .ref (gm_F656541 9 18), .ref (gm_F656541 9 19), .ref (gm_F656541 9 20), .ref (gm_F656541 9 21), .ref (gm_F656541 9 22), .int p656565, .int p656566, .int p656567, .int p656568, .int p656569, .ref q656557, .ref (gm_F656541 9 29), .int p656570, .ref (gm_F656541 9 31), .int p656571, .int p656572, .int p656573, .ref q656558]) := (x657992).trans he656556
                rw [show Int32.toInt 0 = 0 from by decide] at x657991
                change G _ _ _ _ _ _ _ _ _ _ _
                refine G_widen (cs' := ((rPh gm_F656541 el_F656541 f - rPh γ0 el0 f) / 18)) (sl' := (rPh gm_F656541 el_F656541 f - rPh γ0 el0 f)) (rm_d0 hdc) (rm_d0 hds) ?_
                have ni658001 : rNI gm_F656541 el_F656541 F657994 q632292 (gm_F656541 6 f) (fI (F657994 q632291) 11).toInt := rNI_s (rNI_str hT656546 ht656549 hf656550 hs657996 (by decide) ni656604) (by rw [x657992])
                have gr658002 : rGr gm_F656541 el_F656541 F657994 q632292 (gm_F656541 6 f) (cB (F657994 (γ0 9 3))) (vA (gm_F656541 6 f)) := by have z := x657991 (by decide); rw [hf656550] at z; rw [← congrFun (rSk_9 hs657997) 3]; exact gq_str hT656546 ht656549 hf656550 hs657996 (by decide) z
                have ac658003 : (fI (F657994 q632291) 11).toInt = (fI (F656541 q632291) 11).toInt := by rw [kp657998]
                have ac658004 : (fI (F657994 q632291) 14).toInt = (fI (F656541 q632291) 14).toInt := by rw [kp657998]
                refine G_goto 52 dr_cX17_giveAll_67 (by decide +kernel) ?_
                have ac658005 : (fI (F657994 q632291) 11).toInt = p656561.toInt := by rw [he658000]; rfl
                have ac658006 : (fI (F657994 q632291) 14).toInt = p656564.toInt := by rw [he658000]; rfl
                exact ih52_656463 P656540 F657994 gm_F656541 el_F656541 hT657995 hs657997 hph656552 hB656545 (by omega) (by omega) (by omega) (by omega) ni658001 gr658002 mk657999 (fun k e1 e2 e3 e4 ht => kt52_656464 k e1 e2 e3 e4 (fun R c1 c2 => c2 P656451 F656452 gm_F656452 el_F656452 P656540 F656541 gm_F656541 el_F656541 o656528 F657994 k e1 e2 e3 e4 hT656453 hs656454 x656457 x656458 x656460 x656461 x656462 x656463 hk656542 x656529 x656530 x656531 x656532 x656533 x656534 x656535 x656536 x656537 x656538 ht656539 r657985 hT657995 hs657996 x657991 x657992 ht657993 (ht R c1 c2))) (by have z := x656533.resolve_left (by omega); omega)
          have ac658007 : (fI (F654944 q632291) 11).toInt = p654853.toInt := by rw [he654951]; rfl
          have ac658008 : (fI (F654944 q632291) 14).toInt = p654856.toInt := by rw [he654951]; rfl
          exact hlp52_656463 (rsum (fun i => gm_F654830 2 (gm_F654830 14 (el_F654830 (gm_F654830 14 q632292) i))) (gm_F654830 6 f) + 1) P654829 F654944 gm_F654830 el_F654830 hT654945 hs654948 hph654833 hB654834 (by omega) (by omega) (by omega) (by omega) ni654952 gr654953 mk654950 (fun k e1 e2 e3 e4 ht => ht) (Nat.lt_succ_self _)
        · have r658009 : 4000 < o654932.toInt := gj_nle hc654934 (show Int32.toInt 4000 = 4000 by decide)
          have bo654932' : gB o654932 4001 2147483647 := ⟨by omega, by omega⟩
          have hx658010 : tl_RModel_giveAll_28 D I γ0 el0 f P632289 F632290 q632291 q632292 p632293 P632405 F632406 gm_F632406 el_F632406 (1 : Int32) 44 F654830 P654829 gm_F654830 el_F654830 (0 : Int32) := kt28_654841 44 F654830 P654829 gm_F654830 el_F654830 (0 : Int32) (fun R c1 c2 c3 c4 c5 => c5 P654829 F654830 gm_F654830 el_F654830 g654828 o654932 bg654828 hT654831 hs654832 x654835 x654836 x654838 x654839 x654840 r654899 ht654933 r658009)
          refine G_iconst (-1) dr_cX17_giveAll_44 (by decide +kernel) ?_
          exact G_iretA dr_cX17_giveAll_45 rfl (show ((rPh gm_F654830 el_F654830 f - rPh γ0 el0 f) / 18) ≤ (((387 * B + 6000) - rPh γ0 el0 f) / 18) by omega) (show (rPh gm_F654830 el_F654830 f - rPh γ0 el0 f) ≤ ((387 * B + 6000) - rPh γ0 el0 f) by omega) ⟨P654829, F654830, gm_F654830, el_F654830, (-1), rfl, rfl, hs654832, ⟨by omega, by omega⟩, hB654834, (gB_w (gBl (show Int32.toInt (-1) = (-1) by decide)) (by decide) (by decide)), (by have qa0 : Int32.toInt (-1) = (-1) := (by decide); omega), x654840, (fun R c1 c2 c3 c4 => c4 gm_0 el_0 F632351 F632359 F632368 F632377 P632405 F632406 gm_F632406 el_F632406 F654830 P654829 gm_F654830 el_F654830 hγ0 hel0 n632353 fq632358 n632361 fq632367 n632370 fq632376 n632379 fq632385 hk632407 x632399 x632400 x632401 x632402 x632403 ht632404 hx658010)⟩
  have ac658011 : (fI (F632406 q632291) 11).toInt = p632428.toInt := by rw [he632423]; rfl
  have ac658012 : (fI (F632406 q632291) 14).toInt = p632431.toInt := by rw [he632423]; rfl
  exact hlp28_654840 (((42 : Int) - 1).toNat + 1) P632405 F632406 gm_F632406 el_F632406 1 (gB_w (gBl (show Int32.toInt 1 = 1 by decide)) (by decide) (by decide)) hT632411 hs632412 hph632417 hB632410 (by have qa0 : Int32.toInt 1 = 1 := (by decide); omega) (by have qa0 : Int32.toInt 1 = 1 := (by decide); omega) (by have qa0 : Int32.toInt 1 = 1 := (by decide); omega) (by have qa0 : Int32.toInt 1 = 1 := (by decide); omega) ni632471 mk632416 (fun k e1 e2 e3 e4 e5 ht => ht) (Nat.lt_succ_self _)
/- tr_RModel_give: result, P, F, gm, el -/
def tr_RModel_give (D : va_G) (I : FieldType → ClassId) (γ0 el0 : Nat → Nat → Nat) (f : Nat) (fo : Nat) (P : List Nat) (F : Nat → va_E) (q0 : Nat) (a1 : Int32) (p : Nat) (p2 : Nat) (o1 : Int32) (o2 : List Nat) (o3 : Nat → va_E) (o4 : Nat → Nat → Nat) (o5 : Nat → Nat → Nat) : Prop := ∀ R : (Int32) → (List Nat) → (Nat → va_E) → (Nat → Nat → Nat) → (Nat → Nat → Nat) → Prop,
  (∀ (x1 : Nat → Nat → Nat) (x2 : Nat → Nat → Nat) (x3 : Nat → va_E) (x4 : Nat → va_E), x1 = γ0 → x2 = el0 → (∀ b, b ≠ q0 → x3 b = F b) → x3 q0 = cF (F q0) 30 (.int 0) → a1.toInt < 1 → RS D I P x4 x1 x2 → rStr x1 [] x3 x4 → (fI (x4 q0) 10).toInt = (fI (x3 q0) 10).toInt → mKq (x3 q0) (x4 q0) → tr_RModel_no2 D I x1 x2 x3 q0 (1 : Int32) x4 → R (0 : Int32) P x4 x1 x2) →
  (∀ (x1 : Nat → Nat → Nat) (x2 : Nat → Nat → Nat) (x3 : Nat → va_E) (x4 : Int32) (x5 : List Nat) (x6 : Nat → va_E) (x7 : Nat → Nat → Nat) (x8 : Nat → Nat → Nat) (x9 : List Nat) (x10 : Nat → va_E) (x11 : Nat → Nat → Nat) (x12 : Nat → Nat → Nat) (x13 : Int32) (x14 : Nat → va_E), x1 = γ0 → x2 = el0 → (∀ b, b ≠ q0 → x3 b = F b) → x3 q0 = cF (F q0) 30 (.int 0) → 1 ≤ a1.toInt → a1.toInt ≤ 32 → fI (x3 q0) 9 = x4 → x4.toInt ≠ 0 → fR (x3 q0) 7 = (x1 9 7) → fR (x3 q0) 6 = (x1 9 6) → rSk f [1, 2, 3, 101, 102, 103, 202] ([1, 2, 3, 4, 5, 6, 7, 8, 9, 101, 102, 103, 202]) D I P x3 x1 x2 x5 x6 x7 x8 → x7 6 f = x1 6 fo → x7 7 f = 0 → x7 16 f ≤ x1 16 fo → x7 18 f = 0 → tr_RCode_copy D I x1 x2 f fo P x3 p p2 x5 x6 x7 x8 → fR (x6 q0) 7 = (x7 9 7) → rSk f [101] ([1, 3, 5, 6, 8, 9, 101] ++ npk) D I x5 x6 x7 x8 x9 x10 x11 x12 → x11 6 f = x7 6 f → mKp (x6 q0) (x10 q0) → tr_RModel_giveAll D I x7 x8 f x5 x6 q0 p a1 x13 x9 x10 x11 x12 → x13.toInt ≤ 0 → (∀ b, b ≠ q0 → x14 b = x10 b) → x14 q0 = cF (x10 q0) 10 (.int 0) → R x13 x9 x14 x11 x12) →
  (∀ (x1 : Nat → Nat → Nat) (x2 : Nat → Nat → Nat) (x3 : Nat → va_E) (x4 : Int32) (x5 : List Nat) (x6 : Nat → va_E) (x7 : Nat → Nat → Nat) (x8 : Nat → Nat → Nat) (x9 : List Nat) (x10 : Nat → va_E) (x11 : Nat → Nat → Nat) (x12 : Nat → Nat → Nat) (x13 : Int32) (x14 : Nat → va_E), x1 = γ0 → x2 = el0 → (∀ b, b ≠ q0 → x3 b = F b) → x3 q0 = cF (F q0) 30 (.int 0) → 1 ≤ a1.toInt → a1.toInt ≤ 32 → fI (x3 q0) 9 = x4 → x4.toInt ≠ 0 → fR (x3 q0) 7 = (x1 9 7) → fR (x3 q0) 6 = (x1 9 6) → rSk f [1, 2, 3, 101, 102, 103, 202] ([1, 2, 3, 4, 5, 6, 7, 8, 9, 101, 102, 103, 202]) D I P x3 x1 x2 x5 x6 x7 x8 → x7 6 f = x1 6 fo → x7 7 f = 0 → x7 16 f ≤ x1 16 fo → x7 18 f = 0 → tr_RCode_copy D I x1 x2 f fo P x3 p p2 x5 x6 x7 x8 → fR (x6 q0) 7 = (x7 9 7) → rSk f [101] ([1, 3, 5, 6, 8, 9, 101] ++ npk) D I x5 x6 x7 x8 x9 x10 x11 x12 → x11 6 f = x7 6 f → mKp (x6 q0) (x10 q0) → tr_RModel_giveAll D I x7 x8 f x5 x6 q0 p a1 x13 x9 x10 x11 x12 → 0 < x13.toInt → (∀ b, b ≠ q0 → x14 b = x10 b) → x14 q0 = cF (x10 q0) 10 (.int 1) → R x13 x9 x14 x11 x12) →
  (∀ (x1 : Nat → Nat → Nat) (x2 : Nat → Nat → Nat) (x3 : Nat → va_E) (x4 : Int32) (x5 : Nat → va_E), x1 = γ0 → x2 = el0 → (∀ b, b ≠ q0 → x3 b = F b) → x3 q0 = cF (F q0) 30 (.int 0) → 1 ≤ a1.toInt → a1.toInt ≤ 32 → fI (x3 q0) 9 = x4 → x4.toInt = 0 → RS D I P x5 x1 x2 → rStr x1 [] x3 x5 → (fI (x5 q0) 10).toInt = (fI (x3 q0) 10).toInt → mKq (x3 q0) (x5 q0) → tr_RModel_no2 D I x1 x2 x3 q0 (2 : Int32) x5 → R (0 : Int32) P x5 x1 x2) →
  (∀ (x1 : Nat → Nat → Nat) (x2 : Nat → Nat → Nat) (x3 : Nat → va_E) (x4 : Nat → va_E), x1 = γ0 → x2 = el0 → (∀ b, b ≠ q0 → x3 b = F b) → x3 q0 = cF (F q0) 30 (.int 0) → 1 ≤ a1.toInt → 32 < a1.toInt → RS D I P x4 x1 x2 → rStr x1 [] x3 x4 → (fI (x4 q0) 10).toInt = (fI (x3 q0) 10).toInt → mKq (x3 q0) (x4 q0) → tr_RModel_no2 D I x1 x2 x3 q0 (1 : Int32) x4 → R (0 : Int32) P x4 x1 x2) →
  R o1 o2 o3 o4 o5
