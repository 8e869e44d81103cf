theorem dr_cX17_giveAll_0 : decode cX17_giveAll 0 = .ok (.aload_n 0, 1) := by decide +kernel
theorem dr_cX17_giveAll_1 : decode cX17_giveAll 1 = .ok (.iconst 0, 1) := by decide +kernel
theorem dr_cX17_giveAll_2 : decode cX17_giveAll 2 = .ok (.putfield 224, 3) := by decide +kernel
theorem dr_cX17_giveAll_5 : decode cX17_giveAll 5 = .ok (.aload_n 0, 1) := by decide +kernel
theorem dr_cX17_giveAll_6 : decode cX17_giveAll 6 = .ok (.iconst 0, 1) := by decide +kernel
theorem dr_cX17_giveAll_7 : decode cX17_giveAll 7 = .ok (.putfield 237, 3) := by decide +kernel
theorem dr_cX17_giveAll_10 : decode cX17_giveAll 10 = .ok (.aload_n 0, 1) := by decide +kernel
theorem dr_cX17_giveAll_11 : decode cX17_giveAll 11 = .ok (.iconst 0, 1) := by decide +kernel
theorem dr_cX17_giveAll_12 : decode cX17_giveAll 12 = .ok (.putfield 195, 3) := by decide +kernel
theorem dr_cX17_giveAll_15 : decode cX17_giveAll 15 = .ok (.aload_n 0, 1) := by decide +kernel
theorem dr_cX17_giveAll_16 : decode cX17_giveAll 16 = .ok (.bipush 100, 2) := by decide +kernel
theorem dr_cX17_giveAll_18 : decode cX17_giveAll 18 = .ok (.putfield 231, 3) := by decide +kernel
theorem dr_cX17_giveAll_21 : decode cX17_giveAll 21 = .ok (.aload_n 0, 1) := by decide +kernel
theorem dr_cX17_giveAll_22 : decode cX17_giveAll 22 = .ok (.aload_n 1, 1) := by decide +kernel
theorem dr_cX17_giveAll_23 : decode cX17_giveAll 23 = .ok (.invokevirtual 240, 3) := by decide +kernel
theorem dr_cX17_giveAll_26 : decode cX17_giveAll 26 = .ok (.iconst 1, 1) := by decide +kernel
theorem dr_cX17_giveAll_27 : decode cX17_giveAll 27 = .ok (.istore_n 3, 1) := by decide +kernel
theorem dr_cX17_giveAll_28 : decode cX17_giveAll 28 = .ok (.iload_n 3, 1) := by decide +kernel
theorem dr_cX17_giveAll_29 : decode cX17_giveAll 29 = .ok (.bipush 40, 2) := by decide +kernel
theorem dr_cX17_giveAll_31 : decode cX17_giveAll 31 = .ok (.if_icmp .gt 176, 3) := by decide +kernel
theorem dr_cX17_giveAll_207 : decode cX17_giveAll 207 = .ok (.iconst (-1), 1) := by decide +kernel
theorem dr_cX17_giveAll_208 : decode cX17_giveAll 208 = .ok (.ireturn, 1) := by decide +kernel
theorem dr_cX17_giveAll_34 : decode cX17_giveAll 34 = .ok (.aload_n 1, 1) := by decide +kernel
theorem dr_cX17_giveAll_35 : decode cX17_giveAll 35 = .ok (.invokevirtual 234, 3) := by decide +kernel
theorem dr_cX17_giveAll_38 : decode cX17_giveAll 38 = .ok (.sipush 4000, 3) := by decide +kernel
theorem dr_cX17_giveAll_41 : decode cX17_giveAll 41 = .ok (.if_icmp .le 5, 3) := by decide +kernel
theorem dr_cX17_giveAll_46 : decode cX17_giveAll 46 = .ok (.aload_n 0, 1) := by decide +kernel
theorem dr_cX17_giveAll_47 : decode cX17_giveAll 47 = .ok (.aload_n 1, 1) := by decide +kernel
theorem dr_cX17_giveAll_48 : decode cX17_giveAll 48 = .ok (.iconst 0, 1) := by decide +kernel
theorem dr_cX17_giveAll_49 : decode cX17_giveAll 49 = .ok (.invokevirtual 243, 3) := by decide +kernel
theorem dr_cX17_giveAll_52 : decode cX17_giveAll 52 = .ok (.aload_n 0, 1) := by decide +kernel
theorem dr_cX17_giveAll_53 : decode cX17_giveAll 53 = .ok (.aload_n 1, 1) := by decide +kernel
theorem dr_cX17_giveAll_54 : decode cX17_giveAll 54 = .ok (.iload_n 2, 1) := by decide +kernel
theorem dr_cX17_giveAll_55 : decode cX17_giveAll 55 = .ok (.invokevirtual 246, 3) := by decide +kernel
theorem wr_11_4 : (Jvm.Cond.methodLink "SpillForgeModel" (246 : Nat) ({ cls := "SpillForgeModel", name := "merge", desc := "(LSpillForgeModel$Code;I)Z" } : Jvm.MethodName)) ∈ gw := gw_11 4 rfl rfl
theorem wr_11_7 : (Jvm.Cond.code ({ cls := "SpillForgeModel", name := "merge", desc := "(LSpillForgeModel$Code;I)Z" } : Jvm.MethodName) prog_14_method_17_code (9 : Nat) (Option.some Jvm.ClassFile.FieldType.boolean)) ∈ gw := gw_11 7 rfl rfl
theorem wr_11_6 : (Jvm.Cond.instanceMethod ({ cls := "SpillForgeModel", name := "merge", desc := "(LSpillForgeModel$Code;I)Z" } : Jvm.MethodName)) ∈ gw := gw_11 6 rfl rfl
theorem wr_p_101 : Cond.selects "SpillForgeModel" ⟨"SpillForgeModel", "merge", "(LSpillForgeModel$Code;I)Z"⟩ ⟨"SpillForgeModel", "merge", "(LSpillForgeModel$Code;I)Z"⟩ ∈ gw := gw_p _ 101 rfl rfl rfl
theorem dr_cX17_giveAll_58 : decode cX17_giveAll 58 = .ok (.ifCond .eq 12, 3) := by decide +kernel
theorem dr_cX17_giveAll_70 : decode cX17_giveAll 70 = .ok (.aload_n 0, 1) := by decide +kernel
theorem dr_cX17_giveAll_71 : decode cX17_giveAll 71 = .ok (.aload_n 1, 1) := by decide +kernel
theorem dr_cX17_giveAll_72 : decode cX17_giveAll 72 = .ok (.invokevirtual 250, 3) := by decide +kernel
theorem dr_cX17_giveAll_75 : decode cX17_giveAll 75 = .ok (.aload_n 0, 1) := by decide +kernel
theorem dr_cX17_giveAll_76 : decode cX17_giveAll 76 = .ok (.iload_n 2, 1) := by decide +kernel
theorem dr_cX17_giveAll_77 : decode cX17_giveAll 77 = .ok (.invokevirtual 253, 3) := by decide +kernel
theorem wr_11_43 : (Jvm.Cond.methodLink "SpillForgeModel" (253 : Nat) ({ cls := "SpillForgeModel", name := "colours", desc := "(I)I" } : Jvm.MethodName)) ∈ gw := gw_11 43 rfl rfl
theorem wr_11_46 : (Jvm.Cond.code ({ cls := "SpillForgeModel", name := "colours", desc := "(I)I" } : Jvm.MethodName) prog_14_method_21_code (8 : Nat) (Option.some Jvm.ClassFile.FieldType.int)) ∈ gw := gw_11 46 rfl rfl
theorem wr_11_45 : (Jvm.Cond.instanceMethod ({ cls := "SpillForgeModel", name := "colours", desc := "(I)I" } : Jvm.MethodName)) ∈ gw := gw_11 45 rfl rfl
theorem wr_p_106 : Cond.selects "SpillForgeModel" ⟨"SpillForgeModel", "colours", "(I)I"⟩ ⟨"SpillForgeModel", "colours", "(I)I"⟩ ∈ gw := gw_p _ 106 rfl rfl rfl
theorem dr_cX17_giveAll_80 : decode cX17_giveAll 80 = .ok (.istore 4, 2) := by decide +kernel
theorem dr_cX17_giveAll_82 : decode cX17_giveAll 82 = .ok (.iload 4, 2) := by decide +kernel
theorem dr_cX17_giveAll_84 : decode cX17_giveAll 84 = .ok (.ifCond .ne 96, 3) := by decide +kernel
theorem dr_cX17_giveAll_180 : decode cX17_giveAll 180 = .ok (.aload_n 0, 1) := by decide +kernel
theorem dr_cX17_giveAll_181 : decode cX17_giveAll 181 = .ok (.dup, 1) := by decide +kernel
theorem dr_cX17_giveAll_182 : decode cX17_giveAll 182 = .ok (.getfield 237, 3) := by decide +kernel
theorem dr_cX17_giveAll_185 : decode cX17_giveAll 185 = .ok (.iload 4, 2) := by decide +kernel
theorem dr_cX17_giveAll_187 : decode cX17_giveAll 187 = .ok (.iadd, 1) := by decide +kernel
theorem dr_cX17_giveAll_188 : decode cX17_giveAll 188 = .ok (.putfield 237, 3) := by decide +kernel
theorem dr_cX17_giveAll_191 : decode cX17_giveAll 191 = .ok (.aload_n 0, 1) := by decide +kernel
theorem dr_cX17_giveAll_192 : decode cX17_giveAll 192 = .ok (.aload_n 1, 1) := by decide +kernel
theorem dr_cX17_giveAll_193 : decode cX17_giveAll 193 = .ok (.invokevirtual 263, 3) := by decide +kernel
theorem wr_11_59 : (Jvm.Cond.methodLink "SpillForgeModel" (263 : Nat) ({ cls := "SpillForgeModel", name := "spill", desc := "(LSpillForgeModel$Code;)Z" } : Jvm.MethodName)) ∈ gw := gw_11 59 rfl rfl
theorem wr_11_62 : (Jvm.Cond.code ({ cls := "SpillForgeModel", name := "spill", desc := "(LSpillForgeModel$Code;)Z" } : Jvm.MethodName) prog_14_method_22_code (10 : Nat) (Option.some Jvm.ClassFile.FieldType.boolean)) ∈ gw := gw_11 62 rfl rfl
theorem wr_11_61 : (Jvm.Cond.instanceMethod ({ cls := "SpillForgeModel", name := "spill", desc := "(LSpillForgeModel$Code;)Z" } : Jvm.MethodName)) ∈ gw := gw_11 61 rfl rfl
theorem wr_p_110 : Cond.selects "SpillForgeModel" ⟨"SpillForgeModel", "spill", "(LSpillForgeModel$Code;)Z"⟩ ⟨"SpillForgeModel", "spill", "(LSpillForgeModel$Code;)Z"⟩ ∈ gw := gw_p _ 110 rfl rfl rfl
theorem dr_cX17_giveAll_196 : decode cX17_giveAll 196 = .ok (.ifCond .ne 5, 3) := by decide +kernel
theorem dr_cX17_giveAll_201 : decode cX17_giveAll 201 = .ok (.iinc 3 1, 3) := by decide +kernel
theorem dr_cX17_giveAll_204 : decode cX17_giveAll 204 = .ok (.goto (-176), 3) := by decide +kernel
theorem dr_cX17_giveAll_199 : decode cX17_giveAll 199 = .ok (.iconst (-1), 1) := by decide +kernel
theorem dr_cX17_giveAll_200 : decode cX17_giveAll 200 = .ok (.ireturn, 1) := by decide +kernel
theorem dr_cX17_giveAll_87 : decode cX17_giveAll 87 = .ok (.iconst 0, 1) := by decide +kernel
theorem dr_cX17_giveAll_88 : decode cX17_giveAll 88 = .ok (.istore 5, 2) := by decide +kernel
theorem dr_cX17_giveAll_90 : decode cX17_giveAll 90 = .ok (.iload 5, 2) := by decide +kernel
theorem dr_cX17_giveAll_92 : decode cX17_giveAll 92 = .ok (.aload_n 1, 1) := by decide +kernel
theorem dr_cX17_giveAll_93 : decode cX17_giveAll 93 = .ok (.invokevirtual 96, 3) := by decide +kernel
theorem dr_cX17_giveAll_96 : decode cX17_giveAll 96 = .ok (.if_icmp .ge 77, 3) := by decide +kernel
theorem dr_cX17_giveAll_173 : decode cX17_giveAll 173 = .ok (.aload_n 0, 1) := by decide +kernel
theorem dr_cX17_giveAll_174 : decode cX17_giveAll 174 = .ok (.aload_n 1, 1) := by decide +kernel
theorem dr_cX17_giveAll_175 : decode cX17_giveAll 175 = .ok (.invokevirtual 260, 3) := by decide +kernel
theorem wr_11_55 : (Jvm.Cond.methodLink "SpillForgeModel" (260 : Nat) ({ cls := "SpillForgeModel", name := "share", desc := "(LSpillForgeModel$Code;)V" } : Jvm.MethodName)) ∈ gw := gw_11 55 rfl rfl
theorem wr_11_58 : (Jvm.Cond.code ({ cls := "SpillForgeModel", name := "share", desc := "(LSpillForgeModel$Code;)V" } : Jvm.MethodName) prog_14_method_26_code (7 : Nat) (Option.none : Option Jvm.ClassFile.FieldType)) ∈ gw := gw_11 58 rfl rfl
theorem wr_11_57 : (Jvm.Cond.instanceMethod ({ cls := "SpillForgeModel", name := "share", desc := "(LSpillForgeModel$Code;)V" } : Jvm.MethodName)) ∈ gw := gw_11 57 rfl rfl
theorem wr_p_109 : Cond.selects "SpillForgeModel" ⟨"SpillForgeModel", "share", "(LSpillForgeModel$Code;)V"⟩ ⟨"SpillForgeModel", "share", "(LSpillForgeModel$Code;)V"⟩ ∈ gw := gw_p _ 109 rfl rfl rfl
theorem dr_cX17_giveAll_178 : decode cX17_giveAll 178 = .ok (.iload_n 3, 1) := by decide +kernel
theorem dr_cX17_giveAll_179 : decode cX17_giveAll 179 = .ok (.ireturn, 1) := by decide +kernel
theorem dr_cX17_giveAll_99 : decode cX17_giveAll 99 = .ok (.aload_n 1, 1) := by decide +kernel
theorem dr_cX17_giveAll_100 : decode cX17_giveAll 100 = .ok (.iload 5, 2) := by decide +kernel
theorem dr_cX17_giveAll_102 : decode cX17_giveAll 102 = .ok (.invokevirtual 101, 3) := by decide +kernel
theorem dr_cX17_giveAll_105 : decode cX17_giveAll 105 = .ok (.astore 6, 2) := by decide +kernel
theorem dr_cX17_giveAll_107 : decode cX17_giveAll 107 = .ok (.iconst 0, 1) := by decide +kernel
theorem dr_cX17_giveAll_108 : decode cX17_giveAll 108 = .ok (.istore 7, 2) := by decide +kernel
theorem dr_cX17_giveAll_110 : decode cX17_giveAll 110 = .ok (.iload 7, 2) := by decide +kernel
theorem dr_cX17_giveAll_112 : decode cX17_giveAll 112 = .ok (.aload 6, 2) := by decide +kernel
theorem dr_cX17_giveAll_114 : decode cX17_giveAll 114 = .ok (.getfield 117, 3) := by decide +kernel
theorem dr_cX17_giveAll_117 : decode cX17_giveAll 117 = .ok (.invokevirtual 121, 3) := by decide +kernel
theorem dr_cX17_giveAll_120 : decode cX17_giveAll 120 = .ok (.if_icmp .gt 47, 3) := by decide +kernel
theorem dr_cX17_giveAll_167 : decode cX17_giveAll 167 = .ok (.iinc 5 1, 3) := by decide +kernel
theorem dr_cX17_giveAll_170 : decode cX17_giveAll 170 = .ok (.goto (-80), 3) := by decide +kernel
theorem dr_cX17_giveAll_123 : decode cX17_giveAll 123 = .ok (.aload_n 0, 1) := by decide +kernel
theorem dr_cX17_giveAll_124 : decode cX17_giveAll 124 = .ok (.iload 7, 2) := by decide +kernel
theorem dr_cX17_giveAll_126 : decode cX17_giveAll 126 = .ok (.aload 6, 2) := by decide +kernel
theorem dr_cX17_giveAll_128 : decode cX17_giveAll 128 = .ok (.getfield 117, 3) := by decide +kernel
theorem dr_cX17_giveAll_131 : decode cX17_giveAll 131 = .ok (.invokevirtual 121, 3) := by decide +kernel
theorem dr_cX17_giveAll_134 : decode cX17_giveAll 134 = .ok (.if_icmp .ge 19, 3) := by decide +kernel
theorem dr_cX17_giveAll_153 : decode cX17_giveAll 153 = .ok (.aload 6, 2) := by decide +kernel
theorem dr_cX17_giveAll_155 : decode cX17_giveAll 155 = .ok (.getfield 109, 3) := by decide +kernel
theorem dr_cX17_giveAll_158 : decode cX17_giveAll 158 = .ok (.invokevirtual 256, 3) := by decide +kernel
theorem wr_11_51 : (Jvm.Cond.methodLink "SpillForgeModel" (256 : Nat) ({ cls := "SpillForgeModel", name := "coloured", desc := "(LSpillForgeModel$Row;)V" } : Jvm.MethodName)) ∈ gw := gw_11 51 rfl rfl
theorem wr_11_54 : (Jvm.Cond.code ({ cls := "SpillForgeModel", name := "coloured", desc := "(LSpillForgeModel$Row;)V" } : Jvm.MethodName) prog_14_method_25_code (2 : Nat) (Option.none : Option Jvm.ClassFile.FieldType)) ∈ gw := gw_11 54 rfl rfl
theorem wr_11_53 : (Jvm.Cond.instanceMethod ({ cls := "SpillForgeModel", name := "coloured", desc := "(LSpillForgeModel$Row;)V" } : Jvm.MethodName)) ∈ gw := gw_11 53 rfl rfl
theorem wr_p_108 : Cond.selects "SpillForgeModel" ⟨"SpillForgeModel", "coloured", "(LSpillForgeModel$Row;)V"⟩ ⟨"SpillForgeModel", "coloured", "(LSpillForgeModel$Row;)V"⟩ ∈ gw := gw_p _ 108 rfl rfl rfl
theorem dr_cX17_giveAll_161 : decode cX17_giveAll 161 = .ok (.iinc 7 1, 3) := by decide +kernel
theorem dr_cX17_giveAll_164 : decode cX17_giveAll 164 = .ok (.goto (-54), 3) := by decide +kernel
theorem dr_cX17_giveAll_137 : decode cX17_giveAll 137 = .ok (.aload 6, 2) := by decide +kernel
theorem dr_cX17_giveAll_139 : decode cX17_giveAll 139 = .ok (.getfield 117, 3) := by decide +kernel
theorem dr_cX17_giveAll_142 : decode cX17_giveAll 142 = .ok (.iload 7, 2) := by decide +kernel
theorem dr_cX17_giveAll_144 : decode cX17_giveAll 144 = .ok (.invokevirtual 124, 3) := by decide +kernel
theorem dr_cX17_giveAll_147 : decode cX17_giveAll 147 = .ok (.checkcast 40, 3) := by decide +kernel
theorem dr_cX17_giveAll_150 : decode cX17_giveAll 150 = .ok (.goto 8, 3) := by decide +kernel
theorem dr_cX17_giveAll_61 : decode cX17_giveAll 61 = .ok (.aload_n 0, 1) := by decide +kernel
theorem dr_cX17_giveAll_62 : decode cX17_giveAll 62 = .ok (.aload_n 1, 1) := by decide +kernel
theorem dr_cX17_giveAll_63 : decode cX17_giveAll 63 = .ok (.iconst 0, 1) := by decide +kernel
theorem dr_cX17_giveAll_64 : decode cX17_giveAll 64 = .ok (.invokevirtual 243, 3) := by decide +kernel
theorem dr_cX17_giveAll_67 : decode cX17_giveAll 67 = .ok (.goto (-15), 3) := by decide +kernel
theorem dr_cX17_giveAll_44 : decode cX17_giveAll 44 = .ok (.iconst (-1), 1) := by decide +kernel
theorem dr_cX17_giveAll_45 : decode cX17_giveAll 45 = .ok (.ireturn, 1) := by decide +kernel
abbrev ky_614040_SpillForgeModel_giveAll : gKey := (cX17_giveAll, 8, "SpillForgeModel", (some FieldType.int), [], "giveAll", fun _ _ => True)
def pg_614040_SpillForgeModel_giveAll (D : va_G) (I : FieldType → ClassId) (γ0 el0 : Nat → Nat → Nat) (f : Nat) (B : Nat) (P614032 : List Nat) (F614033 : Nat → va_E) (q614034 : Nat) (q614035 : Nat) (p614036 : Int32) : Option Value → va_W → Nat → Nat → Prop := fun r w dc ds => ∃ (P639345 : List Nat) (F639346 : Nat → va_E) (γ el : Nat → Nat → Nat) (o639344 : Int32), r = some (.int o639344) ∧ w = va_pl P639345 F639346 ∧ rSk f [101] ([1, 3, 5, 6, 8, 9, 101] ++ npk) D I P614032 F614033 γ0 el0 P639345 F639346 γ el ∧ (18 * dc + rPh γ0 el0 f ≤ rPh γ el f ∧ ds + rPh γ0 el0 f ≤ rPh γ el f) ∧ rBd γ el f B ∧ gB o639344 (-1) 40 ∧ γ 6 f = γ0 6 f ∧ mKp (F614033 q614034) (F639346 q614034)
set_option maxRecDepth 100000 in
set_option maxHeartbeats 20000000 in
theorem cg_614040_SpillForgeModel_giveAll (l : Launch) (hl0 : l.stackTraces = false) (D : va_G) (I : FieldType → ClassId) (γ0 el0 : Nat → Nat → Nat) (f : Nat) (B : Nat) (P614032 : List Nat) (F614033 : Nat → va_E) (q614034 : Nat) (q614035 : Nat) (p614036 : Int32) (hT0 : RS D I P614032 F614033 γ0 el0) (hzq614034 : rKd γ0 q614034 10) (hzq614035 : rKd γ0 q614035 9) (hf0 : γ0 1 q614035 = f) (hB0 : rBd γ0 el0 f B) (hBk : B ≤ 100000) (bp614036 : gB p614036 1 32) (x614037 : 0 < γ0 6 f) (x614038 : γ0 7 f = 0) (x614039 : γ0 16 f + 3901 ≤ B) : CtA (gV D I) l yX17_giveAll cX17_giveAll 8 (some FieldType.int) 10 224 (((387 * B + 6000) - rPh γ0 el0 f) / 18) ((387 * B + 6000) - rPh γ0 el0 f) [.ref q614034, .ref q614035, .int p614036] (va_pl P614032 F614033) (pg_614040_SpillForgeModel_giveAll D I γ0 el0 f B P614032 F614033 q614034 q614035 p614036) gNA := by
  refine CtA_of hl0 (by decide) (Nat.le_of_ble_eq_true rfl) ?_
  obtain ⟨γ, hγ0⟩ : ∃ z, z = γ0 := ⟨_, rfl⟩
  obtain ⟨el, hel0⟩ : ∃ z, z = el0 := ⟨_, rfl⟩
  have hT : RS D I P614032 F614033 γ el := by rw [hγ0, hel0]; exact hT0
  have hst : rSk f [101] ([1, 3, 5, 6, 8, 9, 101] ++ npk) D I P614032 F614033 γ0 el0 P614032 F614033 γ el := by rw [hγ0, hel0]; exact rSk_rf hT0
  have hph : rPh γ0 el0 f ≤ rPh γ el f := by rw [hγ0, hel0]; exact Nat.le_refl _
  have hB : rBd γ el f B := by rw [hγ0, hel0]; exact hB0
  have htq614034 : rKd γ q614034 10 := by rw [hγ0]; exact hzq614034
  have htq614035 : rKd γ q614035 9 := by rw [hγ0]; exact hzq614035
  have hf1 : γ 1 q614035 = f := by rw [hγ0]; exact hf0
  have x614037n : 0 < γ 6 f := by rw [hγ0]; exact x614037
  have x614038n : γ 7 f = 0 := by rw [hγ0]; exact x614038
  have x614039n : γ 16 f + 3901 ≤ B := by rw [hγ0]; exact x614039
  have pk614041 : rPh γ el f ≤ 387 * B + 6000 := rm_pk (rM_ge hT htq614035 hf1).1 (rM_bd hB)
  refine G_widen (cs' := ((rPh γ el f - rPh γ0 el0 f) / 18)) (sl' := (rPh γ el f - rPh γ0 el0 f)) (Nat.zero_le _) (Nat.zero_le _) ?_
  have lz0 : Int32.toInt 0 = 0 := by decide
  have r614042 : γ 6 f = γ0 6 f := by rw [hγ0]
  have r614043 : γ 7 f = γ0 7 f := by rw [hγ0]
  have r614044 : γ 16 f = γ0 16 f := by rw [hγ0]
  have r614045 : γ 18 f = γ0 18 f := by rw [hγ0]
  have r614046 : γ 19 f = γ0 19 f := by rw [hγ0]
  have hm614047 : q614034 ∈ P614032 := RS_m hT htq614034 (by decide)
  refine rk10_e (show rk_10 γ (F614033 q614034) from RS_o hT htq614034) (fun q614049 q614050 p614051 p614052 p614053 p614054 p614055 p614056 p614057 p614058 p614059 p614060 p614061 p614062 p614063 p614064 p614065 he614048 hB614092 ht614066 ht614067 ht614068 ht614069 ht614070 ht614071 ht614072 ht614073 ht614074 ht614075 ht614076 ht614077 ht614078 ht614079 ht614080 ht614081 ht614082 ht614083 ht614084 ht614085 ht614086 ht614087 ht614088 ht614089 hB614093 => ?_)
  have k0_3 : rKd γ0 (γ0 9 3) 14 := by rw [← hγ0]; exact ht614071
  have k0_17 : rKd γ0 (γ0 9 17) 20 := by rw [← hγ0]; exact ht614079
  refine G_aload_n 0 dr_cX17_giveAll_0 rfl ?_
  refine G_iconst 0 dr_cX17_giveAll_1 (by decide +kernel) ?_
  refine Gp_put 11 hm614047 he614048 dr_cX17_giveAll_2 (gk_X17 D I) (Nat.le_of_ble_eq_true rfl) wr_7_85 rfl rfl rfl (Nat.le_of_ble_eq_true rfl) (fun F614094 e614095 n614096 => ?_)
  have he614097 : F614094 q614034 = .inr (22, [.ref (γ 9 0), .ref (γ 9 1), .ref (γ 9 2), .ref (γ 9 3), .ref (γ 9 4), .ref (γ 9 5), .ref (γ 9 6), .ref (γ 9 7), .ref (γ 9 8), .int p614051, .int p614052, .int 0, .int p614054, .int p614055, .int p614056, .ref (γ 9 15), .ref (γ 9 16), .ref (γ 9 17), .ref (γ 9 18), .ref (γ 9 19), .ref (γ 9 20), .ref (γ 9 21), .ref (γ 9 22), .int p614057, .int p614058, .int p614059, .int p614060, .int p614061, .ref q614049, .ref (γ 9 29), .int p614062, .ref (γ 9 31), .int p614063, .int p614064, .int p614065, .ref q614050]) := e614095
  have mk614098 : mKp (F614033 q614034) (F614094 q614034) := mKp_tr mKp_rf (by rw [he614048, he614097]; exact ⟨rfl, rfl⟩)
  have kp614099 : F614094 (γ0 9 3) = F614033 (γ0 9 3) := n614096 (γ0 9 3) (rn_ty (rSk_k hst k0_3 (by decide) (by decide)) htq614034 (by decide))
  have kp614100 : F614094 (γ0 9 17) = F614033 (γ0 9 17) := n614096 (γ0 9 17) (rn_ty (rSk_k hst k0_17 (by decide) (by decide)) htq614034 (by decide))
  refine G_aload_n 0 dr_cX17_giveAll_5 rfl ?_
  refine G_iconst 0 dr_cX17_giveAll_6 (by decide +kernel) ?_
  refine Gp_put 12 hm614047 he614097 dr_cX17_giveAll_7 (gk_X17 D I) (Nat.le_of_ble_eq_true rfl) wr_7_86 rfl rfl rfl (Nat.le_of_ble_eq_true rfl) (fun F614101 e614102 n614103 => ?_)
  have he614104 : F614101 q614034 = .inr (22, [.ref (γ 9 0), .ref (γ 9 1), .ref (γ 9 2), .ref (γ 9 3), .ref (γ 9 4), .ref (γ 9 5), .ref (γ 9 6), .ref (γ 9 7), .ref (γ 9 8), .int p614051, .int p614052, .int 0, .int 0, .int p614055, .int p614056, .ref (γ 9 15), .ref (γ 9 16), .ref (γ 9 17), .ref (γ 9 18), .ref (γ 9 19), .ref (γ 9 20), .ref (γ 9 21), .ref (γ 9 22), .int p614057, .int p614058, .int p614059, .int p614060, .int p614061, .ref q614049, .ref (γ 9 29), .int p614062, .ref (γ 9 31), .int p614063, .int p614064, .int p614065, .ref q614050]) := e614102
  have mk614105 : mKp (F614033 q614034) (F614101 q614034) := mKp_tr mk614098 (by rw [he614097, he614104]; exact ⟨rfl, rfl⟩)
  have n614106 : ∀ b, b ≠ q614034 → F614101 b = F614033 b := fun b hb => (n614103 b hb).trans (n614096 b hb)
  have kp614107 : F614101 (γ0 9 3) = F614033 (γ0 9 3) := (n614103 (γ0 9 3) (rn_ty (rSk_k hst k0_3 (by decide) (by decide)) htq614034 (by decide))).trans kp614099
  have kp614108 : F614101 (γ0 9 17) = F614033 (γ0 9 17) := (n614103 (γ0 9 17) (rn_ty (rSk_k hst k0_17 (by decide) (by decide)) htq614034 (by decide))).trans kp614100
  refine G_aload_n 0 dr_cX17_giveAll_10 rfl ?_
  refine G_iconst 0 dr_cX17_giveAll_11 (by decide +kernel) ?_
  refine Gp_put 13 hm614047 he614104 dr_cX17_giveAll_12 (gk_X17 D I) (Nat.le_of_ble_eq_true rfl) wr_7_87 rfl rfl rfl (Nat.le_of_ble_eq_true rfl) (fun F614109 e614110 n614111 => ?_)
  have he614112 : F614109 q614034 = .inr (22, [.ref (γ 9 0), .ref (γ 9 1), .ref (γ 9 2), .ref (γ 9 3), .ref (γ 9 4), .ref (γ 9 5), .ref (γ 9 6), .ref (γ 9 7), .ref (γ 9 8), .int p614051, .int p614052, .int 0, .int 0, .int 0, .int p614056, .ref (γ 9 15), .ref (γ 9 16), .ref (γ 9 17), .ref (γ 9 18), .ref (γ 9 19), .ref (γ 9 20), .ref (γ 9 21), .ref (γ 9 22), .int p614057, .int p614058, .int p614059, .int p614060, .int p614061, .ref q614049, .ref (γ 9 29), .int p614062, .ref (γ 9 31), .int p614063, .int p614064, .int p614065, .ref q614050]) := e614110
  have mk614113 : mKp (F614033 q614034) (F614109 q614034) := mKp_tr mk614105 (by rw [he614104, he614112]; exact ⟨rfl, rfl⟩)
  have n614114 : ∀ b, b ≠ q614034 → F614109 b = F614033 b := fun b hb => (n614111 b hb).trans (n614106 b hb)
  have kp614115 : F614109 (γ0 9 3) = F614033 (γ0 9 3) := (n614111 (γ0 9 3) (rn_ty (rSk_k hst k0_3 (by decide) (by decide)) htq614034 (by decide))).trans kp614107
  have kp614116 : F614109 (γ0 9 17) = F614033 (γ0 9 17) := (n614111 (γ0 9 17) (rn_ty (rSk_k hst k0_17 (by decide) (by decide)) htq614034 (by decide))).trans kp614108
  refine G_aload_n 0 dr_cX17_giveAll_15 rfl ?_
  refine G_bipush 100 dr_cX17_giveAll_16 (by decide +kernel) ?_
  refine Gp_put 14 hm614047 he614112 dr_cX17_giveAll_18 (gk_X17 D I) (Nat.le_of_ble_eq_true rfl) wr_7_88 rfl rfl rfl (Nat.le_of_ble_eq_true rfl) (fun F614117 e614118 n614119 => ?_)
  have he614120 : F614117 q614034 = .inr (22, [.ref (γ 9 0), .ref (γ 9 1), .ref (γ 9 2), .ref (γ 9 3), .ref (γ 9 4), .ref (γ 9 5), .ref (γ 9 6), .ref (γ 9 7), .ref (γ 9 8), .int p614051, .int p614052, .int 0, .int 0, .int 0, .int 100, .ref (γ 9 15), .ref (γ 9 16), .ref (γ 9 17), .ref (γ 9 18), .ref (γ 9 19), .ref (γ 9 20), .ref (γ 9 21), .ref (γ 9 22), .int p614057, .int p614058, .int p614059, .int p614060, .int p614061, .ref q614049, .ref (γ 9 29), .int p614062, .ref (γ 9 31), .int p614063, .int p614064, .int p614065, .ref q614050]) := e614118
  have mk614121 : mKp (F614033 q614034) (F614117 q614034) := mKp_tr mk614113 (by rw [he614112, he614120]; exact ⟨rfl, rfl⟩)
  have n614122 : ∀ b, b ≠ q614034 → F614117 b = F614033 b := fun b hb => (n614119 b hb).trans (n614114 b hb)
  have kp614123 : F614117 (γ0 9 3) = F614033 (γ0 9 3) := (n614119 (γ0 9 3) (rn_ty (rSk_k hst k0_3 (by decide) (by decide)) htq614034 (by decide))).trans kp614115
  have kp614124 : F614117 (γ0 9 17) = F614033 (γ0 9 17) := (n614119 (γ0 9 17) (rn_ty (rSk_k hst k0_17 (by decide) (by decide)) htq614034 (by decide))).trans kp614116
  refine G_aload_n 0 dr_cX17_giveAll_21 rfl ?_
  have hT614125 : RS D I P614032 F614117 γ el := RS_set hT n614122 htq614034 (by decide) ⟨q614049, q614050, p614051, p614052, 0, 0, 0, 100, p614057, p614058, p614059, p614060, p614061, p614062, p614063, p614064, p614065, he614120, ⟨(hB614092.1), (hB614092.2.1), (gB_w (gBl (show Int32.toInt 0 = 0 by decide)) (by decide) (by decide)), (gB_w (gBl (show Int32.toInt 100 = 100 by decide)) (by decide) (by decide)), (hB614092.2.2.2.2.1), (hB614092.2.2.2.2.2.1), (hB614092.2.2.2.2.2.2.1), (hB614092.2.2.2.2.2.2.2.1), (hB614092.2.2.2.2.2.2.2.2)⟩, ht614066, ht614067, ht614068, ht614069, ht614070, ht614071, ht614072, ht614073, ht614074, ht614075, ht614076, ht614077, ht614078, ht614079, ht614080, ht614081, ht614082, ht614083, ht614084, ht614085, ht614086, ht614087, ht614088, ht614089, hB614093⟩
  have hs614126 := rSk_put hst hT614125 n614122 htq614034 (by decide) (by decide)
  have ac614127 : (fI (F614117 q614034) 11).toInt = 0 := by rw [he614120]; show Int32.toInt 0 = 0; decide
  have ac614128 : (fI (F614117 q614034) 14).toInt = 100 := by rw [he614120]; show Int32.toInt 100 = 100; decide
  refine G_aload_n 1 dr_cX17_giveAll_22 rfl ?_
  have rg614129 := rM_ge hT614125 htq614035 hf1
  have rm614130 := rM_bd hB
  have bd614131 := rBd_c hT614125 htq614035 hf1 hB
  have rc614132 := rc_at hT614125 htq614035 hf1
  refine Gw_callV (As := [.ref q614035]) (gV_ok D I) (cg_356980_SpillForgeModel_zeros l hl0 D I γ el f B P614032 F614117 q614034 q614035 hT614125 htq614034 htq614035 hf1 hB hBk (by omega) (by omega)) dr_cX17_giveAll_23 ⟨wr_10_148, wr_1_14, wr_10_151, by decide, rfl, (Nat.le_of_ble_eq_true rfl), (Nat.le_of_ble_eq_true rfl)⟩ wr_10_150 wr_p_93 hm614047 he614120 rfl (rm_gc hph pk614041) (rm_gs hph pk614041) (Nat.le_of_ble_eq_true rfl) (fun r614136 w614137 dc614133 ds614134 hp614135 => ?_) (fun _ _ _ _ _ z => z.elim)
  obtain ⟨P614143, F614144, γ, el, rfl, rfl, hk614145, ⟨hr614146, hr614147⟩, hB614148, x614138, x614139, x614140, x614141, x614142⟩ := hp614135
  have hT614149 := hk614145.1
  have hs614150 := rSk_tr hs614126 hk614145 (by decide) (by decide) (by decide)
  have ht614151 : rKd γ q614034 10 := rSk_k hk614145 htq614034 (by decide) (by decide)
  have ht614152 : rKd γ q614035 9 := rSk_k hk614145 htq614035 (by decide) (by decide)
  have hf614153 : γ 1 q614035 = f := rSk_1 hk614145 htq614035 (by decide) hf1
  clear rg614129 rm614130 bd614131 rc614132
  have mk614154 : mKp (F614033 q614034) (F614144 q614034) := mKp_tr mk614121 (mKp_eq x614142)
  have hph614155 : rPh γ0 el0 f ≤ rPh γ el f := rm_ph hph hr614147
  have pk614156 : rPh γ el f ≤ 387 * B + 6000 := rm_pk (rM_ge hT614149 ht614152 hf614153).1 (rM_bd hB614148)
  change G _ _ _ _ _ _ _ _ _ _ _
  refine G_widen (cs' := ((rPh γ el f - rPh γ0 el0 f) / 18)) (sl' := (rPh γ el f - rPh γ0 el0 f)) (rm_wc hph hr614146) (rm_ws hph hr614147) ?_
  have r614157 : 0 < γ 6 (γ 1 q614035) := by rw [hf614153]; omega
  have ac614158 : (fI (F614144 q614034) 11).toInt = (fI (F614117 q614034) 11).toInt := by rw [x614142]
  have ac614159 : (fI (F614144 q614034) 14).toInt = (fI (F614117 q614034) 14).toInt := by rw [x614142]
  have hm614160 : q614034 ∈ P614143 := RS_m hT614149 ht614151 (by decide)
  refine rk10_e (show rk_10 γ (F614144 q614034) from RS_o hT614149 ht614151) (fun q614162 q614163 p614164 p614165 p614166 p614167 p614168 p614169 p614170 p614171 p614172 p614173 p614174 p614175 p614176 p614177 p614178 he614161 hB614205 ht614179 ht614180 ht614181 ht614182 ht614183 ht614184 ht614185 ht614186 ht614187 ht614188 ht614189 ht614190 ht614191 ht614192 ht614193 ht614194 ht614195 ht614196 ht614197 ht614198 ht614199 ht614200 ht614201 ht614202 hB614206 => ?_)
  have ac614207 : (fI (F614144 q614034) 11).toInt = p614166.toInt := by rw [he614161]; rfl
  have bp614166 : gB p614166 0 100 := (hB614205.2.2.1)
  have ac614208 : (fI (F614144 q614034) 14).toInt = p614169.toInt := by rw [he614161]; rfl
  have bp614169 : gB p614169 0 2000 := (hB614205.2.2.2.1)
  have ni614209 : rNI γ el F614144 q614035 (γ 6 f) (fI (F614144 q614034) 11).toInt := rNI_s (rNI_0 hT614149 ht614152 hf614153 (by omega)) (by omega)
  refine G_iconst 1 dr_cX17_giveAll_26 (by decide +kernel) ?_
  refine G_istore_n (L' := [(3, .int 1), (0, .ref q614034), (1, .ref q614035), (2, .int p614036)]) dr_cX17_giveAll_27 (Nat.le_of_ble_eq_true rfl) rfl ?_
  have hlp28_636236 : ∀ (n28_636236 : Nat) (P636225 : List Nat) (F636226 : Nat → va_E) (γ el : Nat → Nat → Nat) (g636224 : Int32), gB g636224 1 41 → RS D I P636225 F636226 γ el → rSk f [101] ([1, 3, 5, 6, 8, 9, 101] ++ npk) D I P614032 F614033 γ0 el0 P636225 F636226 γ el → rPh γ0 el0 f ≤ rPh γ el f → rBd γ el f B → γ 6 f = γ0 6 f → ((γ 7 f : Nat) : Int) = (fI (F636226 q614034) 11).toInt → ((γ 16 f : Nat) : Int) + 2001 ≤ (B : Int) + (fI (F636226 q614034) 14).toInt → 100 ≤ (fI (F636226 q614034) 14).toInt → rNI γ el F636226 q614035 (γ 6 f) (fI (F636226 q614034) 11).toInt → mKp (F614033 q614034) (F636226 q614034) → ((42 : Int) - g636224.toInt).toNat < n28_636236 → G (gV D I) l (gRm 10 224 (((387 * B + 6000) - rPh γ0 el0 f) / 18) ((387 * B + 6000) - rPh γ0 el0 f)) (gMA (gV D I) (pg_614040_SpillForgeModel_giveAll D I γ0 el0 f B P614032 F614033 q614034 q614035 p614036) gNA (((387 * B + 6000) - rPh γ0 el0 f) / 18) ((387 * B + 6000) - rPh γ0 el0 f)) ky_614040_SpillForgeModel_giveAll 28 [(3, .int g636224), (0, .ref q614034), (1, .ref q614035), (2, .int p614036)] [] (va_pl P636225 F636226) ((rPh γ el f - rPh γ0 el0 f) / 18) (rPh γ el f - rPh γ0 el0 f) := by
    intro n28_636236
    induction n28_636236 with
    | zero => intro P636225 F636226 γ el g636224 bg636224 hT636227 hs636228 hph636229 hB636230 x636231 x636232 x636233 x636234 x636235 x636236 hm28_636236; exact absurd hm28_636236 (Nat.not_lt_zero _)
    | succ n28_636236 ih28_636236 =>
      intro P636225 F636226 γ el g636224 bg636224 hT636227 hs636228 hph636229 hB636230 x636231 x636232 x636233 x636234 x636235 x636236 hm28_636236
      clear r614042 r614043 r614044 r614045 r614046 hr614146 hr614147 hph614155 pk614156 r614157
      have ht636238 : rKd γ q614034 10 := rSk_k hs636228 hzq614034 (by decide) (by decide)
      have ht636239 : rKd γ q614035 9 := rSk_k hs636228 hzq614035 (by decide) (by decide)
      have hf636240 : γ 1 q614035 = f := rSk_1 hs636228 hzq614035 (by decide) hf0
      have pk636241 : rPh γ el f ≤ 387 * B + 6000 := rm_pk (rM_ge hT636227 ht636239 hf636240).1 (rM_bd hB636230)
      have r636242 : 0 < γ 6 (γ 1 q614035) := by rw [hf636240]; omega
      have hm636243 : q614034 ∈ P636225 := RS_m hT636227 ht636238 (by decide)
      refine rk10_e (show rk_10 γ (F636226 q614034) from RS_o hT636227 ht636238) (fun q636245 q636246 p636247 p636248 p636249 p636250 p636251 p636252 p636253 p636254 p636255 p636256 p636257 p636258 p636259 p636260 p636261 he636244 hB636288 ht636262 ht636263 ht636264 ht636265 ht636266 ht636267 ht636268 ht636269 ht636270 ht636271 ht636272 ht636273 ht636274 ht636275 ht636276 ht636277 ht636278 ht636279 ht636280 ht636281 ht636282 ht636283 ht636284 ht636285 hB636289 => ?_)
      have ac636290 : (fI (F636226 q614034) 11).toInt = p636249.toInt := by rw [he636244]; rfl
      have bp636249 : gB p636249 0 100 := (hB636288.2.2.1)
      have ac636291 : (fI (F636226 q614034) 14).toInt = p636252.toInt := by rw [he636244]; rfl
      have bp636252 : gB p636252 0 2000 := (hB636288.2.2.2.1)
      refine G_iload_n 0 dr_cX17_giveAll_28 rfl ?_
      refine G_bipush 40 dr_cX17_giveAll_29 (by decide +kernel) ?_
      refine G_icmp_gt 207 dr_cX17_giveAll_31 (by decide +kernel) (fun hc636292 => ?_) (fun hc636292 => ?_)
      · have r636293 : 40 < g636224.toInt := gj_ltL hc636292 (show Int32.toInt 40 = 40 by decide)
        have bg636224' : gB g636224 41 41 := ⟨by omega, by omega⟩
        refine G_iconst (-1) dr_cX17_giveAll_207 (by decide +kernel) ?_
        exact G_iretA dr_cX17_giveAll_208 rfl (show ((rPh γ el f - rPh γ0 el0 f) / 18) ≤ (((387 * B + 6000) - rPh γ0 el0 f) / 18) by omega) (show (rPh γ el f - rPh γ0 el0 f) ≤ ((387 * B + 6000) - rPh γ0 el0 f) by omega) ⟨P636225, F636226, γ, el, (-1), rfl, rfl, hs636228, ⟨by omega, by omega⟩, hB636230, (gB_w (gBl (show Int32.toInt (-1) = (-1) by decide)) (by decide) (by decide)), (by have qa0 : Int32.toInt (-1) = (-1) := (by decide); omega), x636236⟩
      · have r636294 : g636224.toInt ≤ 40 := gj_nltL hc636292 (show Int32.toInt 40 = 40 by decide)
        have bg636224' : gB g636224 1 40 := ⟨by omega, by omega⟩
        refine G_aload_n 2 dr_cX17_giveAll_34 rfl ?_
        have hm636300 : q614035 ∈ P636225 := RS_m hT636227 ht636239 (by decide)
        obtain ⟨q636302, q636303, p636304, p636305, he636301, ht636321, ht636306, ht636307, ht636308, ht636309, r636310, r636311, r636312, r636313, r636314, r636315, r636316, r636317, r636318, r636319, r636320⟩ := show rk_9 γ el q614035 (F636226 q614035) from RS_o hT636227 ht636239
        have bp636304 : gB p636304 0 1000000 := ⟨by omega, by omega⟩
        have bp636305 : gB p636305 0 1000000 := ⟨by omega, by omega⟩
        have hf636322 : γ 1 q636302 = f := (show γ 1 q636302 = γ 1 q614035 from ht636307).trans hf636240
        have hf636323 : γ 1 q636303 = f := (show γ 1 q636303 = γ 1 q614035 from ht636309).trans hf636240
        have r636324 : γ 6 (γ 1 q614035) = γ 6 f := by rw [hf636240]
        have r636325 : γ 16 (γ 1 q614035) = γ 16 f := by rw [hf636240]
        have r636326 : p636305.toInt = γ 6 f ∧ p636305.toInt ≤ 40 := by omega
        clear r636316
        refine Gw_callV (As := []) (gV_ok D I) (ct_7646_Code_countRows l hl0 D I γ el P636225 F636226 q614035 hT636227 ht636239 (by omega)) dr_cX17_giveAll_35 ⟨wr_10_225, wr_1_15, wr_10_228, by decide, rfl, (Nat.le_of_ble_eq_true rfl), (Nat.le_of_ble_eq_true rfl)⟩ wr_10_226 wr_10_227 hm636300 he636301 rfl (rm_zc pk636241) (rm_zs pk636241) (Nat.le_of_ble_eq_true rfl) (fun r636298 w636299 dc636295 ds636296 hp636297 => ?_) (fun _ _ _ _ _ z => z.elim)
        obtain ⟨o636327, rfl, rfl, hdc, hds⟩ := hp636297
        have bo636327 := gB_any o636327
        change G _ _ _ _ _ _ _ (.int o636327 :: _) _ _ _
        refine G_widen (cs' := ((rPh γ el f - rPh γ0 el0 f) / 18)) (sl' := (rPh γ el f - rPh γ0 el0 f)) (rm_d0 hdc) (rm_d0 hds) ?_
        refine G_sipush 4000 dr_cX17_giveAll_38 (by decide +kernel) ?_
        refine G_icmp_le 46 dr_cX17_giveAll_41 (by decide +kernel) (fun hc636328 => ?_) (fun hc636328 => ?_)
        · have r636329 : o636327.toInt ≤ 4000 := gj_le hc636328 (show Int32.toInt 4000 = 4000 by decide)
          have bo636327' : gB o636327 (-2147483648) 4000 := ⟨by omega, by omega⟩
          refine G_aload_n 1 dr_cX17_giveAll_46 rfl ?_
          refine G_aload_n 2 dr_cX17_giveAll_47 rfl ?_
          refine G_iconst 0 dr_cX17_giveAll_48 (by decide +kernel) ?_
          refine Gw_callV (As := [.ref q614035, .int 0]) (gV_ok D I) (ct_270169_SpillForgeModel_graph l hl0 D I γ el P636225 F636226 q614034 q614035 0 hT636227 ht636238 ht636239 (gB_w (gBl (show Int32.toInt 0 = 0 by decide)) (by decide) (by decide)) (by omega)) dr_cX17_giveAll_49 ⟨wr_10_229, wr_1_14, wr_10_232, by decide, rfl, (Nat.le_of_ble_eq_true rfl), (Nat.le_of_ble_eq_true rfl)⟩ wr_10_231 wr_p_99 hm636243 he636244 rfl (rm_zc pk636241) (rm_zs pk636241) (Nat.le_of_ble_eq_true rfl) (fun r636333 w636334 dc636330 ds636331 hp636332 => ?_) (fun _ _ _ _ _ z => z.elim)
          obtain ⟨F636337, rfl, rfl, hT636338, hs636339, hdc, hds, x636335, x636336⟩ := hp636332
          have he636340 : F636337 q614035 = .inr (18, [.ref q636302, .ref q636303, .int p636304, .int p636305]) := (hs636339 q614035 (rT0 ht636239 (by decide)) (rT1 ht636239 (by decide)) (rT2 ht636239 (by decide))).trans he636301
          have hs636341 := rSk_str hs636228 hT636338 hs636339 (by decide) (by decide) (by decide)
          have kp636342 : F636337 q614034 = F636226 q614034 := x636336
          have mk636343 : mKp (F614033 q614034) (F636337 q614034) := mKp_tr x636236 (mKp_eq x636336)
          have he636344 : F636337 q614034 = .inr (22, [.ref (γ 9 0), .ref (γ 9 1), .ref (γ 9 2), .ref (γ 9 3), .ref (γ 9 4), .ref (γ 9 5), .ref (γ 9 6), .ref (γ 9 7), .ref (γ 9 8), .int p636247, .int p636248, .int p636249, .int p636250, .int p636251, .int p636252, .ref (γ 9 15), .ref (γ 9 16), .ref (γ 9 17), .ref (γ 9 18), .ref (γ 9 19), .ref (γ 9 20), .ref (γ 9 21), .ref (γ 9 22), .int p636253, .int p636254, .int p636255, .int p636256, .int p636257, .ref q636245, .ref (γ 9 29), .int p636258, .ref (γ 9 31), .int p636259, .int p636260, .int p636261, .ref q636246]) := (x636336).trans he636244
          rw [show Int32.toInt 0 = 0 from by decide] at x636335
          change G _ _ _ _ _ _ _ _ _ _ _
          refine G_widen (cs' := ((rPh γ el f - rPh γ0 el0 f) / 18)) (sl' := (rPh γ el f - rPh γ0 el0 f)) (rm_d0 hdc) (rm_d0 hds) ?_
          have ni636345 : rNI γ el F636337 q614035 (γ 6 f) (fI (F636337 q614034) 11).toInt := rNI_s (rNI_str hT636227 ht636239 hf636240 hs636339 (by decide) x636235) (by rw [x636336])
          have gr636346 : rGr γ el F636337 q614035 (γ 6 f) (cB (F636337 (γ0 9 3))) (vA (γ 6 f)) := by have z := x636335 (by decide); rw [hf636240] at z; rw [← congrFun (rSk_9 hs636341) 3]; exact gq_str hT636227 ht636239 hf636240 hs636339 (by decide) z
          have ac636347 : (fI (F636337 q614034) 11).toInt = (fI (F636226 q614034) 11).toInt := by rw [kp636342]
          have ac636348 : (fI (F636337 q614034) 14).toInt = (fI (F636226 q614034) 14).toInt := by rw [kp636342]
          have hlp52_637833 : ∀ (n52_637833 : Nat) (P637821 : List Nat) (F637822 : Nat → va_E) (γ el : Nat → Nat → Nat) , RS D I P637821 F637822 γ el → rSk f [101] ([1, 3, 5, 6, 8, 9, 101] ++ npk) D I P614032 F614033 γ0 el0 P637821 F637822 γ el → rPh γ0 el0 f ≤ rPh γ el f → rBd γ el f B → γ 6 f = γ0 6 f → ((γ 7 f : Nat) : Int) = (fI (F637822 q614034) 11).toInt → ((γ 16 f : Nat) : Int) + 2001 ≤ (B : Int) + (fI (F637822 q614034) 14).toInt → 100 ≤ (fI (F637822 q614034) 14).toInt → rNI γ el F637822 q614035 (γ 6 f) (fI (F637822 q614034) 11).toInt → rGr γ el F637822 q614035 (γ 6 f) (cB (F637822 (γ0 9 3))) (vA (γ 6 f)) → mKp (F614033 q614034) (F637822 q614034) → rsum (fun i => γ 2 (γ 14 (el (γ 14 q614035) i))) (γ 6 f) < n52_637833 → G (gV D I) l (gRm 10 224 (((387 * B + 6000) - rPh γ0 el0 f) / 18) ((387 * B + 6000) - rPh γ0 el0 f)) (gMA (gV D I) (pg_614040_SpillForgeModel_giveAll D I γ0 el0 f B P614032 F614033 q614034 q614035 p614036) gNA (((387 * B + 6000) - rPh γ0 el0 f) / 18) ((387 * B + 6000) - rPh γ0 el0 f)) ky_614040_SpillForgeModel_giveAll 52 [(3, .int g636224), (0, .ref q614034), (1, .ref q614035), (2, .int p614036)] [] (va_pl P637821 F637822) ((rPh γ el f - rPh γ0 el0 f) / 18) (rPh γ el f - rPh γ0 el0 f) := by
            intro n52_637833
            induction n52_637833 with
            | zero => intro P637821 F637822 γ el hT637823 hs637824 hph637825 hB637826 x637827 x637828 x637829 x637830 x637831 x637832 x637833 hm52_637833; exact absurd hm52_637833 (Nat.not_lt_zero _)
            | succ n52_637833 ih52_637833 =>
              intro P637821 F637822 γ el hT637823 hs637824 hph637825 hB637826 x637827 x637828 x637829 x637830 x637831 x637832 x637833 hm52_637833
              clear r636310 r636311 r636312 r636313 r636314 r636315 r636317 r636318 r636319 r636320 bp636304 bp636305 r636324 r636325 r636326
              have ht637835 : rKd γ q614034 10 := rSk_k hs637824 hzq614034 (by decide) (by decide)
              have ht637836 : rKd γ q614035 9 := rSk_k hs637824 hzq614035 (by decide) (by decide)
              have hf637837 : γ 1 q614035 = f := rSk_1 hs637824 hzq614035 (by decide) hf0
              have pk637838 : rPh γ el f ≤ 387 * B + 6000 := rm_pk (rM_ge hT637823 ht637836 hf637837).1 (rM_bd hB637826)
              have r637839 : 0 < γ 6 (γ 1 q614035) := by rw [hf637837]; omega
              have hm637840 : q614034 ∈ P637821 := RS_m hT637823 ht637835 (by decide)
              refine rk10_e (show rk_10 γ (F637822 q614034) from RS_o hT637823 ht637835) (fun q637842 q637843 p637844 p637845 p637846 p637847 p637848 p637849 p637850 p637851 p637852 p637853 p637854 p637855 p637856 p637857 p637858 he637841 hB637885 ht637859 ht637860 ht637861 ht637862 ht637863 ht637864 ht637865 ht637866 ht637867 ht637868 ht637869 ht637870 ht637871 ht637872 ht637873 ht637874 ht637875 ht637876 ht637877 ht637878 ht637879 ht637880 ht637881 ht637882 hB637886 => ?_)
              have ac637887 : (fI (F637822 q614034) 11).toInt = p637846.toInt := by rw [he637841]; rfl
              have bp637846 : gB p637846 0 100 := (hB637885.2.2.1)
              have ac637888 : (fI (F637822 q614034) 14).toInt = p637849.toInt := by rw [he637841]; rfl
              have bp637849 : gB p637849 0 2000 := (hB637885.2.2.2.1)
              refine G_aload_n 1 dr_cX17_giveAll_52 rfl ?_
              refine G_aload_n 2 dr_cX17_giveAll_53 rfl ?_
              refine G_iload_n 3 dr_cX17_giveAll_54 rfl ?_
              have rg637889 := rM_ge hT637823 ht637836 hf637837
              have rm637890 := rM_bd hB637826
              have bd637891 := rBd_c hT637823 ht637836 hf637837 hB637826
              have rc637892 := rc_at hT637823 ht637836 hf637837
              refine Gw_callV (As := [.ref q614035, .int p614036]) (gV_ok D I) (cg_387568_SpillForgeModel_merge l hl0 D I γ el f B P637821 F637822 q614034 q614035 p614036 hT637823 ht637835 ht637836 hf637837 hB637826 hBk (by omega)) dr_cX17_giveAll_55 ⟨wr_11_4, wr_1_14, wr_11_7, by decide, rfl, (Nat.le_of_ble_eq_true rfl), (Nat.le_of_ble_eq_true rfl)⟩ wr_11_6 wr_p_101 hm637840 he637841 rfl (rm_gc hph637825 pk637838) (rm_gs hph637825 pk637838) (Nat.le_of_ble_eq_true rfl) (fun r637896 w637897 dc637893 ds637894 hp637895 => ?_) (fun _ _ _ _ _ z => z.elim)
              obtain ⟨P637909, F637910, γ, el, o637898, rfl, rfl, hk637911, ⟨hr637912, hr637913⟩, hB637914, bo637898, x637899, x637900, x637901, x637902, x637903, x637904, x637905, x637906, x637907, x637908⟩ := hp637895
              have hT637915 := hk637911.1
              have hs637916 := rSk_tr hs637824 hk637911 (by decide) (by decide) (by decide)
              have ht637917 : rKd γ q614034 10 := rSk_k hk637911 ht637835 (by decide) (by decide)
              have ht637918 : rKd γ q614035 9 := rSk_k hk637911 ht637836 (by decide) (by decide)
              have hf637919 : γ 1 q614035 = f := rSk_1 hk637911 ht637836 (by decide) hf637837
              clear rg637889 rm637890 bd637891 rc637892
              have mk637920 : mKp (F614033 q614034) (F637910 q614034) := mKp_tr x637833 x637908
              have hph637921 : rPh γ0 el0 f ≤ rPh γ el f := rm_ph hph637825 hr637913
              have pk637922 : rPh γ el f ≤ 387 * B + 6000 := rm_pk (rM_ge hT637915 ht637918 hf637919).1 (rM_bd hB637914)
              change G _ _ _ _ _ _ _ (.int o637898 :: _) _ _ _
              refine G_widen (cs' := ((rPh γ el f - rPh γ0 el0 f) / 18)) (sl' := (rPh γ el f - rPh γ0 el0 f)) (rm_wc hph637825 hr637912) (rm_ws hph637825 hr637913) ?_
              have r637923 : 0 < γ 6 (γ 1 q614035) := by rw [hf637919]; omega
              have hm637924 : q614034 ∈ P637909 := RS_m hT637915 ht637917 (by decide)
              refine rk10_e (show rk_10 γ (F637910 q614034) from RS_o hT637915 ht637917) (fun q637926 q637927 p637928 p637929 p637930 p637931 p637932 p637933 p637934 p637935 p637936 p637937 p637938 p637939 p637940 p637941 p637942 he637925 hB637969 ht637943 ht637944 ht637945 ht637946 ht637947 ht637948 ht637949 ht637950 ht637951 ht637952 ht637953 ht637954 ht637955 ht637956 ht637957 ht637958 ht637959 ht637960 ht637961 ht637962 ht637963 ht637964 ht637965 ht637966 hB637970 => ?_)
              have ac637971 : (fI (F637910 q614034) 11).toInt = p637930.toInt := by rw [he637925]; rfl
              have bp637930 : gB p637930 0 100 := (hB637969.2.2.1)
              have ac637972 : (fI (F637910 q614034) 14).toInt = p637933.toInt := by rw [he637925]; rfl
              have bp637933 : gB p637933 0 2000 := (hB637969.2.2.2.1)
              have ni637973 : rNI γ el F637910 q614035 (γ 6 f) (fI (F637910 q614034) 11).toInt := rNI_s (rNI_mg x637904 x637831) x637905
              refine G_if_eq 70 dr_cX17_giveAll_58 (by decide +kernel) (fun hc637974 => ?_) (fun hc637974 => ?_)
              · have r637975 : o637898.toInt = 0 := gj_eq hc637974 (show Int32.toInt 0 = 0 by decide)
                have bo637898' : gB o637898 0 0 := gB_t0 r637975
                have r637976 := x637907 (by omega)
                have gr637977 : rGr γ el F637910 q614035 (γ 6 f) (cB (F637910 (γ0 9 3))) (vA (γ 6 f)) := by rw [r637976.1, r637976.2.1, r637976.2.2]; exact x637832
                refine G_aload_n 1 dr_cX17_giveAll_70 rfl ?_
                refine G_aload_n 2 dr_cX17_giveAll_71 rfl ?_
                refine Gw_callV (As := [.ref q614035]) (gV_ok D I) (ct_398573_SpillForgeModel_weigh l hl0 D I γ el P637909 F637910 q614034 q614035 hT637915 ht637917 ht637918 (by omega)) dr_cX17_giveAll_72 ⟨wr_11_29, wr_1_14, wr_11_32, by decide, rfl, (Nat.le_of_ble_eq_true rfl), (Nat.le_of_ble_eq_true rfl)⟩ wr_11_31 wr_p_104 hm637924 he637925 rfl (rm_zc pk637922) (rm_zs pk637922) (Nat.le_of_ble_eq_true rfl) (fun r637981 w637982 dc637978 ds637979 hp637980 => ?_) (fun _ _ _ _ _ z => z.elim)
                obtain ⟨F637985, rfl, rfl, hT637986, hs637987, hdc, hds, x637983, x637984⟩ := hp637980
                have hs637988 := rSk_str hs637916 hT637986 hs637987 (by decide) (by decide) (by decide)
                have kp637989 : F637985 q614034 = F637910 q614034 := x637983
                have kp637990 : F637985 (γ0 9 3) = F637910 (γ0 9 3) := (show F637985 (γ0 9 3) = F637910 (γ0 9 3) by rw [← congrFun (rSk_9 hs637988) 3]; exact x637984)
                have mk637991 : mKp (F614033 q614034) (F637985 q614034) := mKp_tr mk637920 (mKp_eq x637983)
                have he637992 : F637985 q614034 = .inr (22, [.ref (γ 9 0), .ref (γ 9 1), .ref (γ 9 2), .ref (γ 9 3), .ref (γ 9 4), .ref (γ 9 5), .ref (γ 9 6), .ref (γ 9 7), .ref (γ 9 8), .int p637928, .int p637929, .int p637930, .int p637931, .int p637932, .int p637933, .ref (γ 9 15), .ref (γ 9 16), .ref (γ 9 17), .ref (γ 9 18), .ref (γ 9 19), .ref (γ 9 20), .ref (γ 9 21), .ref (γ 9 22), .int p637934, .int p637935, .int p637936, .int p637937, .int p637938, .ref q637926, .ref (γ 9 29), .int p637939, .ref (γ 9 31), .int p637940, .int p637941, .int p637942, .ref q637927]) := (x637983).trans he637925
                change G _ _ _ _ _ _ _ _ _ _ _
                refine G_widen (cs' := ((rPh γ el f - rPh γ0 el0 f) / 18)) (sl' := (rPh γ el f - rPh γ0 el0 f)) (rm_d0 hdc) (rm_d0 hds) ?_
                have ni637993 : rNI γ el F637985 q614035 (γ 6 f) (fI (F637985 q614034) 11).toInt := rNI_s (rNI_str hT637915 ht637918 hf637919 hs637987 (by decide) ni637973) (by rw [x637983])
                have gr637994 : rGr γ el F637985 q614035 (γ 6 f) (cB (F637985 (γ0 9 3))) (vA (γ 6 f)) := by rw [← congrFun (rSk_9 hs637988) 3, x637984, congrFun (rSk_9 hs637988) 3]; exact gq_str hT637915 ht637918 hf637919 hs637987 (by decide) gr637977
                have ac637995 : (fI (F637985 q614034) 11).toInt = (fI (F637910 q614034) 11).toInt := by rw [kp637989]
                have ac637996 : (fI (F637985 q614034) 14).toInt = (fI (F637910 q614034) 14).toInt := by rw [kp637989]
                refine G_aload_n 1 dr_cX17_giveAll_75 rfl ?_
                refine G_iload_n 3 dr_cX17_giveAll_76 rfl ?_
                refine Gw_callV (As := [.int p614036]) (gV_ok D I) (ct_327366_SpillForgeModel_colours l hl0 D I γ el P637909 F637985 q614034 p614036 hT637986 ht637917 bp614036) dr_cX17_giveAll_77 ⟨wr_11_43, wr_1_14, wr_11_46, by decide, rfl, (Nat.le_of_ble_eq_true rfl), (Nat.le_of_ble_eq_true rfl)⟩ wr_11_45 wr_p_106 hm637924 he637992 rfl (rm_zc pk637922) (rm_zs pk637922) (Nat.le_of_ble_eq_true rfl) (fun r638000 w638001 dc637997 ds637998 hp637999 => ?_) (fun _ _ _ _ _ z => z.elim)
                obtain ⟨F638006, o638002, rfl, rfl, hT638007, hs638008, hdc, hds, bo638002, x638003, x638004, x638005⟩ := hp637999
                have hs638009 := rSk_str hs637988 hT638007 hs638008 (by decide) (by decide) (by decide)
                have kp638010 : F638006 q614034 = F637910 q614034 := (x638004).trans kp637989
                have kp638011 : F638006 (γ0 9 3) = F637910 (γ0 9 3) := ((show F638006 (γ0 9 3) = F637985 (γ0 9 3) by rw [← congrFun (rSk_9 hs638009) 3]; exact x638005)).trans kp637990
                have mk638012 : mKp (F614033 q614034) (F638006 q614034) := mKp_tr mk637991 (mKp_eq x638004)
                have he638013 : F638006 q614034 = .inr (22, [.ref (γ 9 0), .ref (γ 9 1), .ref (γ 9 2), .ref (γ 9 3), .ref (γ 9 4), .ref (γ 9 5), .ref (γ 9 6), .ref (γ 9 7), .ref (γ 9 8), .int p637928, .int p637929, .int p637930, .int p637931, .int p637932, .int p637933, .ref (γ 9 15), .ref (γ 9 16), .ref (γ 9 17), .ref (γ 9 18), .ref (γ 9 19), .ref (γ 9 20), .ref (γ 9 21), .ref (γ 9 22), .int p637934, .int p637935, .int p637936, .int p637937, .int p637938, .ref q637926, .ref (γ 9 29), .int p637939, .ref (γ 9 31), .int p637940, .int p637941, .int p637942, .ref q637927]) := (x638004).trans he637992
                change G _ _ _ _ _ _ _ (.int o638002 :: _) _ _ _
                refine G_widen (cs' := ((rPh γ el f - rPh γ0 el0 f) / 18)) (sl' := (rPh γ el f - rPh γ0 el0 f)) (rm_d0 hdc) (rm_d0 hds) ?_
                have ni638014 : rNI γ el F638006 q614035 (γ 6 f) (fI (F638006 q614034) 11).toInt := rNI_s (rNI_str hT637986 ht637918 hf637919 hs638008 (by decide) ni637993) (by rw [x638004])
                have gr638015 : rGr γ el F638006 q614035 (γ 6 f) (cB (F638006 (γ0 9 3))) (vA (γ 6 f)) := by rw [← congrFun (rSk_9 hs638009) 3, x638005, congrFun (rSk_9 hs638009) 3]; exact gq_str hT637986 ht637918 hf637919 hs638008 (by decide) gr637994
                have ac638016 : (fI (F638006 q614034) 11).toInt = (fI (F637910 q614034) 11).toInt := by rw [kp638010]
                have ac638017 : (fI (F638006 q614034) 14).toInt = (fI (F637910 q614034) 14).toInt := by rw [kp638010]
                refine G_istore (L' := [(4, .int o638002), (3, .int g636224), (0, .ref q614034), (1, .ref q614035), (2, .int p614036)]) dr_cX17_giveAll_80 (Nat.le_of_ble_eq_true rfl) rfl ?_
                refine G_iload 0 dr_cX17_giveAll_82 rfl ?_
                refine G_if_ne 180 dr_cX17_giveAll_84 (by decide +kernel) (fun hc638018 => ?_) (fun hc638018 => ?_)
                · have r638019 : o638002.toInt ≠ 0 := gj_neq hc638018 (show Int32.toInt 0 = 0 by decide)
                  have bo638002' : gB o638002 1 2000 := ⟨by omega, by omega⟩
                  have ac638020 : (fI (F638006 q614034) 11).toInt = p637930.toInt := by rw [he638013]; rfl
                  have ac638021 : (fI (F638006 q614034) 14).toInt = p637933.toInt := by rw [he638013]; rfl
                  refine G_aload_n 2 dr_cX17_giveAll_180 rfl ?_
                  refine G_dup dr_cX17_giveAll_181 rfl ?_
                  refine Gp_get 12 hm637924 he638013 dr_cX17_giveAll_182 (gk_X17 D I) (Nat.le_of_ble_eq_true rfl) wr_7_86 rfl ?_
                  have bp637931 : gB p637931 (-2147483648) 2147483647 := (gB_any p637931)
                  refine G_iload 0 dr_cX17_giveAll_185 rfl ?_
                  refine G_iadd dr_cX17_giveAll_187 (G_nam fun z638022 hz638022 => ?_)
                  have bz638022 : gB z638022 (-2147483648) 2147483647 := gB_any z638022
                  refine Gp_put 12 hm637924 he638013 dr_cX17_giveAll_188 (gk_X17 D I) (Nat.le_of_ble_eq_true rfl) wr_7_86 rfl rfl rfl (Nat.le_of_ble_eq_true rfl) (fun F638023 e638024 n638025 => ?_)
                  have he638026 : F638023 q614034 = .inr (22, [.ref (γ 9 0), .ref (γ 9 1), .ref (γ 9 2), .ref (γ 9 3), .ref (γ 9 4), .ref (γ 9 5), .ref (γ 9 6), .ref (γ 9 7), .ref (γ 9 8), .int p637928, .int p637929, .int p637930, .int z638022, .int p637932, .int p637933, .ref (γ 9 15), .ref (γ 9 16), .ref (γ 9 17), .ref (γ 9 18), .ref (γ 9 19), .ref (γ 9 20), .ref (γ 9 21), .ref (γ 9 22), .int p637934, .int p637935, .int p637936, .int p637937, .int p637938, .ref q637926, .ref (γ 9 29), .int p637939, .ref (γ 9 31), .int p637940, .int p637941, .int p637942, .ref q637927]) := e638024
                  have mk638027 : mKp (F614033 q614034) (F638023 q614034) := mKp_tr mk638012 (by rw [he638013, he638026]; exact ⟨rfl, rfl⟩)
                  have kp638028 : F638023 (γ0 9 3) = F637910 (γ0 9 3) := (n638025 (γ0 9 3) (rn_ty (rSk_k hs638009 k0_3 (by decide) (by decide)) ht637917 (by decide))).trans kp638011
                  have kp638029 : F638023 (γ0 9 17) = F638006 (γ0 9 17) := n638025 (γ0 9 17) (rn_ty (rSk_k hs638009 k0_17 (by decide) (by decide)) ht637917 (by decide))
                  have hT638030 : RS D I P637909 F638023 γ el := RS_set hT638007 n638025 ht637917 (by decide) ⟨q637926, q637927, p637928, p637929, p637930, z638022, p637932, p637933, p637934, p637935, p637936, p637937, p637938, p637939, p637940, p637941, p637942, he638026, ⟨(hB637969.1), (hB637969.2.1), bp637930, bp637933, (hB637969.2.2.2.2.1), (hB637969.2.2.2.2.2.1), (hB637969.2.2.2.2.2.2.1), (hB637969.2.2.2.2.2.2.2.1), (hB637969.2.2.2.2.2.2.2.2)⟩, ht637943, ht637944, ht637945, ht637946, ht637947, ht637948, ht637949, ht637950, ht637951, ht637952, ht637953, ht637954, ht637955, ht637956, ht637957, ht637958, ht637959, ht637960, ht637961, ht637962, ht637963, ht637964, ht637965, ht637966, hB637970⟩
                  have hs638031 := rSk_put hs638009 hT638030 n638025 ht637917 (by decide) (by decide)
                  have ac638032 : (fI (F638023 q614034) 11).toInt = p637930.toInt := by rw [he638026]; rfl
                  have ac638033 : (fI (F638023 q614034) 14).toInt = p637933.toInt := by rw [he638026]; rfl
                  have gr638035 := rNI_gr ni638014 gr638015
                  have p3638036 : (fI (F638023 q614034) 11).toInt + (rcn (cB (F638023 (γ0 9 3))) 100 : Nat) ≤ 100 := by rw [(n638025 (γ0 9 3) (rn_ty (rSk_k hs638031 k0_3 (by decide) (by decide)) ht637917 (by decide)))]; have z := gr638035.1; omega
                  have p4638037 : rPl γ el F638023 q614035 (γ 6 f) (fun _ _ => rNx (rSd (cB (F638023 (γ0 9 3))))) := by rw [(n638025 (γ0 9 3) (rn_ty (rSk_k hs638031 k0_3 (by decide) (by decide)) ht637917 (by decide)))]; exact rPl_fr hT638007 ht637918 hf637919 gr638035.2 (fun b hb _ => n638025 b (rn_ty (show rKd γ b 1 from hb) ht637917 (by decide)))
                  refine G_aload_n 2 dr_cX17_giveAll_191 rfl ?_
                  refine G_aload_n 3 dr_cX17_giveAll_192 rfl ?_
                  have rg638038 := rM_ge hT638030 ht637918 hf637919
                  have rm638039 := rM_bd hB637914
                  have bd638040 := rBd_c hT638030 ht637918 hf637919 hB637914
                  have rc638041 := rc_at hT638030 ht637918 hf637919
                  refine Gw_callV (As := [.ref q614035]) (gV_ok D I) (cg_572440_SpillForgeModel_spill l hl0 D I γ el f B P637909 F638023 q614034 q614035 hT638030 ht637917 ht637918 hf637919 hB637914 hBk (by omega) (by omega) (by omega) (by rw [congrFun (rSk_9 hs638031) 3]; exact p3638036) (by rw [congrFun (rSk_9 hs638031) 3]; exact p4638037) (by omega)) dr_cX17_giveAll_193 ⟨wr_11_59, wr_1_14, wr_11_62, by decide, rfl, (Nat.le_of_ble_eq_true rfl), (Nat.le_of_ble_eq_true rfl)⟩ wr_11_61 wr_p_110 hm637924 he638026 rfl (rm_gc hph637921 pk637922) (rm_gs hph637921 pk637922) (Nat.le_of_ble_eq_true rfl) (fun r638045 w638046 dc638042 ds638043 hp638044 => ?_) (fun _ _ _ _ _ z => z.elim)
                  obtain ⟨P638052, F638053, γ, el, o638047, rfl, rfl, hk638054, ⟨hr638055, hr638056⟩, hB638057, bo638047, x638048, x638049, x638050, x638051⟩ := hp638044
                  have hT638058 := hk638054.1
                  have hs638059 := rSk_tr hs638031 hk638054 (by decide) (by decide) (by decide)
                  have ht638060 : rKd γ q614034 10 := rSk_k hk638054 ht637917 (by decide) (by decide)
                  have ht638061 : rKd γ q614035 9 := rSk_k hk638054 ht637918 (by decide) (by decide)
                  have hf638062 : γ 1 q614035 = f := rSk_1 hk638054 ht637918 (by decide) hf637919
                  clear rg638038 rm638039 bd638040 rc638041
                  have mk638063 : mKp (F614033 q614034) (F638053 q614034) := mKp_tr mk638027 x638051
                  have hph638064 : rPh γ0 el0 f ≤ rPh γ el f := rm_ph hph637921 hr638056
                  have pk638065 : rPh γ el f ≤ 387 * B + 6000 := rm_pk (rM_ge hT638058 ht638061 hf638062).1 (rM_bd hB638057)
                  change G _ _ _ _ _ _ _ (.int o638047 :: _) _ _ _
                  refine G_widen (cs' := ((rPh γ el f - rPh γ0 el0 f) / 18)) (sl' := (rPh γ el f - rPh γ0 el0 f)) (rm_wc hph637921 hr638055) (rm_ws hph637921 hr638056) ?_
                  have r638066 : 0 < γ 6 (γ 1 q614035) := by rw [hf638062]; omega
                  have hm638067 : q614034 ∈ P638052 := RS_m hT638058 ht638060 (by decide)
                  refine rk10_e (show rk_10 γ (F638053 q614034) from RS_o hT638058 ht638060) (fun q638069 q638070 p638071 p638072 p638073 p638074 p638075 p638076 p638077 p638078 p638079 p638080 p638081 p638082 p638083 p638084 p638085 he638068 hB638112 ht638086 ht638087 ht638088 ht638089 ht638090 ht638091 ht638092 ht638093 ht638094 ht638095 ht638096 ht638097 ht638098 ht638099 ht638100 ht638101 ht638102 ht638103 ht638104 ht638105 ht638106 ht638107 ht638108 ht638109 hB638113 => ?_)
                  have ac638114 : (fI (F638053 q614034) 11).toInt = p638073.toInt := by rw [he638068]; rfl
                  have bp638073 : gB p638073 0 100 := (hB638112.2.2.1)
                  have ac638115 : (fI (F638053 q614034) 14).toInt = p638076.toInt := by rw [he638068]; rfl
                  have bp638076 : gB p638076 0 2000 := (hB638112.2.2.2.1)
                  refine G_if_ne 201 dr_cX17_giveAll_196 (by decide +kernel) (fun hc638116 => ?_) (fun hc638116 => ?_)
                  · have r638117 : o638047.toInt ≠ 0 := gj_neq hc638116 (show Int32.toInt 0 = 0 by decide)
                    have bo638047' : gB o638047 1 1 := gB_t1 bo638047 r638117
                    have ni638118 := x638049.resolve_left (by omega)
                    clear x638049
                    obtain ⟨rni638118a, rni638118b, rni638118c, rni638118d, rni638118e, rni638118f⟩ := ni638118
                    obtain ⟨z638119, hz638119⟩ : ∃ z : Int32, z = g636224 + Int32.ofInt 1 := ⟨_, rfl⟩
                    have ez638119 : z638119.toInt = g636224.toInt + 1 := gI_inc hz638119 (by decide) bg636224' (by decide) (by decide)
                    have bz638119 : gB z638119 2 41 := ⟨by omega, by omega⟩
                    refine G_iinc (L' := [(3, .int z638119), (4, .int o638002), (0, .ref q614034), (1, .ref q614035), (2, .int p614036)]) z638119 1 dr_cX17_giveAll_201 rfl hz638119.symm (Nat.le_of_ble_eq_true rfl) rfl ?_
                    refine G_goto 28 dr_cX17_giveAll_204 (by decide +kernel) ?_
                    refine G_lv (L' := [(3, .int z638119), (0, .ref q614034), (1, .ref q614035), (2, .int p614036)]) [0, 2, 3, 4] rfl ?_
                    have ac638120 : (fI (F638053 q614034) 11).toInt = p638073.toInt := by rw [he638068]; rfl
                    have ac638121 : (fI (F638053 q614034) 14).toInt = p638076.toInt := by rw [he638068]; rfl
                    exact ih28_636236 P638052 F638053 γ el z638119 (gB_w bz638119 (by decide) (by decide)) hT638058 hs638059 hph638064 hB638057 (by omega) (by omega) (by omega) (by omega) rni638118f mk638063 (by omega)
                  · have r638122 : o638047.toInt = 0 := gj_eq hc638116 (show Int32.toInt 0 = 0 by decide)
                    have bo638047' : gB o638047 0 0 := gB_t0 r638122
                    refine G_iconst (-1) dr_cX17_giveAll_199 (by decide +kernel) ?_
                    exact G_iretA dr_cX17_giveAll_200 rfl (show ((rPh γ el f - rPh γ0 el0 f) / 18) ≤ (((387 * B + 6000) - rPh γ0 el0 f) / 18) by omega) (show (rPh γ el f - rPh γ0 el0 f) ≤ ((387 * B + 6000) - rPh γ0 el0 f) by omega) ⟨P638052, F638053, γ, el, (-1), rfl, rfl, hs638059, ⟨by omega, by omega⟩, hB638057, (gB_w (gBl (show Int32.toInt (-1) = (-1) by decide)) (by decide) (by decide)), (by have qa0 : Int32.toInt (-1) = (-1) := (by decide); omega), mk638063⟩
                · have r638123 : o638002.toInt = 0 := gj_eq hc638018 (show Int32.toInt 0 = 0 by decide)
                  have bo638002' : gB o638002 0 0 := ⟨by omega, by omega⟩
                  have cq638124 : rPl γ el F638006 q614035 (γ 6 f) (cqR (cB (F638006 (γ0 9 17))) 0 0) := cq_0 gr638015 (fun m hm => by have z := x638003 (by omega); rw [congrFun (rSk_9 hs638009) 3, congrFun (rSk_9 hs638009) 17] at z; exact z m hm)
                  refine G_iconst 0 dr_cX17_giveAll_87 (by decide +kernel) ?_
                  refine G_istore (L' := [(5, .int 0), (4, .int o638002), (3, .int g636224), (0, .ref q614034), (1, .ref q614035), (2, .int p614036)]) dr_cX17_giveAll_88 (Nat.le_of_ble_eq_true rfl) rfl ?_
                  have hlp90_638723 : ∀ (n90_638723 : Nat) (P638711 : List Nat) (F638712 : Nat → va_E) (γ el : Nat → Nat → Nat) (g638710 : Int32), gB g638710 0 1000000 → RS D I P638711 F638712 γ el → rSk f [101] ([1, 3, 5, 6, 8, 9, 101] ++ npk) D I P614032 F614033 γ0 el0 P638711 F638712 γ el → rPh γ0 el0 f ≤ rPh γ el f → rBd γ el f B → γ 6 f = γ0 6 f → ((γ 7 f : Nat) : Int) = (fI (F638712 q614034) 11).toInt → ((γ 16 f : Nat) : Int) + 2001 ≤ (B : Int) + (fI (F638712 q614034) 14).toInt → 100 ≤ (fI (F638712 q614034) 14).toInt → (F638712 (γ0 9 17) = F638006 (γ0 9 17)) → rPl γ el F638712 q614035 (γ 6 f) (cqR (cB (F638006 (γ0 9 17))) (g638710.toInt : Int).toNat 0) → mKp (F614033 q614034) (F638712 q614034) → ((1000001 : Int) - g638710.toInt).toNat < n90_638723 → G (gV D I) l (gRm 10 224 (((387 * B + 6000) - rPh γ0 el0 f) / 18) ((387 * B + 6000) - rPh γ0 el0 f)) (gMA (gV D I) (pg_614040_SpillForgeModel_giveAll D I γ0 el0 f B P614032 F614033 q614034 q614035 p614036) gNA (((387 * B + 6000) - rPh γ0 el0 f) / 18) ((387 * B + 6000) - rPh γ0 el0 f)) ky_614040_SpillForgeModel_giveAll 90 [(5, .int g638710), (4, .int o638002), (3, .int g636224), (0, .ref q614034), (1, .ref q614035), (2, .int p614036)] [] (va_pl P638711 F638712) ((rPh γ el f - rPh γ0 el0 f) / 18) (rPh γ el f - rPh γ0 el0 f) := by
                    intro n90_638723
                    induction n90_638723 with
                    | zero => intro P638711 F638712 γ el g638710 bg638710 hT638713 hs638714 hph638715 hB638716 x638717 x638718 x638719 x638720 x638721 x638722 x638723 hm90_638723; exact absurd hm90_638723 (Nat.not_lt_zero _)
                    | succ n90_638723 ih90_638723 =>
                      intro P638711 F638712 γ el g638710 bg638710 hT638713 hs638714 hph638715 hB638716 x638717 x638718 x638719 x638720 x638721 x638722 x638723 hm90_638723
                      clear hr637912 hr637913 hph637921 pk637922 r637923 r637976
                      have ht638725 : rKd γ q614034 10 := rSk_k hs638714 hzq614034 (by decide) (by decide)
                      have ht638726 : rKd γ q614035 9 := rSk_k hs638714 hzq614035 (by decide) (by decide)
                      have hf638727 : γ 1 q614035 = f := rSk_1 hs638714 hzq614035 (by decide) hf0
                      have pk638728 : rPh γ el f ≤ 387 * B + 6000 := rm_pk (rM_ge hT638713 ht638726 hf638727).1 (rM_bd hB638716)
                      have r638729 : 0 < γ 6 (γ 1 q614035) := by rw [hf638727]; omega
                      have hm638730 : q614034 ∈ P638711 := RS_m hT638713 ht638725 (by decide)
                      refine rk10_e (show rk_10 γ (F638712 q614034) from RS_o hT638713 ht638725) (fun q638732 q638733 p638734 p638735 p638736 p638737 p638738 p638739 p638740 p638741 p638742 p638743 p638744 p638745 p638746 p638747 p638748 he638731 hB638775 ht638749 ht638750 ht638751 ht638752 ht638753 ht638754 ht638755 ht638756 ht638757 ht638758 ht638759 ht638760 ht638761 ht638762 ht638763 ht638764 ht638765 ht638766 ht638767 ht638768 ht638769 ht638770 ht638771 ht638772 hB638776 => ?_)
                      have ac638777 : (fI (F638712 q614034) 11).toInt = p638736.toInt := by rw [he638731]; rfl
                      have bp638736 : gB p638736 0 100 := (hB638775.2.2.1)
                      have ac638778 : (fI (F638712 q614034) 14).toInt = p638739.toInt := by rw [he638731]; rfl
                      have bp638739 : gB p638739 0 2000 := (hB638775.2.2.2.1)
                      refine G_iload 0 dr_cX17_giveAll_90 rfl ?_
                      refine G_aload_n 4 dr_cX17_giveAll_92 rfl ?_
                      have hm638779 : q614035 ∈ P638711 := RS_m hT638713 ht638726 (by decide)
                      obtain ⟨q638781, q638782, p638783, p638784, he638780, ht638800, ht638785, ht638786, ht638787, ht638788, r638789, r638790, r638791, r638792, r638793, r638794, r638795, r638796, r638797, r638798, r638799⟩ := show rk_9 γ el q614035 (F638712 q614035) from RS_o hT638713 ht638726
                      have bp638783 : gB p638783 0 1000000 := ⟨by omega, by omega⟩
                      have bp638784 : gB p638784 0 1000000 := ⟨by omega, by omega⟩
                      have hf638801 : γ 1 q638781 = f := (show γ 1 q638781 = γ 1 q614035 from ht638786).trans hf638727
                      have hf638802 : γ 1 q638782 = f := (show γ 1 q638782 = γ 1 q614035 from ht638788).trans hf638727
                      have r638803 : γ 6 (γ 1 q614035) = γ 6 f := by rw [hf638727]
                      have r638804 : γ 16 (γ 1 q614035) = γ 16 f := by rw [hf638727]
                      have r638805 : p638784.toInt = γ 6 f ∧ p638784.toInt ≤ 40 := by omega
                      clear r638795
                      refine Gw_callV (As := []) (gV_ok D I) (cp_12496_Code_size l hl0 D I P638711 F638712 q614035 q638781 q638782 p638783 p638784 hm638779 he638780) dr_cX17_giveAll_93 ⟨wr_10_156, wr_1_15, wr_9_127, by decide, rfl, (Nat.le_of_ble_eq_true rfl), (Nat.le_of_ble_eq_true rfl)⟩ wr_9_125 wr_9_126 hm638779 he638780 rfl (rm_zc pk638728) (rm_zs pk638728) (Nat.le_of_ble_eq_true rfl) (fun r638809 w638810 dc638806 ds638807 hp638808 => ?_) (fun _ _ _ _ _ z => z.elim)
                      obtain ⟨rfl, rfl, hdc, hds⟩ := hp638808
                      change G _ _ _ _ _ _ _ (.int p638784 :: _) _ _ _
                      refine G_widen (cs' := ((rPh γ el f - rPh γ0 el0 f) / 18)) (sl' := (rPh γ el f - rPh γ0 el0 f)) (rm_d0 hdc) (rm_d0 hds) ?_
                      refine G_icmp_ge 173 dr_cX17_giveAll_96 (by decide +kernel) (fun hc638811 => ?_) (fun hc638811 => ?_)
                      · have r638812 : p638784.toInt ≤ g638710.toInt := gC_le hc638811
                        have r638813 : γ 7 (γ 1 q614035) = γ 7 f := by rw [hf638727]
                        have ac638814 : (fI (F638712 q614034) 11).toInt = p638736.toInt := by rw [he638731]; rfl
                        have ac638815 : (fI (F638712 q614034) 14).toInt = p638739.toInt := by rw [he638731]; rfl
                        refine G_aload_n 3 dr_cX17_giveAll_173 rfl ?_
                        refine G_aload_n 4 dr_cX17_giveAll_174 rfl ?_
                        refine Gw_callV (As := [.ref q614035]) (gV_ok D I) (ct_336080_SpillForgeModel_share l hl0 D I γ el P638711 F638712 q614034 q614035 hT638713 ht638725 ht638726 (by omega) (by omega)) dr_cX17_giveAll_175 ⟨wr_11_55, wr_1_14, wr_11_58, by decide, rfl, (Nat.le_of_ble_eq_true rfl), (Nat.le_of_ble_eq_true rfl)⟩ wr_11_57 wr_p_109 hm638730 he638731 rfl (rm_zc pk638728) (rm_zs pk638728) (Nat.le_of_ble_eq_true rfl) (fun r638819 w638820 dc638816 ds638817 hp638818 => ?_) (fun _ _ _ _ _ z => z.elim)
                        obtain ⟨F638822, rfl, rfl, hT638823, hs638824, hdc, hds, x638821⟩ := hp638818
                        have he638825 : F638822 q614035 = .inr (18, [.ref q638781, .ref q638782, .int p638783, .int p638784]) := (hs638824 q614035 (rT0 ht638726 (by decide)) (rT1 ht638726 (by decide)) (rT2 ht638726 (by decide))).trans he638780
                        have hs638826 := rSk_str hs638714 hT638823 hs638824 (by decide) (by decide) (by decide)
                        have mk638827 : mKp (F614033 q614034) (F638822 q614034) := mKp_tr x638723 x638821
                        change G _ _ _ _ _ _ _ _ _ _ _
                        refine G_widen (cs' := ((rPh γ el f - rPh γ0 el0 f) / 18)) (sl' := (rPh γ el f - rPh γ0 el0 f)) (rm_d0 hdc) (rm_d0 hds) ?_
                        refine G_iload_n 2 dr_cX17_giveAll_178 rfl ?_
                        exact G_iretA dr_cX17_giveAll_179 rfl (show ((rPh γ el f - rPh γ0 el0 f) / 18) ≤ (((387 * B + 6000) - rPh γ0 el0 f) / 18) by omega) (show (rPh γ el f - rPh γ0 el0 f) ≤ ((387 * B + 6000) - rPh γ0 el0 f) by omega) ⟨P638711, F638822, γ, el, g636224, rfl, rfl, hs638826, ⟨by omega, by omega⟩, hB638716, (gB_w bg636224' (by decide) (by decide)), (by omega), mk638827⟩
                      · have r638828 : g638710.toInt < p638784.toInt := gC_nle hc638811
                        have bg638710' : gB g638710 0 999999 := ⟨by omega, by omega⟩
                        have bp638784' : gB p638784 1 1000000 := ⟨by omega, by omega⟩
                        refine G_aload_n 4 dr_cX17_giveAll_99 rfl ?_
                        refine G_iload 0 dr_cX17_giveAll_100 rfl ?_
                        have hm638829 : q638781 ∈ P638711 := RS_m hT638713 ht638785 (by decide)
                        obtain ⟨⟨p638831, p638832, q638833, he638830, r638834, r638835, r638836, r638838⟩, r638837⟩ := show rk_4 D I γ el F638712 q638781 from RS_o hT638713 ht638785
                        have bp638831 := gB_any p638831
                        have bp638832 : gB p638832 0 1000000 := ⟨by omega, by omega⟩
                        obtain ⟨r638839, r638840, n638847, f638848, r638841, r638842, r638843, r638844, r638845, r638846⟩ := rLC_n r638836 (by omega)
                        have hm638849 : q638833 ∈ P638711 := RS_m hT638713 r638839 (by decide)
                        obtain ⟨q638850, hx638851⟩ : ∃ x, x = el q638781 g638710.toInt.toNat := ⟨_, rfl⟩
                        have hx638852 : f638848 g638710.toNatClampNeg = some q638850 := (r638845 _ (show g638710.toInt.toNat < γ 2 q638781 by first | assumption | omega)).trans (by rw [hx638851])
                        have ht638855 : rKd γ q638850 2 := by rw [hx638851]; exact (r638796 _ (by omega)).resolve_right (fun z => absurd z.1 (by omega))
                        have ht638856 : rFm γ q638850 q638781 := by rw [hx638851]; exact (r638837 _ (show g638710.toInt.toNat < γ 2 q638781 by omega)).2.1
                        have hm638857 : q638850 ∈ P638711 := RS_m hT638713 ht638855 (by decide)
                        obtain ⟨q638859, q638860, p638861, p638862, he638858, ht638869, ht638863, ht638864, ht638865, ht638866, ht638867, bp638861, bp638862, r638868, r638870, r638871⟩ := show rk_2 γ q638850 (F638712 q638850) from RS_o hT638713 ht638855
                        refine Gw_callV (As := [.int g638710]) (gV_ok D I) (cp_7737_Code_get l hl0 D I P638711 F638712 q614035 q638781 q638833 g638710 q638782 p638783 p638784 p638831 p638832 f638848 n638847 q638850 q638859 q638860 p638861 p638862 hm638779 hm638829 hm638849 hm638857 he638780 he638830 r638841 he638858 (gB_w bg638710' (by decide) (by decide)) (gB_w bp638832 (by decide) (by decide)) (by omega) (by omega) (by assumption) (by omega)) dr_cX17_giveAll_102 ⟨wr_10_157, wr_1_15, wr_10_137, by decide, rfl, (Nat.le_of_ble_eq_true rfl), (Nat.le_of_ble_eq_true rfl)⟩ wr_10_135 wr_10_136 hm638779 he638780 rfl (rm_zc pk638728) (rm_zs pk638728) (Nat.le_of_ble_eq_true rfl) (fun r638875 w638876 dc638872 ds638873 hp638874 => ?_) (fun _ _ _ _ _ z => z.elim)
                        obtain ⟨rfl, rfl, hdc, hds⟩ := hp638874
                        change G _ _ _ _ _ _ _ (.ref q638850 :: _) _ _ _
                        refine G_widen (cs' := ((rPh γ el f - rPh γ0 el0 f) / 18)) (sl' := (rPh γ el f - rPh γ0 el0 f)) (rm_d0 hdc) (rm_d0 hds) ?_
                        have hf638877 : γ 1 q638850 = f := (show γ 1 q638850 = γ 1 q638781 from ht638856).trans ((show γ 1 q638781 = γ 1 q614035 from ht638786).trans hf638727)
                        have hf638878 : γ 1 q638859 = f := (show γ 1 q638859 = γ 1 q638850 from ht638864).trans hf638877
                        have hf638879 : γ 1 q638860 = f := (show γ 1 q638860 = γ 1 q638850 from ht638866).trans hf638877
                        have r638880 : γ 6 (γ 1 q638850) = γ 6 f := by rw [hf638877]
                        have r638881 : γ 7 (γ 1 q638850) = γ 7 f := by rw [hf638877]
                        have r638882 : γ 19 (γ 1 q638850) = γ 19 f := by rw [hf638877]
                        have r638883 := r638868.resolve_left (by omega)
                        clear r638868
                        have r638884 : γ 2 (γ 14 q638850) = γ 2 q638859 := by rw [ht638869.1]
                        have r638885 : g638710.toInt.toNat < γ 2 (γ 14 q614035) := by rw [ht638800.1]; omega
                        have r638886 : el (γ 14 q614035) g638710.toInt.toNat = q638850 := by rw [ht638800.1, hx638851]
                        refine G_astore (L' := [(6, .ref q638850), (5, .int g638710), (4, .int o638002), (3, .int g636224), (0, .ref q614034), (1, .ref q614035), (2, .int p614036)]) dr_cX17_giveAll_105 (Nat.le_of_ble_eq_true rfl) rfl ?_
                        refine G_iconst 0 dr_cX17_giveAll_107 (by decide +kernel) ?_
                        refine G_istore (L' := [(7, .int 0), (6, .ref q638850), (5, .int g638710), (4, .int o638002), (3, .int g636224), (0, .ref q614034), (1, .ref q614035), (2, .int p614036)]) dr_cX17_giveAll_108 (Nat.le_of_ble_eq_true rfl) rfl ?_
                        have hlp110_639109 : ∀ (n110_639109 : Nat) (P639091 : List Nat) (F639092 : Nat → va_E) (γ el : Nat → Nat → Nat) (g639090 : Int32), gB g639090 0 1000001 → RS D I P639091 F639092 γ el → rSk f [101] ([1, 3, 5, 6, 8, 9, 101] ++ npk) D I P614032 F614033 γ0 el0 P639091 F639092 γ el → rPh γ0 el0 f ≤ rPh γ el f → rBd γ el f B → rKd γ q638850 2 → γ 1 q638850 = f → g638710.toInt.toNat < γ 2 (γ 14 q614035) → el (γ 14 q614035) g638710.toInt.toNat = q638850 → γ 6 f = γ0 6 f → ((γ 7 f : Nat) : Int) = (fI (F639092 q614034) 11).toInt → ((γ 16 f : Nat) : Int) + 2001 ≤ (B : Int) + (fI (F639092 q614034) 14).toInt → 100 ≤ (fI (F639092 q614034) 14).toInt → (F639092 (γ0 9 17) = F638006 (γ0 9 17)) → rPl γ el F639092 q614035 (γ 6 f) (cqR (cB (F638006 (γ0 9 17))) (g638710.toInt : Int).toNat (g639090.toInt : Int).toNat) → (g639090.toInt : Int) ≤ γ 2 (γ 14 q638850) + 1 → (g638710.toInt : Int) < γ 6 f → mKp (F614033 q614034) (F639092 q614034) → ((1000002 : Int) - g639090.toInt).toNat < n110_639109 → G (gV D I) l (gRm 10 224 (((387 * B + 6000) - rPh γ0 el0 f) / 18) ((387 * B + 6000) - rPh γ0 el0 f)) (gMA (gV D I) (pg_614040_SpillForgeModel_giveAll D I γ0 el0 f B P614032 F614033 q614034 q614035 p614036) gNA (((387 * B + 6000) - rPh γ0 el0 f) / 18) ((387 * B + 6000) - rPh γ0 el0 f)) ky_614040_SpillForgeModel_giveAll 110 [(7, .int g639090), (6, .ref q638850), (5, .int g638710), (4, .int o638002), (3, .int g636224), (0, .ref q614034), (1, .ref q614035), (2, .int p614036)] [] (va_pl P639091 F639092) ((rPh γ el f - rPh γ0 el0 f) / 18) (rPh γ el f - rPh γ0 el0 f) := by
                          intro n110_639109
                          induction n110_639109 with
                          | zero => intro P639091 F639092 γ el g639090 bg639090 hT639093 hs639094 hph639095 hB639096 ht639097 hf639098 r639099 r639100 x639101 x639102 x639103 x639104 x639105 x639106 x639107 x639108 x639109 hm110_639109; exact absurd hm110_639109 (Nat.not_lt_zero _)
                          | succ n110_639109 ih110_639109 =>
                            intro P639091 F639092 γ el g639090 bg639090 hT639093 hs639094 hph639095 hB639096 ht639097 hf639098 r639099 r639100 x639101 x639102 x639103 x639104 x639105 x639106 x639107 x639108 x639109 hm110_639109
                            clear r638789 r638790 r638791 r638792 r638793 r638794 r638796 r638797 r638798 r638799 bp638783 bp638784 bp638861 bp638862 r638870 r638871 r638803 r638804 r638805 r638834 r638835 r638836 r638838 r638837 r638839 r638840 r638841 r638842 r638843 r638844 r638845 r638846 r638880 r638881 r638882 r638883 r638884 r638885 r638886
                            have ht639111 : rKd γ q614034 10 := rSk_k hs639094 hzq614034 (by decide) (by decide)
                            have ht639112 : rKd γ q614035 9 := rSk_k hs639094 hzq614035 (by decide) (by decide)
                            have hf639113 : γ 1 q614035 = f := rSk_1 hs639094 hzq614035 (by decide) hf0
                            have pk639114 : rPh γ el f ≤ 387 * B + 6000 := rm_pk (rM_ge hT639093 ht639112 hf639113).1 (rM_bd hB639096)
                            have r639115 : 0 < γ 6 (γ 1 q614035) := by rw [hf639113]; omega
                            have hm639116 : q614034 ∈ P639091 := RS_m hT639093 ht639111 (by decide)
                            refine rk10_e (show rk_10 γ (F639092 q614034) from RS_o hT639093 ht639111) (fun q639118 q639119 p639120 p639121 p639122 p639123 p639124 p639125 p639126 p639127 p639128 p639129 p639130 p639131 p639132 p639133 p639134 he639117 hB639161 ht639135 ht639136 ht639137 ht639138 ht639139 ht639140 ht639141 ht639142 ht639143 ht639144 ht639145 ht639146 ht639147 ht639148 ht639149 ht639150 ht639151 ht639152 ht639153 ht639154 ht639155 ht639156 ht639157 ht639158 hB639162 => ?_)
                            have ac639163 : (fI (F639092 q614034) 11).toInt = p639122.toInt := by rw [he639117]; rfl
                            have bp639122 : gB p639122 0 100 := (hB639161.2.2.1)
                            have ac639164 : (fI (F639092 q614034) 14).toInt = p639125.toInt := by rw [he639117]; rfl
                            have bp639125 : gB p639125 0 2000 := (hB639161.2.2.2.1)
                            refine G_iload 0 dr_cX17_giveAll_110 rfl ?_
                            refine G_aload 1 dr_cX17_giveAll_112 rfl ?_
                            have hm639165 : q638850 ∈ P639091 := RS_m hT639093 ht639097 (by decide)
                            obtain ⟨q639167, q639168, p639169, p639170, he639166, ht639177, ht639171, ht639172, ht639173, ht639174, ht639175, bp639169, bp639170, r639176, r639178, r639179⟩ := show rk_2 γ q638850 (F639092 q638850) from RS_o hT639093 ht639097
                            have hf639180 : γ 1 q639167 = f := (show γ 1 q639167 = γ 1 q638850 from ht639172).trans hf639098
                            have hf639181 : γ 1 q639168 = f := (show γ 1 q639168 = γ 1 q638850 from ht639174).trans hf639098
                            have r639182 : γ 6 (γ 1 q638850) = γ 6 f := by rw [hf639098]
                            have r639183 : γ 7 (γ 1 q638850) = γ 7 f := by rw [hf639098]
                            have r639184 : γ 19 (γ 1 q638850) = γ 19 f := by rw [hf639098]
                            have r639185 := r639176.resolve_left (by omega)
                            clear r639176
                            have r639186 : γ 2 (γ 14 q638850) = γ 2 q639167 := by rw [ht639177.1]
                            refine Gp_get 0 hm639165 he639166 dr_cX17_giveAll_114 (gk_X12 D I) (Nat.le_of_ble_eq_true rfl) wr_9_216 rfl ?_
                            have hm639187 : q639167 ∈ P639091 := RS_m hT639093 ht639171 (by decide)
                            obtain ⟨⟨p639189, p639190, q639191, he639188, r639192, r639193, r639194, r639196⟩, r639195⟩ := show rk_3 D I γ el F639092 q639167 from RS_o hT639093 ht639171
                            have bp639189 := gB_any p639189
                            have bp639190 : gB p639190 0 1000000 := ⟨by omega, by omega⟩
                            refine Gw_callV (As := []) (gV_ok D I) (cp_7_ArrayList_size l hl0 D I P639091 F639092 q639167 p639189 q639191 p639190 hm639187 he639188 (gB_w bp639190 (by decide) (by decide))) dr_cX17_giveAll_117 ⟨wr_10_196, wr_1_18, wr_9_156, by decide, rfl, (Nat.le_of_ble_eq_true rfl), (Nat.le_of_ble_eq_true rfl)⟩ wr_9_154 wr_9_155 hm639187 he639188 rfl (rm_zc pk639114) (rm_zs pk639114) (Nat.le_of_ble_eq_true rfl) (fun r639200 w639201 dc639197 ds639198 hp639199 => ?_) (fun _ _ _ _ _ z => z.elim)
                            obtain ⟨rfl, rfl, hdc, hds⟩ := hp639199
                            change G _ _ _ _ _ _ _ (.int p639190 :: _) _ _ _
                            refine G_widen (cs' := ((rPh γ el f - rPh γ0 el0 f) / 18)) (sl' := (rPh γ el f - rPh γ0 el0 f)) (rm_d0 hdc) (rm_d0 hds) ?_
                            refine G_icmp_gt 167 dr_cX17_giveAll_120 (by decide +kernel) (fun hc639202 => ?_) (fun hc639202 => ?_)
                            · have r639203 : p639190.toInt < g639090.toInt := gC_lt hc639202
                              have bg639090' : gB g639090 1 1000001 := ⟨by omega, by omega⟩
                              obtain ⟨z639204, hz639204⟩ : ∃ z : Int32, z = g638710 + Int32.ofInt 1 := ⟨_, rfl⟩
                              have ez639204 : z639204.toInt = g638710.toInt + 1 := gI_inc hz639204 (by decide) bg638710' (by decide) (by decide)
                              have bz639204 : gB z639204 1 1000000 := ⟨by omega, by omega⟩
                              refine G_iinc (L' := [(5, .int z639204), (7, .int g639090), (6, .ref q638850), (4, .int o638002), (3, .int g636224), (0, .ref q614034), (1, .ref q614035), (2, .int p614036)]) z639204 2 dr_cX17_giveAll_167 rfl hz639204.symm (Nat.le_of_ble_eq_true rfl) rfl ?_
                              refine G_goto 90 dr_cX17_giveAll_170 (by decide +kernel) ?_
                              refine G_lv (L' := [(5, .int z639204), (4, .int o638002), (3, .int g636224), (0, .ref q614034), (1, .ref q614035), (2, .int p614036)]) [0, 3, 4, 5, 6, 7] rfl ?_
                              have ac639205 : (fI (F639092 q614034) 11).toInt = p639122.toInt := by rw [he639117]; rfl
                              have ac639206 : (fI (F639092 q614034) 14).toInt = p639125.toInt := by rw [he639117]; rfl
                              exact ih90_638723 P639091 F639092 γ el z639204 (gB_w bz639204 (by decide) (by decide)) hT639093 hs639094 hph639095 hB639096 (by omega) (by omega) (by omega) (by omega) x639105 (cq_nx x639106 (by omega)) x639109 (by omega)
                            · have r639207 : g639090.toInt ≤ p639190.toInt := gC_nlt hc639202
                              have bg639090' : gB g639090 0 1000000 := ⟨by omega, by omega⟩
                              refine G_aload_n 5 dr_cX17_giveAll_123 rfl ?_
                              refine G_iload 0 dr_cX17_giveAll_124 rfl ?_
                              refine G_aload 1 dr_cX17_giveAll_126 rfl ?_
                              refine Gp_get 0 hm639165 he639166 dr_cX17_giveAll_128 (gk_X12 D I) (Nat.le_of_ble_eq_true rfl) wr_9_216 rfl ?_
                              refine Gw_callV (As := []) (gV_ok D I) (cp_7_ArrayList_size l hl0 D I P639091 F639092 q639167 p639189 q639191 p639190 hm639187 he639188 (gB_w bp639190 (by decide) (by decide))) dr_cX17_giveAll_131 ⟨wr_10_196, wr_1_18, wr_9_156, by decide, rfl, (Nat.le_of_ble_eq_true rfl), (Nat.le_of_ble_eq_true rfl)⟩ wr_9_154 wr_9_155 hm639187 he639188 rfl (rm_zc pk639114) (rm_zs pk639114) (Nat.le_of_ble_eq_true rfl) (fun r639211 w639212 dc639208 ds639209 hp639210 => ?_) (fun _ _ _ _ _ z => z.elim)
                              obtain ⟨rfl, rfl, hdc, hds⟩ := hp639210
                              change G _ _ _ _ _ _ _ (.int p639190 :: _) _ _ _
                              refine G_widen (cs' := ((rPh γ el f - rPh γ0 el0 f) / 18)) (sl' := (rPh γ el f - rPh γ0 el0 f)) (rm_d0 hdc) (rm_d0 hds) ?_
                              refine G_icmp_ge 153 dr_cX17_giveAll_134 (by decide +kernel) (fun hc639213 => ?_) (fun hc639213 => ?_)
                              · have r639214 : p639190.toInt ≤ g639090.toInt := gC_le hc639213
                                refine G_aload 1 dr_cX17_giveAll_153 rfl ?_
                                refine Gp_get 1 hm639165 he639166 dr_cX17_giveAll_155 (gk_X12 D I) (Nat.le_of_ble_eq_true rfl) wr_9_219 rfl ?_
                                have fl639217 : p639190.toInt = γ 2 q639167 := r639192
                                have hp639215 : rAt γ el q614035 (g638710.toInt : Int).toNat (g639090.toInt : Int).toNat = q639168 := (rAt_e r639100 ht639177.1 (by omega)).trans ht639177.2.1
                                have hL639216 : (g639090.toInt : Int).toNat ≤ γ 2 (rwL γ el q614035 (g638710.toInt : Int).toNat) := by unfold rwL; rw [r639100, ht639177.1]; omega
                                have cn639218 : rNm (fun n => 0 ≤ (cB (F639092 (γ 9 17)) n).toInt) (F639092 q639168) := by rw [congrFun (rSk_9 hs639094) 17, x639105]; exact cq_at x639106 hp639215 (show (g638710.toInt : Int).toNat < γ 6 f by omega) hL639216
                                refine Gw_callV (As := [.ref q639168]) (gV_ok D I) (ct_335839_SpillForgeModel_coloured l hl0 D I γ el P639091 F639092 q614034 q639168 hT639093 ht639111 ht639173 (by omega)) dr_cX17_giveAll_158 ⟨wr_11_51, wr_1_14, wr_11_54, by decide, rfl, (Nat.le_of_ble_eq_true rfl), (Nat.le_of_ble_eq_true rfl)⟩ wr_11_53 wr_p_108 hm639116 he639117 rfl (rm_zc pk639114) (rm_zs pk639114) (Nat.le_of_ble_eq_true rfl) (fun r639222 w639223 dc639219 ds639220 hp639221 => ?_) (fun _ _ _ _ _ z => z.elim)
                                obtain ⟨F639228, rfl, rfl, hT639229, hs639230, hdc, hds, x639224, x639225, x639226, x639227⟩ := hp639221
                                have he639231 : F639228 q638850 = .inr (17, [.ref q639167, .ref q639168, .int p639169, .int p639170]) := (hs639230 q638850 (rT0 ht639097 (by decide)) (rT1 ht639097 (by decide)) (rT2 ht639097 (by decide))).trans he639166
                                have he639232 : F639228 q639167 = .inr (4, [.int p639189, .ref q639191, .int p639190]) := (hs639230 q639167 (rT0 ht639171 (by decide)) (rT1 ht639171 (by decide)) (rT2 ht639171 (by decide))).trans he639188
                                have hs639233 := rSk_str hs639094 hT639229 hs639230 (by decide) (by decide) (by decide)
                                have kp639234 : F639228 q614034 = F639092 q614034 := x639225
                                have kp639235 : F639228 (γ0 9 3) = F639092 (γ0 9 3) := (show F639228 (γ0 9 3) = F639092 (γ0 9 3) by rw [← congrFun (rSk_9 hs639233) 3]; exact x639226)
                                have kp639236 : F639228 (γ0 9 17) = F638006 (γ0 9 17) := ((show F639228 (γ0 9 17) = F639092 (γ0 9 17) by rw [← congrFun (rSk_9 hs639233) 17]; exact x639227)).trans x639105
                                have mk639237 : mKp (F614033 q614034) (F639228 q614034) := mKp_tr x639109 (mKp_eq x639225)
                                have he639238 : F639228 q614034 = .inr (22, [.ref (γ 9 0), .ref (γ 9 1), .ref (γ 9 2), .ref (γ 9 3), .ref (γ 9 4), .ref (γ 9 5), .ref (γ 9 6), .ref (γ 9 7), .ref (γ 9 8), .int p639120, .int p639121, .int p639122, .int p639123, .int p639124, .int p639125, .ref (γ 9 15), .ref (γ 9 16), .ref (γ 9 17), .ref (γ 9 18), .ref (γ 9 19), .ref (γ 9 20), .ref (γ 9 21), .ref (γ 9 22), .int p639126, .int p639127, .int p639128, .int p639129, .int p639130, .ref q639118, .ref (γ 9 29), .int p639131, .ref (γ 9 31), .int p639132, .int p639133, .int p639134, .ref q639119]) := (x639225).trans he639117
                                change G _ _ _ _ _ _ _ _ _ _ _
                                refine G_widen (cs' := ((rPh γ el f - rPh γ0 el0 f) / 18)) (sl' := (rPh γ el f - rPh γ0 el0 f)) (rm_d0 hdc) (rm_d0 hds) ?_
                                have cq639239 := cq_put (j1 := (g639090.toInt : Int).toNat + 1) hT639093 ht639112 hf639113 x639106 x639224 hp639215 (show (g638710.toInt : Int).toNat < γ 6 f by omega) hL639216 rfl
                                have ac639240 : (fI (F639228 q614034) 11).toInt = (fI (F639092 q614034) 11).toInt := by rw [kp639234]
                                have ac639241 : (fI (F639228 q614034) 14).toInt = (fI (F639092 q614034) 14).toInt := by rw [kp639234]
                                obtain ⟨z639242, hz639242⟩ : ∃ z : Int32, z = g639090 + Int32.ofInt 1 := ⟨_, rfl⟩
                                have ez639242 : z639242.toInt = g639090.toInt + 1 := gI_inc hz639242 (by decide) bg639090' (by decide) (by decide)
                                have bz639242 : gB z639242 1 1000001 := ⟨by omega, by omega⟩
                                refine G_iinc (L' := [(7, .int z639242), (6, .ref q638850), (5, .int g638710), (4, .int o638002), (3, .int g636224), (0, .ref q614034), (1, .ref q614035), (2, .int p614036)]) z639242 0 dr_cX17_giveAll_161 rfl hz639242.symm (Nat.le_of_ble_eq_true rfl) rfl ?_
                                refine G_goto 110 dr_cX17_giveAll_164 (by decide +kernel) ?_
                                have ac639243 : (fI (F639228 q614034) 11).toInt = p639122.toInt := by rw [he639238]; rfl
                                have ac639244 : (fI (F639228 q614034) 14).toInt = p639125.toInt := by rw [he639238]; rfl
                                exact ih110_639109 P639091 F639228 γ el z639242 (gB_w bz639242 (by decide) (by decide)) hT639229 hs639233 hph639095 hB639096 ht639097 hf639098 r639099 r639100 (by omega) (by omega) (by omega) (by omega) kp639236 (by rw [show (z639242.toInt : Int).toNat = ((g639090.toInt : Int).toNat + 1) by omega]; exact cq639239) (by omega) (by omega) mk639237 (by omega)
                              · have r639245 : g639090.toInt < p639190.toInt := gC_nle hc639213
                                have bg639090'' : gB g639090 0 999999 := ⟨by omega, by omega⟩
                                have bp639190' : gB p639190 1 1000000 := ⟨by omega, by omega⟩
                                refine G_aload 1 dr_cX17_giveAll_137 rfl ?_
                                refine Gp_get 0 hm639165 he639166 dr_cX17_giveAll_139 (gk_X12 D I) (Nat.le_of_ble_eq_true rfl) wr_9_216 rfl ?_
                                refine G_iload 0 dr_cX17_giveAll_142 rfl ?_
                                obtain ⟨r639246, r639247, n639254, f639255, r639248, r639249, r639250, r639251, r639252, r639253⟩ := rLC_n r639194 (by omega)
                                have hm639256 : q639191 ∈ P639091 := RS_m hT639093 r639246 (by decide)
                                obtain ⟨q639257, hx639258⟩ : ∃ x, x = el q639167 g639090.toInt.toNat := ⟨_, rfl⟩
                                have hx639259 : f639255 g639090.toNatClampNeg = some q639257 := (r639252 _ (show g639090.toInt.toNat < γ 2 q639167 by first | assumption | omega)).trans (by rw [hx639258])
                                have ht639260 : rKd γ q639257 1 := by rw [hx639258]; exact (r639195 _ (show g639090.toInt.toNat < γ 2 q639167 by first | assumption | omega)).1
                                have ht639261 : rFm γ q639257 q639167 := by rw [hx639258]; exact (r639195 _ (show g639090.toInt.toNat < γ 2 q639167 by first | assumption | omega)).2.1
                                have hf639262 : γ 1 q639257 = f := (show γ 1 q639257 = γ 1 q639167 from ht639261).trans hf639180
                                refine Gw_callV (As := [.int g639090]) (gV_ok D I) (cp_22_ArrayList_get l hl0 D I P639091 F639092 q639167 q639191 g639090 p639189 p639190 f639255 n639254 q639257 hm639187 hm639256 he639188 r639248 (gB_w bg639090'' (by decide) (by decide)) (gB_w bp639190' (by decide) (by decide)) (by omega) (by omega) (by assumption) (by omega)) dr_cX17_giveAll_144 ⟨wr_10_197, wr_1_18, wr_10_61, by decide, rfl, (Nat.le_of_ble_eq_true rfl), (Nat.le_of_ble_eq_true rfl)⟩ wr_10_59 wr_10_60 hm639187 he639188 rfl (rm_zc pk639114) (rm_zs pk639114) (Nat.le_of_ble_eq_true rfl) (fun r639266 w639267 dc639263 ds639264 hp639265 => ?_) (fun _ _ _ _ _ z => z.elim)
                                obtain ⟨rfl, rfl, hdc, hds⟩ := hp639265
                                change G _ _ _ _ _ _ _ (.ref q639257 :: _) _ _ _
                                refine G_widen (cs' := ((rPh γ el f - rPh γ0 el0 f) / 18)) (sl' := (rPh γ el f - rPh γ0 el0 f)) (rm_d0 hdc) (rm_d0 hds) ?_
                                have hm639268 : q639257 ∈ P639091 := RS_m hT639093 ht639260 (by decide)
                                obtain ⟨p639270, p639271, p639272, p639273, p639274, p639275, p639276, he639269, bp639270, bp639271, bp639274, bp639275, bp639276, r639277, r639278, r639279, r639280, r639281⟩ := show rk_1 γ q639257 (F639092 q639257) from RS_o hT639093 ht639260
                                have bp639272 := gB_any p639272
                                have bp639273 := gB_any p639273
                                have r639282 : γ 7 (γ 1 q639257) = γ 7 f := by rw [hf639262]
                                refine Gp_cast hm639268 he639269 rfl dr_cX17_giveAll_147 wr_10_198 (gr_cast 1 rfl) ?_
                                refine G_goto 158 dr_cX17_giveAll_150 (by decide +kernel) ?_
                                have fl639285 : p639190.toInt = γ 2 q639167 := r639192
                                have hp639283 : rAt γ el q614035 (g638710.toInt : Int).toNat (g639090.toInt : Int).toNat = q639257 := (rAt_r r639100 ht639177.1 (by omega)).trans (by rw [hx639258])
                                have hL639284 : (g639090.toInt : Int).toNat ≤ γ 2 (rwL γ el q614035 (g638710.toInt : Int).toNat) := by unfold rwL; rw [r639100, ht639177.1]; omega
                                have cn639286 : rNm (fun n => 0 ≤ (cB (F639092 (γ 9 17)) n).toInt) (F639092 q639257) := by rw [congrFun (rSk_9 hs639094) 17, x639105]; exact cq_at x639106 hp639283 (show (g638710.toInt : Int).toNat < γ 6 f by omega) hL639284
                                refine Gw_callV (As := [.ref q639257]) (gV_ok D I) (ct_335839_SpillForgeModel_coloured l hl0 D I γ el P639091 F639092 q614034 q639257 hT639093 ht639111 ht639260 (by omega)) dr_cX17_giveAll_158 ⟨wr_11_51, wr_1_14, wr_11_54, by decide, rfl, (Nat.le_of_ble_eq_true rfl), (Nat.le_of_ble_eq_true rfl)⟩ wr_11_53 wr_p_108 hm639116 he639117 rfl (rm_zc pk639114) (rm_zs pk639114) (Nat.le_of_ble_eq_true rfl) (fun r639290 w639291 dc639287 ds639288 hp639289 => ?_) (fun _ _ _ _ _ z => z.elim)
                                obtain ⟨F639296, rfl, rfl, hT639297, hs639298, hdc, hds, x639292, x639293, x639294, x639295⟩ := hp639289
                                have he639299 : F639296 q638850 = .inr (17, [.ref q639167, .ref q639168, .int p639169, .int p639170]) := (hs639298 q638850 (rT0 ht639097 (by decide)) (rT1 ht639097 (by decide)) (rT2 ht639097 (by decide))).trans he639166
                                have he639300 : F639296 q639167 = .inr (4, [.int p639189, .ref q639191, .int p639190]) := (hs639298 q639167 (rT0 ht639171 (by decide)) (rT1 ht639171 (by decide)) (rT2 ht639171 (by decide))).trans he639188
                                have he639301 : F639296 q639191 = .inl (I (.object "java/lang/Object"), n639254, .inr (.inr (.inr (.inr f639255)))) := (hs639298 q639191 (rT0 r639246 (by decide)) (rT1 r639246 (by decide)) (rT2 r639246 (by decide))).trans r639248
                                have hs639302 := rSk_str hs639094 hT639297 hs639298 (by decide) (by decide) (by decide)
                                have kp639303 : F639296 q614034 = F639092 q614034 := x639293
                                have kp639304 : F639296 (γ0 9 3) = F639092 (γ0 9 3) := (show F639296 (γ0 9 3) = F639092 (γ0 9 3) by rw [← congrFun (rSk_9 hs639302) 3]; exact x639294)
                                have kp639305 : F639296 (γ0 9 17) = F638006 (γ0 9 17) := ((show F639296 (γ0 9 17) = F639092 (γ0 9 17) by rw [← congrFun (rSk_9 hs639302) 17]; exact x639295)).trans x639105
                                have mk639306 : mKp (F614033 q614034) (F639296 q614034) := mKp_tr x639109 (mKp_eq x639293)
                                have he639307 : F639296 q614034 = .inr (22, [.ref (γ 9 0), .ref (γ 9 1), .ref (γ 9 2), .ref (γ 9 3), .ref (γ 9 4), .ref (γ 9 5), .ref (γ 9 6), .ref (γ 9 7), .ref (γ 9 8), .int p639120, .int p639121, .int p639122, .int p639123, .int p639124, .int p639125, .ref (γ 9 15), .ref (γ 9 16), .ref (γ 9 17), .ref (γ 9 18), .ref (γ 9 19), .ref (γ 9 20), .ref (γ 9 21), .ref (γ 9 22), .int p639126, .int p639127, .int p639128, .int p639129, .int p639130, .ref q639118, .ref (γ 9 29), .int p639131, .ref (γ 9 31), .int p639132, .int p639133, .int p639134, .ref q639119]) := (x639293).trans he639117
                                change G _ _ _ _ _ _ _ _ _ _ _
                                refine G_widen (cs' := ((rPh γ el f - rPh γ0 el0 f) / 18)) (sl' := (rPh γ el f - rPh γ0 el0 f)) (rm_d0 hdc) (rm_d0 hds) ?_
                                have cq639308 := cq_put (j1 := (g639090.toInt : Int).toNat + 1) hT639093 ht639112 hf639113 x639106 x639292 hp639283 (show (g638710.toInt : Int).toNat < γ 6 f by omega) hL639284 rfl
                                have ac639309 : (fI (F639296 q614034) 11).toInt = (fI (F639092 q614034) 11).toInt := by rw [kp639303]
                                have ac639310 : (fI (F639296 q614034) 14).toInt = (fI (F639092 q614034) 14).toInt := by rw [kp639303]
                                obtain ⟨z639311, hz639311⟩ : ∃ z : Int32, z = g639090 + Int32.ofInt 1 := ⟨_, rfl⟩
                                have ez639311 : z639311.toInt = g639090.toInt + 1 := gI_inc hz639311 (by decide) bg639090'' (by decide) (by decide)
                                have bz639311 : gB z639311 1 1000000 := ⟨by omega, by omega⟩
                                refine G_iinc (L' := [(7, .int z639311), (6, .ref q638850), (5, .int g638710), (4, .int o638002), (3, .int g636224), (0, .ref q614034), (1, .ref q614035), (2, .int p614036)]) z639311 0 dr_cX17_giveAll_161 rfl hz639311.symm (Nat.le_of_ble_eq_true rfl) rfl ?_
                                refine G_goto 110 dr_cX17_giveAll_164 (by decide +kernel) ?_
                                have ac639312 : (fI (F639296 q614034) 11).toInt = p639122.toInt := by rw [he639307]; rfl
                                have ac639313 : (fI (F639296 q614034) 14).toInt = p639125.toInt := by rw [he639307]; rfl
                                exact ih110_639109 P639091 F639296 γ el z639311 (gB_w bz639311 (by decide) (by decide)) hT639297 hs639302 hph639095 hB639096 ht639097 hf639098 r639099 r639100 (by omega) (by omega) (by omega) (by omega) kp639305 (by rw [show (z639311.toInt : Int).toNat = ((g639090.toInt : Int).toNat + 1) by omega]; exact cq639308) (by omega) (by omega) mk639306 (by omega)
                        have ac639314 : (fI (F638712 q614034) 11).toInt = p638736.toInt := by rw [he638731]; rfl
                        have ac639315 : (fI (F638712 q614034) 14).toInt = p638739.toInt := by rw [he638731]; rfl
                        exact hlp110_639109 (((1000002 : Int) - 0).toNat + 1) P638711 F638712 γ el 0 (gB_w (gBl (show Int32.toInt 0 = 0 by decide)) (by decide) (by decide)) hT638713 hs638714 hph638715 hB638716 ht638855 hf638877 r638885 r638886 (by have qa0 : Int32.toInt 0 = 0 := (by decide); omega) (by have qa0 : Int32.toInt 0 = 0 := (by decide); omega) (by have qa0 : Int32.toInt 0 = 0 := (by decide); omega) (by have qa0 : Int32.toInt 0 = 0 := (by decide); omega) x638721 (by have qa : Int32.toInt 0 = 0 := (by decide); rw [qa]; exact x638722) (by have qa0 : Int32.toInt 0 = 0 := (by decide); omega) (by have qa0 : Int32.toInt 0 = 0 := (by decide); omega) x638723 (Nat.lt_succ_self _)
                  have ac639316 : (fI (F638006 q614034) 11).toInt = p637930.toInt := by rw [he638013]; rfl
                  have ac639317 : (fI (F638006 q614034) 14).toInt = p637933.toInt := by rw [he638013]; rfl
                  exact hlp90_638723 (((1000001 : Int) - 0).toNat + 1) P637909 F638006 γ el 0 (gB_w (gBl (show Int32.toInt 0 = 0 by decide)) (by decide) (by decide)) hT638007 hs638009 hph637921 hB637914 (by have qa0 : Int32.toInt 0 = 0 := (by decide); omega) (by have qa0 : Int32.toInt 0 = 0 := (by decide); omega) (by have qa0 : Int32.toInt 0 = 0 := (by decide); omega) (by have qa0 : Int32.toInt 0 = 0 := (by decide); omega) rfl (by have qa : Int32.toInt 0 = 0 := (by decide); rw [qa]; exact cq638124) mk638012 (Nat.lt_succ_self _)
              · have r639318 : o637898.toInt ≠ 0 := gj_neq hc637974 (show Int32.toInt 0 = 0 by decide)
                have bo637898' : gB o637898 1 1 := gB_t1 bo637898 r639318
                refine G_aload_n 1 dr_cX17_giveAll_61 rfl ?_
                refine G_aload_n 2 dr_cX17_giveAll_62 rfl ?_
                refine G_iconst 0 dr_cX17_giveAll_63 (by decide +kernel) ?_
                refine Gw_callV (As := [.ref q614035, .int 0]) (gV_ok D I) (ct_270169_SpillForgeModel_graph l hl0 D I γ el P637909 F637910 q614034 q614035 0 hT637915 ht637917 ht637918 (gB_w (gBl (show Int32.toInt 0 = 0 by decide)) (by decide) (by decide)) (by omega)) dr_cX17_giveAll_64 ⟨wr_10_229, wr_1_14, wr_10_232, by decide, rfl, (Nat.le_of_ble_eq_true rfl), (Nat.le_of_ble_eq_true rfl)⟩ wr_10_231 wr_p_99 hm637924 he637925 rfl (rm_zc pk637922) (rm_zs pk637922) (Nat.le_of_ble_eq_true rfl) (fun r639322 w639323 dc639319 ds639320 hp639321 => ?_) (fun _ _ _ _ _ z => z.elim)
                obtain ⟨F639326, rfl, rfl, hT639327, hs639328, hdc, hds, x639324, x639325⟩ := hp639321
                have hs639329 := rSk_str hs637916 hT639327 hs639328 (by decide) (by decide) (by decide)
                have kp639330 : F639326 q614034 = F637910 q614034 := x639325
                have mk639331 : mKp (F614033 q614034) (F639326 q614034) := mKp_tr mk637920 (mKp_eq x639325)
                have he639332 : F639326 q614034 = .inr (22, [.ref (γ 9 0), .ref (γ 9 1), .ref (γ 9 2), .ref (γ 9 3), .ref (γ 9 4), .ref (γ 9 5), .ref (γ 9 6), .ref (γ 9 7), .ref (γ 9 8), .int p637928, .int p637929, .int p637930, .int p637931, .int p637932, .int p637933, .ref (γ 9 15), .ref (γ 9 16), .ref (γ 9 17), .ref (γ 9 18), .ref (γ 9 19), .ref (γ 9 20), .ref (γ 9 21), .ref (γ 9 22), .int p637934, .int p637935, .int p637936, .int p637937, .int p637938, .ref q637926, .ref (γ 9 29), .int p637939, .ref (γ 9 31), .int p637940, .int p637941, .int p637942, .ref q637927]) := (x639325).trans he637925
                rw [show Int32.toInt 0 = 0 from by decide] at x639324
                change G _ _ _ _ _ _ _ _ _ _ _
                refine G_widen (cs' := ((rPh γ el f - rPh γ0 el0 f) / 18)) (sl' := (rPh γ el f - rPh γ0 el0 f)) (rm_d0 hdc) (rm_d0 hds) ?_
                have ni639333 : rNI γ el F639326 q614035 (γ 6 f) (fI (F639326 q614034) 11).toInt := rNI_s (rNI_str hT637915 ht637918 hf637919 hs639328 (by decide) ni637973) (by rw [x639325])
                have gr639334 : rGr γ el F639326 q614035 (γ 6 f) (cB (F639326 (γ0 9 3))) (vA (γ 6 f)) := by have z := x639324 (by decide); rw [hf637919] at z; rw [← congrFun (rSk_9 hs639329) 3]; exact gq_str hT637915 ht637918 hf637919 hs639328 (by decide) z
                have ac639335 : (fI (F639326 q614034) 11).toInt = (fI (F637910 q614034) 11).toInt := by rw [kp639330]
                have ac639336 : (fI (F639326 q614034) 14).toInt = (fI (F637910 q614034) 14).toInt := by rw [kp639330]
                refine G_goto 52 dr_cX17_giveAll_67 (by decide +kernel) ?_
                have ac639337 : (fI (F639326 q614034) 11).toInt = p637930.toInt := by rw [he639332]; rfl
                have ac639338 : (fI (F639326 q614034) 14).toInt = p637933.toInt := by rw [he639332]; rfl
                exact ih52_637833 P637909 F639326 γ el hT639327 hs639329 hph637921 hB637914 (by omega) (by omega) (by omega) (by omega) ni639333 gr639334 mk639331 (by have z := x637903.resolve_left (by omega); omega)
          have ac639339 : (fI (F636337 q614034) 11).toInt = p636249.toInt := by rw [he636344]; rfl
          have ac639340 : (fI (F636337 q614034) 14).toInt = p636252.toInt := by rw [he636344]; rfl
          exact hlp52_637833 (rsum (fun i => γ 2 (γ 14 (el (γ 14 q614035) i))) (γ 6 f) + 1) P636225 F636337 γ el hT636338 hs636341 hph636229 hB636230 (by omega) (by omega) (by omega) (by omega) ni636345 gr636346 mk636343 (Nat.lt_succ_self _)
        · have r639341 : 4000 < o636327.toInt := gj_nle hc636328 (show Int32.toInt 4000 = 4000 by decide)
          have bo636327' : gB o636327 4001 2147483647 := ⟨by omega, by omega⟩
          refine G_iconst (-1) dr_cX17_giveAll_44 (by decide +kernel) ?_
          exact G_iretA dr_cX17_giveAll_45 rfl (show ((rPh γ el f - rPh γ0 el0 f) / 18) ≤ (((387 * B + 6000) - rPh γ0 el0 f) / 18) by omega) (show (rPh γ el f - rPh γ0 el0 f) ≤ ((387 * B + 6000) - rPh γ0 el0 f) by omega) ⟨P636225, F636226, γ, el, (-1), rfl, rfl, hs636228, ⟨by omega, by omega⟩, hB636230, (gB_w (gBl (show Int32.toInt (-1) = (-1) by decide)) (by decide) (by decide)), (by have qa0 : Int32.toInt (-1) = (-1) := (by decide); omega), x636236⟩
  have ac639342 : (fI (F614144 q614034) 11).toInt = p614166.toInt := by rw [he614161]; rfl
  have ac639343 : (fI (F614144 q614034) 14).toInt = p614169.toInt := by rw [he614161]; rfl
  exact hlp28_636236 (((42 : Int) - 1).toNat + 1) P614143 F614144 γ el 1 (gB_w (gBl (show Int32.toInt 1 = 1 by decide)) (by decide) (by decide)) hT614149 hs614150 hph614155 hB614148 (by have qa0 : Int32.toInt 1 = 1 := (by decide); omega) (by have qa0 : Int32.toInt 1 = 1 := (by decide); omega) (by have qa0 : Int32.toInt 1 = 1 := (by decide); omega) (by have qa0 : Int32.toInt 1 = 1 := (by decide); omega) ni614209 mk614154 (Nat.lt_succ_self _)
