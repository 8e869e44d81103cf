theorem dr_cX17_giveAll_0 : decode cX17_giveAll 0 = .ok (.aload_n 0, 1) := by decide +kernel
theorem dr_cX17_giveAll_1 : decode cX17_giveAll 1 = .ok (.iconst 0, 1) := by decide +kernel
theorem dr_cX17_giveAll_2 : decode cX17_giveAll 2 = .ok (.putfield 224, 3) := by decide +kernel
theorem dr_cX17_giveAll_5 : decode cX17_giveAll 5 = .ok (.aload_n 0, 1) := by decide +kernel
theorem dr_cX17_giveAll_6 : decode cX17_giveAll 6 = .ok (.iconst 0, 1) := by decide +kernel
theorem dr_cX17_giveAll_7 : decode cX17_giveAll 7 = .ok (.putfield 237, 3) := by decide +kernel
theorem dr_cX17_giveAll_10 : decode cX17_giveAll 10 = .ok (.aload_n 0, 1) := by decide +kernel
theorem dr_cX17_giveAll_11 : decode cX17_giveAll 11 = .ok (.iconst 0, 1) := by decide +kernel
theorem dr_cX17_giveAll_12 : decode cX17_giveAll 12 = .ok (.putfield 195, 3) := by decide +kernel
theorem dr_cX17_giveAll_15 : decode cX17_giveAll 15 = .ok (.aload_n 0, 1) := by decide +kernel
theorem dr_cX17_giveAll_16 : decode cX17_giveAll 16 = .ok (.bipush 100, 2) := by decide +kernel
theorem dr_cX17_giveAll_18 : decode cX17_giveAll 18 = .ok (.putfield 231, 3) := by decide +kernel
theorem dr_cX17_giveAll_21 : decode cX17_giveAll 21 = .ok (.aload_n 0, 1) := by decide +kernel
theorem dr_cX17_giveAll_22 : decode cX17_giveAll 22 = .ok (.aload_n 1, 1) := by decide +kernel
theorem dr_cX17_giveAll_23 : decode cX17_giveAll 23 = .ok (.invokevirtual 240, 3) := by decide +kernel
theorem dr_cX17_giveAll_26 : decode cX17_giveAll 26 = .ok (.iconst 1, 1) := by decide +kernel
theorem dr_cX17_giveAll_27 : decode cX17_giveAll 27 = .ok (.istore_n 3, 1) := by decide +kernel
theorem dr_cX17_giveAll_28 : decode cX17_giveAll 28 = .ok (.iload_n 3, 1) := by decide +kernel
theorem dr_cX17_giveAll_29 : decode cX17_giveAll 29 = .ok (.bipush 40, 2) := by decide +kernel
theorem dr_cX17_giveAll_31 : decode cX17_giveAll 31 = .ok (.if_icmp .gt 176, 3) := by decide +kernel
theorem dr_cX17_giveAll_207 : decode cX17_giveAll 207 = .ok (.iconst (-1), 1) := by decide +kernel
theorem dr_cX17_giveAll_208 : decode cX17_giveAll 208 = .ok (.ireturn, 1) := by decide +kernel
theorem dr_cX17_giveAll_34 : decode cX17_giveAll 34 = .ok (.aload_n 1, 1) := by decide +kernel
theorem dr_cX17_giveAll_35 : decode cX17_giveAll 35 = .ok (.invokevirtual 234, 3) := by decide +kernel
theorem dr_cX17_giveAll_38 : decode cX17_giveAll 38 = .ok (.sipush 4000, 3) := by decide +kernel
theorem dr_cX17_giveAll_41 : decode cX17_giveAll 41 = .ok (.if_icmp .le 5, 3) := by decide +kernel
theorem dr_cX17_giveAll_46 : decode cX17_giveAll 46 = .ok (.aload_n 0, 1) := by decide +kernel
theorem dr_cX17_giveAll_47 : decode cX17_giveAll 47 = .ok (.aload_n 1, 1) := by decide +kernel
theorem dr_cX17_giveAll_48 : decode cX17_giveAll 48 = .ok (.iconst 0, 1) := by decide +kernel
theorem dr_cX17_giveAll_49 : decode cX17_giveAll 49 = .ok (.invokevirtual 243, 3) := by decide +kernel
theorem dr_cX17_giveAll_52 : decode cX17_giveAll 52 = .ok (.aload_n 0, 1) := by decide +kernel
theorem dr_cX17_giveAll_53 : decode cX17_giveAll 53 = .ok (.aload_n 1, 1) := by decide +kernel
theorem dr_cX17_giveAll_54 : decode cX17_giveAll 54 = .ok (.iload_n 2, 1) := by decide +kernel
theorem dr_cX17_giveAll_55 : decode cX17_giveAll 55 = .ok (.invokevirtual 246, 3) := by decide +kernel
theorem wr_11_8 : (Jvm.Cond.methodLink "SpillForgeModel" (246 : Nat) ({ cls := "SpillForgeModel", name := "merge", desc := "(LSpillForgeModel$Code;I)Z" } : Jvm.MethodName)) ∈ gw := gw_11 8 rfl rfl
theorem wr_11_11 : (Jvm.Cond.code ({ cls := "SpillForgeModel", name := "merge", desc := "(LSpillForgeModel$Code;I)Z" } : Jvm.MethodName) prog_14_method_17_code (9 : Nat) (Option.some Jvm.ClassFile.FieldType.boolean)) ∈ gw := gw_11 11 rfl rfl
theorem wr_11_10 : (Jvm.Cond.instanceMethod ({ cls := "SpillForgeModel", name := "merge", desc := "(LSpillForgeModel$Code;I)Z" } : Jvm.MethodName)) ∈ gw := gw_11 10 rfl rfl
theorem wr_p_101 : Cond.selects "SpillForgeModel" ⟨"SpillForgeModel", "merge", "(LSpillForgeModel$Code;I)Z"⟩ ⟨"SpillForgeModel", "merge", "(LSpillForgeModel$Code;I)Z"⟩ ∈ gw := gw_p _ 101 rfl rfl rfl
theorem dr_cX17_giveAll_58 : decode cX17_giveAll 58 = .ok (.ifCond .eq 12, 3) := by decide +kernel
theorem dr_cX17_giveAll_70 : decode cX17_giveAll 70 = .ok (.aload_n 0, 1) := by decide +kernel
theorem dr_cX17_giveAll_71 : decode cX17_giveAll 71 = .ok (.aload_n 1, 1) := by decide +kernel
theorem dr_cX17_giveAll_72 : decode cX17_giveAll 72 = .ok (.invokevirtual 250, 3) := by decide +kernel
theorem dr_cX17_giveAll_75 : decode cX17_giveAll 75 = .ok (.aload_n 0, 1) := by decide +kernel
theorem dr_cX17_giveAll_76 : decode cX17_giveAll 76 = .ok (.iload_n 2, 1) := by decide +kernel
theorem dr_cX17_giveAll_77 : decode cX17_giveAll 77 = .ok (.invokevirtual 253, 3) := by decide +kernel
theorem wr_11_47 : (Jvm.Cond.methodLink "SpillForgeModel" (253 : Nat) ({ cls := "SpillForgeModel", name := "colours", desc := "(I)I" } : Jvm.MethodName)) ∈ gw := gw_11 47 rfl rfl
theorem wr_11_50 : (Jvm.Cond.code ({ cls := "SpillForgeModel", name := "colours", desc := "(I)I" } : Jvm.MethodName) prog_14_method_21_code (8 : Nat) (Option.some Jvm.ClassFile.FieldType.int)) ∈ gw := gw_11 50 rfl rfl
theorem wr_11_49 : (Jvm.Cond.instanceMethod ({ cls := "SpillForgeModel", name := "colours", desc := "(I)I" } : Jvm.MethodName)) ∈ gw := gw_11 49 rfl rfl
theorem wr_p_106 : Cond.selects "SpillForgeModel" ⟨"SpillForgeModel", "colours", "(I)I"⟩ ⟨"SpillForgeModel", "colours", "(I)I"⟩ ∈ gw := gw_p _ 106 rfl rfl rfl
theorem dr_cX17_giveAll_80 : decode cX17_giveAll 80 = .ok (.istore 4, 2) := by decide +kernel
theorem dr_cX17_giveAll_82 : decode cX17_giveAll 82 = .ok (.iload 4, 2) := by decide +kernel
theorem dr_cX17_giveAll_84 : decode cX17_giveAll 84 = .ok (.ifCond .ne 96, 3) := by decide +kernel
theorem dr_cX17_giveAll_180 : decode cX17_giveAll 180 = .ok (.aload_n 0, 1) := by decide +kernel
theorem dr_cX17_giveAll_181 : decode cX17_giveAll 181 = .ok (.dup, 1) := by decide +kernel
theorem dr_cX17_giveAll_182 : decode cX17_giveAll 182 = .ok (.getfield 237, 3) := by decide +kernel
theorem dr_cX17_giveAll_185 : decode cX17_giveAll 185 = .ok (.iload 4, 2) := by decide +kernel
theorem dr_cX17_giveAll_187 : decode cX17_giveAll 187 = .ok (.iadd, 1) := by decide +kernel
theorem dr_cX17_giveAll_188 : decode cX17_giveAll 188 = .ok (.putfield 237, 3) := by decide +kernel
theorem dr_cX17_giveAll_191 : decode cX17_giveAll 191 = .ok (.aload_n 0, 1) := by decide +kernel
theorem dr_cX17_giveAll_192 : decode cX17_giveAll 192 = .ok (.aload_n 1, 1) := by decide +kernel
theorem dr_cX17_giveAll_193 : decode cX17_giveAll 193 = .ok (.invokevirtual 263, 3) := by decide +kernel
theorem wr_11_63 : (Jvm.Cond.methodLink "SpillForgeModel" (263 : Nat) ({ cls := "SpillForgeModel", name := "spill", desc := "(LSpillForgeModel$Code;)Z" } : Jvm.MethodName)) ∈ gw := gw_11 63 rfl rfl
theorem wr_11_66 : (Jvm.Cond.code ({ cls := "SpillForgeModel", name := "spill", desc := "(LSpillForgeModel$Code;)Z" } : Jvm.MethodName) prog_14_method_22_code (10 : Nat) (Option.some Jvm.ClassFile.FieldType.boolean)) ∈ gw := gw_11 66 rfl rfl
theorem wr_11_65 : (Jvm.Cond.instanceMethod ({ cls := "SpillForgeModel", name := "spill", desc := "(LSpillForgeModel$Code;)Z" } : Jvm.MethodName)) ∈ gw := gw_11 65 rfl rfl
theorem wr_p_110 : Cond.selects "SpillForgeModel" ⟨"SpillForgeModel", "spill", "(LSpillForgeModel$Code;)Z"⟩ ⟨"SpillForgeModel", "spill", "(LSpillForgeModel$Code;)Z"⟩ ∈ gw := gw_p _ 110 rfl rfl rfl
theorem dr_cX17_giveAll_196 : decode cX17_giveAll 196 = .ok (.ifCond .ne 5, 3) := by decide +kernel
theorem dr_cX17_giveAll_201 : decode cX17_giveAll 201 = .ok (.iinc 3 1, 3) := by decide +kernel
theorem dr_cX17_giveAll_204 : decode cX17_giveAll 204 = .ok (.goto (-176), 3) := by decide +kernel
theorem dr_cX17_giveAll_199 : decode cX17_giveAll 199 = .ok (.iconst (-1), 1) := by decide +kernel
theorem dr_cX17_giveAll_200 : decode cX17_giveAll 200 = .ok (.ireturn, 1) := by decide +kernel
theorem dr_cX17_giveAll_87 : decode cX17_giveAll 87 = .ok (.iconst 0, 1) := by decide +kernel
theorem dr_cX17_giveAll_88 : decode cX17_giveAll 88 = .ok (.istore 5, 2) := by decide +kernel
theorem dr_cX17_giveAll_90 : decode cX17_giveAll 90 = .ok (.iload 5, 2) := by decide +kernel
theorem dr_cX17_giveAll_92 : decode cX17_giveAll 92 = .ok (.aload_n 1, 1) := by decide +kernel
theorem dr_cX17_giveAll_93 : decode cX17_giveAll 93 = .ok (.invokevirtual 96, 3) := by decide +kernel
theorem dr_cX17_giveAll_96 : decode cX17_giveAll 96 = .ok (.if_icmp .ge 77, 3) := by decide +kernel
theorem dr_cX17_giveAll_173 : decode cX17_giveAll 173 = .ok (.aload_n 0, 1) := by decide +kernel
theorem dr_cX17_giveAll_174 : decode cX17_giveAll 174 = .ok (.aload_n 1, 1) := by decide +kernel
theorem dr_cX17_giveAll_175 : decode cX17_giveAll 175 = .ok (.invokevirtual 260, 3) := by decide +kernel
theorem wr_11_59 : (Jvm.Cond.methodLink "SpillForgeModel" (260 : Nat) ({ cls := "SpillForgeModel", name := "share", desc := "(LSpillForgeModel$Code;)V" } : Jvm.MethodName)) ∈ gw := gw_11 59 rfl rfl
theorem wr_11_62 : (Jvm.Cond.code ({ cls := "SpillForgeModel", name := "share", desc := "(LSpillForgeModel$Code;)V" } : Jvm.MethodName) prog_14_method_26_code (7 : Nat) (Option.none : Option Jvm.ClassFile.FieldType)) ∈ gw := gw_11 62 rfl rfl
theorem wr_11_61 : (Jvm.Cond.instanceMethod ({ cls := "SpillForgeModel", name := "share", desc := "(LSpillForgeModel$Code;)V" } : Jvm.MethodName)) ∈ gw := gw_11 61 rfl rfl
theorem wr_p_109 : Cond.selects "SpillForgeModel" ⟨"SpillForgeModel", "share", "(LSpillForgeModel$Code;)V"⟩ ⟨"SpillForgeModel", "share", "(LSpillForgeModel$Code;)V"⟩ ∈ gw := gw_p _ 109 rfl rfl rfl
theorem dr_cX17_giveAll_178 : decode cX17_giveAll 178 = .ok (.iload_n 3, 1) := by decide +kernel
theorem dr_cX17_giveAll_179 : decode cX17_giveAll 179 = .ok (.ireturn, 1) := by decide +kernel
theorem dr_cX17_giveAll_99 : decode cX17_giveAll 99 = .ok (.aload_n 1, 1) := by decide +kernel
theorem dr_cX17_giveAll_100 : decode cX17_giveAll 100 = .ok (.iload 5, 2) := by decide +kernel
theorem dr_cX17_giveAll_102 : decode cX17_giveAll 102 = .ok (.invokevirtual 101, 3) := by decide +kernel
theorem dr_cX17_giveAll_105 : decode cX17_giveAll 105 = .ok (.astore 6, 2) := by decide +kernel
theorem dr_cX17_giveAll_107 : decode cX17_giveAll 107 = .ok (.iconst 0, 1) := by decide +kernel
theorem dr_cX17_giveAll_108 : decode cX17_giveAll 108 = .ok (.istore 7, 2) := by decide +kernel
theorem dr_cX17_giveAll_110 : decode cX17_giveAll 110 = .ok (.iload 7, 2) := by decide +kernel
theorem dr_cX17_giveAll_112 : decode cX17_giveAll 112 = .ok (.aload 6, 2) := by decide +kernel
theorem dr_cX17_giveAll_114 : decode cX17_giveAll 114 = .ok (.getfield 117, 3) := by decide +kernel
theorem dr_cX17_giveAll_117 : decode cX17_giveAll 117 = .ok (.invokevirtual 121, 3) := by decide +kernel
theorem dr_cX17_giveAll_120 : decode cX17_giveAll 120 = .ok (.if_icmp .gt 47, 3) := by decide +kernel
theorem dr_cX17_giveAll_167 : decode cX17_giveAll 167 = .ok (.iinc 5 1, 3) := by decide +kernel
theorem dr_cX17_giveAll_170 : decode cX17_giveAll 170 = .ok (.goto (-80), 3) := by decide +kernel
theorem dr_cX17_giveAll_123 : decode cX17_giveAll 123 = .ok (.aload_n 0, 1) := by decide +kernel
theorem dr_cX17_giveAll_124 : decode cX17_giveAll 124 = .ok (.iload 7, 2) := by decide +kernel
theorem dr_cX17_giveAll_126 : decode cX17_giveAll 126 = .ok (.aload 6, 2) := by decide +kernel
theorem dr_cX17_giveAll_128 : decode cX17_giveAll 128 = .ok (.getfield 117, 3) := by decide +kernel
theorem dr_cX17_giveAll_131 : decode cX17_giveAll 131 = .ok (.invokevirtual 121, 3) := by decide +kernel
theorem dr_cX17_giveAll_134 : decode cX17_giveAll 134 = .ok (.if_icmp .ge 19, 3) := by decide +kernel
theorem dr_cX17_giveAll_153 : decode cX17_giveAll 153 = .ok (.aload 6, 2) := by decide +kernel
theorem dr_cX17_giveAll_155 : decode cX17_giveAll 155 = .ok (.getfield 109, 3) := by decide +kernel
theorem dr_cX17_giveAll_158 : decode cX17_giveAll 158 = .ok (.invokevirtual 256, 3) := by decide +kernel
theorem wr_11_55 : (Jvm.Cond.methodLink "SpillForgeModel" (256 : Nat) ({ cls := "SpillForgeModel", name := "coloured", desc := "(LSpillForgeModel$Row;)V" } : Jvm.MethodName)) ∈ gw := gw_11 55 rfl rfl
theorem wr_11_58 : (Jvm.Cond.code ({ cls := "SpillForgeModel", name := "coloured", desc := "(LSpillForgeModel$Row;)V" } : Jvm.MethodName) prog_14_method_25_code (2 : Nat) (Option.none : Option Jvm.ClassFile.FieldType)) ∈ gw := gw_11 58 rfl rfl
theorem wr_11_57 : (Jvm.Cond.instanceMethod ({ cls := "SpillForgeModel", name := "coloured", desc := "(LSpillForgeModel$Row;)V" } : Jvm.MethodName)) ∈ gw := gw_11 57 rfl rfl
theorem wr_p_108 : Cond.selects "SpillForgeModel" ⟨"SpillForgeModel", "coloured", "(LSpillForgeModel$Row;)V"⟩ ⟨"SpillForgeModel", "coloured", "(LSpillForgeModel$Row;)V"⟩ ∈ gw := gw_p _ 108 rfl rfl rfl
theorem dr_cX17_giveAll_161 : decode cX17_giveAll 161 = .ok (.iinc 7 1, 3) := by decide +kernel
theorem dr_cX17_giveAll_164 : decode cX17_giveAll 164 = .ok (.goto (-54), 3) := by decide +kernel
theorem dr_cX17_giveAll_137 : decode cX17_giveAll 137 = .ok (.aload 6, 2) := by decide +kernel
theorem dr_cX17_giveAll_139 : decode cX17_giveAll 139 = .ok (.getfield 117, 3) := by decide +kernel
theorem dr_cX17_giveAll_142 : decode cX17_giveAll 142 = .ok (.iload 7, 2) := by decide +kernel
theorem dr_cX17_giveAll_144 : decode cX17_giveAll 144 = .ok (.invokevirtual 124, 3) := by decide +kernel
theorem dr_cX17_giveAll_147 : decode cX17_giveAll 147 = .ok (.checkcast 40, 3) := by decide +kernel
theorem dr_cX17_giveAll_150 : decode cX17_giveAll 150 = .ok (.goto 8, 3) := by decide +kernel
theorem dr_cX17_giveAll_61 : decode cX17_giveAll 61 = .ok (.aload_n 0, 1) := by decide +kernel
theorem dr_cX17_giveAll_62 : decode cX17_giveAll 62 = .ok (.aload_n 1, 1) := by decide +kernel
theorem dr_cX17_giveAll_63 : decode cX17_giveAll 63 = .ok (.iconst 0, 1) := by decide +kernel
theorem dr_cX17_giveAll_64 : decode cX17_giveAll 64 = .ok (.invokevirtual 243, 3) := by decide +kernel
theorem dr_cX17_giveAll_67 : decode cX17_giveAll 67 = .ok (.goto (-15), 3) := by decide +kernel
theorem dr_cX17_giveAll_44 : decode cX17_giveAll 44 = .ok (.iconst (-1), 1) := by decide +kernel
theorem dr_cX17_giveAll_45 : decode cX17_giveAll 45 = .ok (.ireturn, 1) := by decide +kernel
abbrev ky_614148_SpillForgeModel_giveAll : gKey := (cX17_giveAll, 8, "SpillForgeModel", (some FieldType.int), [], "giveAll", fun _ _ => True)
def pg_614148_SpillForgeModel_giveAll (D : va_G) (I : FieldType → ClassId) (γ0 el0 : Nat → Nat → Nat) (f : Nat) (B : Nat) (P614140 : List Nat) (F614141 : Nat → va_E) (q614142 : Nat) (q614143 : Nat) (p614144 : Int32) : Option Value → va_W → Nat → Nat → Prop := fun r w dc ds => ∃ (P639453 : List Nat) (F639454 : Nat → va_E) (γ el : Nat → Nat → Nat) (o639452 : Int32), r = some (.int o639452) ∧ w = va_pl P639453 F639454 ∧ rSk f [101] ([1, 3, 5, 6, 8, 9, 101] ++ npk) D I P614140 F614141 γ0 el0 P639453 F639454 γ el ∧ (18 * dc + rPh γ0 el0 f ≤ rPh γ el f ∧ ds + rPh γ0 el0 f ≤ rPh γ el f) ∧ rBd γ el f B ∧ gB o639452 (-1) 40 ∧ γ 6 f = γ0 6 f ∧ mKp (F614141 q614142) (F639454 q614142)
set_option maxRecDepth 100000 in
set_option maxHeartbeats 20000000 in
theorem cg_614148_SpillForgeModel_giveAll (l : Launch) (hl0 : l.stackTraces = false) (D : va_G) (I : FieldType → ClassId) (γ0 el0 : Nat → Nat → Nat) (f : Nat) (B : Nat) (P614140 : List Nat) (F614141 : Nat → va_E) (q614142 : Nat) (q614143 : Nat) (p614144 : Int32) (hT0 : RS D I P614140 F614141 γ0 el0) (hzq614142 : rKd γ0 q614142 10) (hzq614143 : rKd γ0 q614143 9) (hf0 : γ0 1 q614143 = f) (hB0 : rBd γ0 el0 f B) (hBk : B ≤ 100000) (bp614144 : gB p614144 1 32) (x614145 : 0 < γ0 6 f) (x614146 : γ0 7 f = 0) (x614147 : γ0 16 f + 3901 ≤ B) : CtA (gV D I) l yX17_giveAll cX17_giveAll 8 (some FieldType.int) 10 224 (((387 * B + 6000) - rPh γ0 el0 f) / 18) ((387 * B + 6000) - rPh γ0 el0 f) [.ref q614142, .ref q614143, .int p614144] (va_pl P614140 F614141) (pg_614148_SpillForgeModel_giveAll D I γ0 el0 f B P614140 F614141 q614142 q614143 p614144) gNA := by
  refine CtA_of hl0 (by decide) (Nat.le_of_ble_eq_true rfl) ?_
  obtain ⟨γ, hγ0⟩ : ∃ z, z = γ0 := ⟨_, rfl⟩
  obtain ⟨el, hel0⟩ : ∃ z, z = el0 := ⟨_, rfl⟩
  have hT : RS D I P614140 F614141 γ el := by rw [hγ0, hel0]; exact hT0
  have hst : rSk f [101] ([1, 3, 5, 6, 8, 9, 101] ++ npk) D I P614140 F614141 γ0 el0 P614140 F614141 γ el := by rw [hγ0, hel0]; exact rSk_rf hT0
  have hph : rPh γ0 el0 f ≤ rPh γ el f := by rw [hγ0, hel0]; exact Nat.le_refl _
  have hB : rBd γ el f B := by rw [hγ0, hel0]; exact hB0
  have htq614142 : rKd γ q614142 10 := by rw [hγ0]; exact hzq614142
  have htq614143 : rKd γ q614143 9 := by rw [hγ0]; exact hzq614143
  have hf1 : γ 1 q614143 = f := by rw [hγ0]; exact hf0
  have x614145n : 0 < γ 6 f := by rw [hγ0]; exact x614145
  have x614146n : γ 7 f = 0 := by rw [hγ0]; exact x614146
  have x614147n : γ 16 f + 3901 ≤ B := by rw [hγ0]; exact x614147
  have pk614149 : rPh γ el f ≤ 387 * B + 6000 := rm_pk (rM_ge hT htq614143 hf1).1 (rM_bd hB)
  refine G_widen (cs' := ((rPh γ el f - rPh γ0 el0 f) / 18)) (sl' := (rPh γ el f - rPh γ0 el0 f)) (Nat.zero_le _) (Nat.zero_le _) ?_
  have lz0 : Int32.toInt 0 = 0 := by decide
  have r614150 : γ 6 f = γ0 6 f := by rw [hγ0]
  have r614151 : γ 7 f = γ0 7 f := by rw [hγ0]
  have r614152 : γ 16 f = γ0 16 f := by rw [hγ0]
  have r614153 : γ 18 f = γ0 18 f := by rw [hγ0]
  have r614154 : γ 19 f = γ0 19 f := by rw [hγ0]
  have hm614155 : q614142 ∈ P614140 := RS_m hT htq614142 (by decide)
  refine rk10_e (show rk_10 γ (F614141 q614142) from RS_o hT htq614142) (fun q614157 q614158 p614159 p614160 p614161 p614162 p614163 p614164 p614165 p614166 p614167 p614168 p614169 p614170 p614171 p614172 p614173 he614156 hB614200 ht614174 ht614175 ht614176 ht614177 ht614178 ht614179 ht614180 ht614181 ht614182 ht614183 ht614184 ht614185 ht614186 ht614187 ht614188 ht614189 ht614190 ht614191 ht614192 ht614193 ht614194 ht614195 ht614196 ht614197 hB614201 => ?_)
  have k0_3 : rKd γ0 (γ0 9 3) 14 := by rw [← hγ0]; exact ht614179
  have k0_17 : rKd γ0 (γ0 9 17) 20 := by rw [← hγ0]; exact ht614187
  refine G_aload_n 0 dr_cX17_giveAll_0 rfl ?_
  refine G_iconst 0 dr_cX17_giveAll_1 (by decide +kernel) ?_
  refine Gp_put 11 hm614155 he614156 dr_cX17_giveAll_2 (gk_X17 D I) (Nat.le_of_ble_eq_true rfl) wr_7_85 rfl rfl rfl (Nat.le_of_ble_eq_true rfl) (fun F614202 e614203 n614204 => ?_)
  have he614205 : F614202 q614142 = .inr (22, [.ref (γ 9 0), .ref (γ 9 1), .ref (γ 9 2), .ref (γ 9 3), .ref (γ 9 4), .ref (γ 9 5), .ref (γ 9 6), .ref (γ 9 7), .ref (γ 9 8), .int p614159, .int p614160, .int 0, .int p614162, .int p614163, .int p614164, .ref (γ 9 15), .ref (γ 9 16), .ref (γ 9 17), .ref (γ 9 18), .ref (γ 9 19), .ref (γ 9 20), .ref (γ 9 21), .ref (γ 9 22), .int p614165, .int p614166, .int p614167, .int p614168, .int p614169, .ref q614157, .ref (γ 9 29), .int p614170, .ref (γ 9 31), .int p614171, .int p614172, .int p614173, .ref q614158]) := e614203
  have mk614206 : mKp (F614141 q614142) (F614202 q614142) := mKp_tr mKp_rf (by rw [he614156, he614205]; exact ⟨rfl, rfl⟩)
  have kp614207 : F614202 (γ0 9 3) = F614141 (γ0 9 3) := n614204 (γ0 9 3) (rn_ty (rSk_k hst k0_3 (by decide) (by decide)) htq614142 (by decide))
  have kp614208 : F614202 (γ0 9 17) = F614141 (γ0 9 17) := n614204 (γ0 9 17) (rn_ty (rSk_k hst k0_17 (by decide) (by decide)) htq614142 (by decide))
  refine G_aload_n 0 dr_cX17_giveAll_5 rfl ?_
  refine G_iconst 0 dr_cX17_giveAll_6 (by decide +kernel) ?_
  refine Gp_put 12 hm614155 he614205 dr_cX17_giveAll_7 (gk_X17 D I) (Nat.le_of_ble_eq_true rfl) wr_7_86 rfl rfl rfl (Nat.le_of_ble_eq_true rfl) (fun F614209 e614210 n614211 => ?_)
  have he614212 : F614209 q614142 = .inr (22, [.ref (γ 9 0), .ref (γ 9 1), .ref (γ 9 2), .ref (γ 9 3), .ref (γ 9 4), .ref (γ 9 5), .ref (γ 9 6), .ref (γ 9 7), .ref (γ 9 8), .int p614159, .int p614160, .int 0, .int 0, .int p614163, .int p614164, .ref (γ 9 15), .ref (γ 9 16), .ref (γ 9 17), .ref (γ 9 18), .ref (γ 9 19), .ref (γ 9 20), .ref (γ 9 21), .ref (γ 9 22), .int p614165, .int p614166, .int p614167, .int p614168, .int p614169, .ref q614157, .ref (γ 9 29), .int p614170, .ref (γ 9 31), .int p614171, .int p614172, .int p614173, .ref q614158]) := e614210
  have mk614213 : mKp (F614141 q614142) (F614209 q614142) := mKp_tr mk614206 (by rw [he614205, he614212]; exact ⟨rfl, rfl⟩)
  have n614214 : ∀ b, b ≠ q614142 → F614209 b = F614141 b := fun b hb => (n614211 b hb).trans (n614204 b hb)
  have kp614215 : F614209 (γ0 9 3) = F614141 (γ0 9 3) := (n614211 (γ0 9 3) (rn_ty (rSk_k hst k0_3 (by decide) (by decide)) htq614142 (by decide))).trans kp614207
  have kp614216 : F614209 (γ0 9 17) = F614141 (γ0 9 17) := (n614211 (γ0 9 17) (rn_ty (rSk_k hst k0_17 (by decide) (by decide)) htq614142 (by decide))).trans kp614208
  refine G_aload_n 0 dr_cX17_giveAll_10 rfl ?_
  refine G_iconst 0 dr_cX17_giveAll_11 (by decide +kernel) ?_
  refine Gp_put 13 hm614155 he614212 dr_cX17_giveAll_12 (gk_X17 D I) (Nat.le_of_ble_eq_true rfl) wr_7_87 rfl rfl rfl (Nat.le_of_ble_eq_true rfl) (fun F614217 e614218 n614219 => ?_)
  have he614220 : F614217 q614142 = .inr (22, [.ref (γ 9 0), .ref (γ 9 1), .ref (γ 9 2), .ref (γ 9 3), .ref (γ 9 4), .ref (γ 9 5), .ref (γ 9 6), .ref (γ 9 7), .ref (γ 9 8), .int p614159, .int p614160, .int 0, .int 0, .int 0, .int p614164, .ref (γ 9 15), .ref (γ 9 16), .ref (γ 9 17), .ref (γ 9 18), .ref (γ 9 19), .ref (γ 9 20), .ref (γ 9 21), .ref (γ 9 22), .int p614165, .int p614166, .int p614167, .int p614168, .int p614169, .ref q614157, .ref (γ 9 29), .int p614170, .ref (γ 9 31), .int p614171, .int p614172, .int p614173, .ref q614158]) := e614218
  have mk614221 : mKp (F614141 q614142) (F614217 q614142) := mKp_tr mk614213 (by rw [he614212, he614220]; exact ⟨rfl, rfl⟩)
  have n614222 : ∀ b, b ≠ q614142 → F614217 b = F614141 b := fun b hb => (n614219 b hb).trans (n614214 b hb)
  have kp614223 : F614217 (γ0 9 3) = F614141 (γ0 9 3) := (n614219 (γ0 9 3) (rn_ty (rSk_k hst k0_3 (by decide) (by decide)) htq614142 (by decide))).trans kp614215
  have kp614224 : F614217 (γ0 9 17) = F614141 (γ0 9 17) := (n614219 (γ0 9 17) (rn_ty (rSk_k hst k0_17 (by decide) (by decide)) htq614142 (by decide))).trans kp614216
  refine G_aload_n 0 dr_cX17_giveAll_15 rfl ?_
  refine G_bipush 100 dr_cX17_giveAll_16 (by decide +kernel) ?_
  refine Gp_put 14 hm614155 he614220 dr_cX17_giveAll_18 (gk_X17 D I) (Nat.le_of_ble_eq_true rfl) wr_7_88 rfl rfl rfl (Nat.le_of_ble_eq_true rfl) (fun F614225 e614226 n614227 => ?_)
  have he614228 : F614225 q614142 = .inr (22, [.ref (γ 9 0), .ref (γ 9 1), .ref (γ 9 2), .ref (γ 9 3), .ref (γ 9 4), .ref (γ 9 5), .ref (γ 9 6), .ref (γ 9 7), .ref (γ 9 8), .int p614159, .int p614160, .int 0, .int 0, .int 0, .int 100, .ref (γ 9 15), .ref (γ 9 16), .ref (γ 9 17), .ref (γ 9 18), .ref (γ 9 19), .ref (γ 9 20), .ref (γ 9 21), .ref (γ 9 22), .int p614165, .int p614166, .int p614167, .int p614168, .int p614169, .ref q614157, .ref (γ 9 29), .int p614170, .ref (γ 9 31), .int p614171, .int p614172, .int p614173, .ref q614158]) := e614226
  have mk614229 : mKp (F614141 q614142) (F614225 q614142) := mKp_tr mk614221 (by rw [he614220, he614228]; exact ⟨rfl, rfl⟩)
  have n614230 : ∀ b, b ≠ q614142 → F614225 b = F614141 b := fun b hb => (n614227 b hb).trans (n614222 b hb)
  have kp614231 : F614225 (γ0 9 3) = F614141 (γ0 9 3) := (n614227 (γ0 9 3) (rn_ty (rSk_k hst k0_3 (by decide) (by decide)) htq614142 (by decide))).trans kp614223
  have kp614232 : F614225 (γ0 9 17) = F614141 (γ0 9 17) := (n614227 (γ0 9 17) (rn_ty (rSk_k hst k0_17 (by decide) (by decide)) htq614142 (by decide))).trans kp614224
  refine G_aload_n 0 dr_cX17_giveAll_21 rfl ?_
  have hT614233 : RS D I P614140 F614225 γ el := RS_set hT n614230 htq614142 (by decide) ⟨q614157, q614158, p614159, p614160, 0, 0, 0, 100, p614165, p614166, p614167, p614168, p614169, p614170, p614171, p614172, p614173, he614228, ⟨(hB614200.1), (hB614200.2.1), (gB_w (gBl (show Int32.toInt 0 = 0 by decide)) (by decide) (by decide)), (gB_w (gBl (show Int32.toInt 100 = 100 by decide)) (by decide) (by decide)), (hB614200.2.2.2.2.1), (hB614200.2.2.2.2.2.1), (hB614200.2.2.2.2.2.2.1), (hB614200.2.2.2.2.2.2.2.1), (hB614200.2.2.2.2.2.2.2.2)⟩, ht614174, ht614175, ht614176, ht614177, ht614178, ht614179, ht614180, ht614181, ht614182, ht614183, ht614184, ht614185, ht614186, ht614187, ht614188, ht614189, ht614190, ht614191, ht614192, ht614193, ht614194, ht614195, ht614196, ht614197, hB614201⟩
  have hs614234 := rSk_put hst hT614233 n614230 htq614142 (by decide) (by decide)
  have ac614235 : (fI (F614225 q614142) 11).toInt = 0 := by rw [he614228]; show Int32.toInt 0 = 0; decide
  have ac614236 : (fI (F614225 q614142) 14).toInt = 100 := by rw [he614228]; show Int32.toInt 100 = 100; decide
  refine G_aload_n 1 dr_cX17_giveAll_22 rfl ?_
  have rg614237 := rM_ge hT614233 htq614143 hf1
  have rm614238 := rM_bd hB
  have bd614239 := rBd_c hT614233 htq614143 hf1 hB
  have rc614240 := rc_at hT614233 htq614143 hf1
  refine Gw_callV (As := [.ref q614143]) (gV_ok D I) (cg_357033_SpillForgeModel_zeros l hl0 D I γ el f B P614140 F614225 q614142 q614143 hT614233 htq614142 htq614143 hf1 hB hBk (by omega) (by omega)) dr_cX17_giveAll_23 ⟨wr_10_152, wr_1_14, wr_10_155, by decide, rfl, (Nat.le_of_ble_eq_true rfl), (Nat.le_of_ble_eq_true rfl)⟩ wr_10_154 wr_p_93 hm614155 he614228 rfl (rm_gc hph pk614149) (rm_gs hph pk614149) (Nat.le_of_ble_eq_true rfl) (fun r614244 w614245 dc614241 ds614242 hp614243 => ?_) (fun _ _ _ _ _ z => z.elim)
  obtain ⟨P614251, F614252, γ, el, rfl, rfl, hk614253, ⟨hr614254, hr614255⟩, hB614256, x614246, x614247, x614248, x614249, x614250⟩ := hp614243
  have hT614257 := hk614253.1
  have hs614258 := rSk_tr hs614234 hk614253 (by decide) (by decide) (by decide)
  have ht614259 : rKd γ q614142 10 := rSk_k hk614253 htq614142 (by decide) (by decide)
  have ht614260 : rKd γ q614143 9 := rSk_k hk614253 htq614143 (by decide) (by decide)
  have hf614261 : γ 1 q614143 = f := rSk_1 hk614253 htq614143 (by decide) hf1
  clear rg614237 rm614238 bd614239 rc614240
  have mk614262 : mKp (F614141 q614142) (F614252 q614142) := mKp_tr mk614229 (mKp_eq x614250)
  have hph614263 : rPh γ0 el0 f ≤ rPh γ el f := rm_ph hph hr614255
  have pk614264 : rPh γ el f ≤ 387 * B + 6000 := rm_pk (rM_ge hT614257 ht614260 hf614261).1 (rM_bd hB614256)
  change G _ _ _ _ _ _ _ _ _ _ _
  refine G_widen (cs' := ((rPh γ el f - rPh γ0 el0 f) / 18)) (sl' := (rPh γ el f - rPh γ0 el0 f)) (rm_wc hph hr614254) (rm_ws hph hr614255) ?_
  have r614265 : 0 < γ 6 (γ 1 q614143) := by rw [hf614261]; omega
  have ac614266 : (fI (F614252 q614142) 11).toInt = (fI (F614225 q614142) 11).toInt := by rw [x614250]
  have ac614267 : (fI (F614252 q614142) 14).toInt = (fI (F614225 q614142) 14).toInt := by rw [x614250]
  have hm614268 : q614142 ∈ P614251 := RS_m hT614257 ht614259 (by decide)
  refine rk10_e (show rk_10 γ (F614252 q614142) from RS_o hT614257 ht614259) (fun q614270 q614271 p614272 p614273 p614274 p614275 p614276 p614277 p614278 p614279 p614280 p614281 p614282 p614283 p614284 p614285 p614286 he614269 hB614313 ht614287 ht614288 ht614289 ht614290 ht614291 ht614292 ht614293 ht614294 ht614295 ht614296 ht614297 ht614298 ht614299 ht614300 ht614301 ht614302 ht614303 ht614304 ht614305 ht614306 ht614307 ht614308 ht614309 ht614310 hB614314 => ?_)
  have ac614315 : (fI (F614252 q614142) 11).toInt = p614274.toInt := by rw [he614269]; rfl
  have bp614274 : gB p614274 0 100 := (hB614313.2.2.1)
  have ac614316 : (fI (F614252 q614142) 14).toInt = p614277.toInt := by rw [he614269]; rfl
  have bp614277 : gB p614277 0 2000 := (hB614313.2.2.2.1)
  have ni614317 : rNI γ el F614252 q614143 (γ 6 f) (fI (F614252 q614142) 11).toInt := rNI_s (rNI_0 hT614257 ht614260 hf614261 (by omega)) (by omega)
  refine G_iconst 1 dr_cX17_giveAll_26 (by decide +kernel) ?_
  refine G_istore_n (L' := [(3, .int 1), (0, .ref q614142), (1, .ref q614143), (2, .int p614144)]) dr_cX17_giveAll_27 (Nat.le_of_ble_eq_true rfl) rfl ?_
  have hlp28_636344 : ∀ (n28_636344 : Nat) (P636333 : List Nat) (F636334 : Nat → va_E) (γ el : Nat → Nat → Nat) (g636332 : Int32), gB g636332 1 41 → RS D I P636333 F636334 γ el → rSk f [101] ([1, 3, 5, 6, 8, 9, 101] ++ npk) D I P614140 F614141 γ0 el0 P636333 F636334 γ el → rPh γ0 el0 f ≤ rPh γ el f → rBd γ el f B → γ 6 f = γ0 6 f → ((γ 7 f : Nat) : Int) = (fI (F636334 q614142) 11).toInt → ((γ 16 f : Nat) : Int) + 2001 ≤ (B : Int) + (fI (F636334 q614142) 14).toInt → 100 ≤ (fI (F636334 q614142) 14).toInt → rNI γ el F636334 q614143 (γ 6 f) (fI (F636334 q614142) 11).toInt → mKp (F614141 q614142) (F636334 q614142) → ((42 : Int) - g636332.toInt).toNat < n28_636344 → G (gV D I) l (gRm 10 224 (((387 * B + 6000) - rPh γ0 el0 f) / 18) ((387 * B + 6000) - rPh γ0 el0 f)) (gMA (gV D I) (pg_614148_SpillForgeModel_giveAll D I γ0 el0 f B P614140 F614141 q614142 q614143 p614144) gNA (((387 * B + 6000) - rPh γ0 el0 f) / 18) ((387 * B + 6000) - rPh γ0 el0 f)) ky_614148_SpillForgeModel_giveAll 28 [(3, .int g636332), (0, .ref q614142), (1, .ref q614143), (2, .int p614144)] [] (va_pl P636333 F636334) ((rPh γ el f - rPh γ0 el0 f) / 18) (rPh γ el f - rPh γ0 el0 f) := by
    intro n28_636344
    induction n28_636344 with
    | zero => intro P636333 F636334 γ el g636332 bg636332 hT636335 hs636336 hph636337 hB636338 x636339 x636340 x636341 x636342 x636343 x636344 hm28_636344; exact absurd hm28_636344 (Nat.not_lt_zero _)
    | succ n28_636344 ih28_636344 =>
      intro P636333 F636334 γ el g636332 bg636332 hT636335 hs636336 hph636337 hB636338 x636339 x636340 x636341 x636342 x636343 x636344 hm28_636344
      clear r614150 r614151 r614152 r614153 r614154 hr614254 hr614255 hph614263 pk614264 r614265
      have ht636346 : rKd γ q614142 10 := rSk_k hs636336 hzq614142 (by decide) (by decide)
      have ht636347 : rKd γ q614143 9 := rSk_k hs636336 hzq614143 (by decide) (by decide)
      have hf636348 : γ 1 q614143 = f := rSk_1 hs636336 hzq614143 (by decide) hf0
      have pk636349 : rPh γ el f ≤ 387 * B + 6000 := rm_pk (rM_ge hT636335 ht636347 hf636348).1 (rM_bd hB636338)
      have r636350 : 0 < γ 6 (γ 1 q614143) := by rw [hf636348]; omega
      have hm636351 : q614142 ∈ P636333 := RS_m hT636335 ht636346 (by decide)
      refine rk10_e (show rk_10 γ (F636334 q614142) from RS_o hT636335 ht636346) (fun q636353 q636354 p636355 p636356 p636357 p636358 p636359 p636360 p636361 p636362 p636363 p636364 p636365 p636366 p636367 p636368 p636369 he636352 hB636396 ht636370 ht636371 ht636372 ht636373 ht636374 ht636375 ht636376 ht636377 ht636378 ht636379 ht636380 ht636381 ht636382 ht636383 ht636384 ht636385 ht636386 ht636387 ht636388 ht636389 ht636390 ht636391 ht636392 ht636393 hB636397 => ?_)
      have ac636398 : (fI (F636334 q614142) 11).toInt = p636357.toInt := by rw [he636352]; rfl
      have bp636357 : gB p636357 0 100 := (hB636396.2.2.1)
      have ac636399 : (fI (F636334 q614142) 14).toInt = p636360.toInt := by rw [he636352]; rfl
      have bp636360 : gB p636360 0 2000 := (hB636396.2.2.2.1)
      refine G_iload_n 0 dr_cX17_giveAll_28 rfl ?_
      refine G_bipush 40 dr_cX17_giveAll_29 (by decide +kernel) ?_
      refine G_icmp_gt 207 dr_cX17_giveAll_31 (by decide +kernel) (fun hc636400 => ?_) (fun hc636400 => ?_)
      · have r636401 : 40 < g636332.toInt := gj_ltL hc636400 (show Int32.toInt 40 = 40 by decide)
        have bg636332' : gB g636332 41 41 := ⟨by omega, by omega⟩
        refine G_iconst (-1) dr_cX17_giveAll_207 (by decide +kernel) ?_
        exact G_iretA dr_cX17_giveAll_208 rfl (show ((rPh γ el f - rPh γ0 el0 f) / 18) ≤ (((387 * B + 6000) - rPh γ0 el0 f) / 18) by omega) (show (rPh γ el f - rPh γ0 el0 f) ≤ ((387 * B + 6000) - rPh γ0 el0 f) by omega) ⟨P636333, F636334, γ, el, (-1), rfl, rfl, hs636336, ⟨by omega, by omega⟩, hB636338, (gB_w (gBl (show Int32.toInt (-1) = (-1) by decide)) (by decide) (by decide)), (by have qa0 : Int32.toInt (-1) = (-1) := (by decide); omega), x636344⟩
      · have r636402 : g636332.toInt ≤ 40 := gj_nltL hc636400 (show Int32.toInt 40 = 40 by decide)
        have bg636332' : gB g636332 1 40 := ⟨by omega, by omega⟩
        refine G_aload_n 2 dr_cX17_giveAll_34 rfl ?_
        have hm636408 : q614143 ∈ P636333 := RS_m hT636335 ht636347 (by decide)
        obtain ⟨q636410, q636411, p636412, p636413, he636409, ht636429, ht636414, ht636415, ht636416, ht636417, r636418, r636419, r636420, r636421, r636422, r636423, r636424, r636425, r636426, r636427, r636428⟩ := show rk_9 γ el q614143 (F636334 q614143) from RS_o hT636335 ht636347
        have bp636412 : gB p636412 0 1000000 := ⟨by omega, by omega⟩
        have bp636413 : gB p636413 0 1000000 := ⟨by omega, by omega⟩
        have hf636430 : γ 1 q636410 = f := (show γ 1 q636410 = γ 1 q614143 from ht636415).trans hf636348
        have hf636431 : γ 1 q636411 = f := (show γ 1 q636411 = γ 1 q614143 from ht636417).trans hf636348
        have r636432 : γ 6 (γ 1 q614143) = γ 6 f := by rw [hf636348]
        have r636433 : γ 16 (γ 1 q614143) = γ 16 f := by rw [hf636348]
        have r636434 : p636413.toInt = γ 6 f ∧ p636413.toInt ≤ 40 := by omega
        clear r636424
        refine Gw_callV (As := []) (gV_ok D I) (ct_7646_Code_countRows l hl0 D I γ el P636333 F636334 q614143 hT636335 ht636347 (by omega)) dr_cX17_giveAll_35 ⟨wr_10_229, wr_1_15, wr_10_232, by decide, rfl, (Nat.le_of_ble_eq_true rfl), (Nat.le_of_ble_eq_true rfl)⟩ wr_10_230 wr_10_231 hm636408 he636409 rfl (rm_zc pk636349) (rm_zs pk636349) (Nat.le_of_ble_eq_true rfl) (fun r636406 w636407 dc636403 ds636404 hp636405 => ?_) (fun _ _ _ _ _ z => z.elim)
        obtain ⟨o636435, rfl, rfl, hdc, hds⟩ := hp636405
        have bo636435 := gB_any o636435
        change G _ _ _ _ _ _ _ (.int o636435 :: _) _ _ _
        refine G_widen (cs' := ((rPh γ el f - rPh γ0 el0 f) / 18)) (sl' := (rPh γ el f - rPh γ0 el0 f)) (rm_d0 hdc) (rm_d0 hds) ?_
        refine G_sipush 4000 dr_cX17_giveAll_38 (by decide +kernel) ?_
        refine G_icmp_le 46 dr_cX17_giveAll_41 (by decide +kernel) (fun hc636436 => ?_) (fun hc636436 => ?_)
        · have r636437 : o636435.toInt ≤ 4000 := gj_le hc636436 (show Int32.toInt 4000 = 4000 by decide)
          have bo636435' : gB o636435 (-2147483648) 4000 := ⟨by omega, by omega⟩
          refine G_aload_n 1 dr_cX17_giveAll_46 rfl ?_
          refine G_aload_n 2 dr_cX17_giveAll_47 rfl ?_
          refine G_iconst 0 dr_cX17_giveAll_48 (by decide +kernel) ?_
          refine Gw_callV (As := [.ref q614143, .int 0]) (gV_ok D I) (ct_270222_SpillForgeModel_graph l hl0 D I γ el P636333 F636334 q614142 q614143 0 hT636335 ht636346 ht636347 (gB_w (gBl (show Int32.toInt 0 = 0 by decide)) (by decide) (by decide)) (by omega)) dr_cX17_giveAll_49 ⟨wr_10_233, wr_1_14, wr_10_236, by decide, rfl, (Nat.le_of_ble_eq_true rfl), (Nat.le_of_ble_eq_true rfl)⟩ wr_10_235 wr_p_99 hm636351 he636352 rfl (rm_zc pk636349) (rm_zs pk636349) (Nat.le_of_ble_eq_true rfl) (fun r636441 w636442 dc636438 ds636439 hp636440 => ?_) (fun _ _ _ _ _ z => z.elim)
          obtain ⟨F636445, rfl, rfl, hT636446, hs636447, hdc, hds, x636443, x636444⟩ := hp636440
          have he636448 : F636445 q614143 = .inr (18, [.ref q636410, .ref q636411, .int p636412, .int p636413]) := (hs636447 q614143 (rT0 ht636347 (by decide)) (rT1 ht636347 (by decide)) (rT2 ht636347 (by decide))).trans he636409
          have hs636449 := rSk_str hs636336 hT636446 hs636447 (by decide) (by decide) (by decide)
          have kp636450 : F636445 q614142 = F636334 q614142 := x636444
          have mk636451 : mKp (F614141 q614142) (F636445 q614142) := mKp_tr x636344 (mKp_eq x636444)
          have he636452 : F636445 q614142 = .inr (22, [.ref (γ 9 0), .ref (γ 9 1), .ref (γ 9 2), .ref (γ 9 3), .ref (γ 9 4), .ref (γ 9 5), .ref (γ 9 6), .ref (γ 9 7), .ref (γ 9 8), .int p636355, .int p636356, .int p636357, .int p636358, .int p636359, .int p636360, .ref (γ 9 15), .ref (γ 9 16), .ref (γ 9 17), .ref (γ 9 18), .ref (γ 9 19), .ref (γ 9 20), .ref (γ 9 21), .ref (γ 9 22), .int p636361, .int p636362, .int p636363, .int p636364, .int p636365, .ref q636353, .ref (γ 9 29), .int p636366, .ref (γ 9 31), .int p636367, .int p636368, .int p636369, .ref q636354]) := (x636444).trans he636352
          rw [show Int32.toInt 0 = 0 from by decide] at x636443
          change G _ _ _ _ _ _ _ _ _ _ _
          refine G_widen (cs' := ((rPh γ el f - rPh γ0 el0 f) / 18)) (sl' := (rPh γ el f - rPh γ0 el0 f)) (rm_d0 hdc) (rm_d0 hds) ?_
          have ni636453 : rNI γ el F636445 q614143 (γ 6 f) (fI (F636445 q614142) 11).toInt := rNI_s (rNI_str hT636335 ht636347 hf636348 hs636447 (by decide) x636343) (by rw [x636444])
          have gr636454 : rGr γ el F636445 q614143 (γ 6 f) (cB (F636445 (γ0 9 3))) (vA (γ 6 f)) := by have z := x636443 (by decide); rw [hf636348] at z; rw [← congrFun (rSk_9 hs636449) 3]; exact gq_str hT636335 ht636347 hf636348 hs636447 (by decide) z
          have ac636455 : (fI (F636445 q614142) 11).toInt = (fI (F636334 q614142) 11).toInt := by rw [kp636450]
          have ac636456 : (fI (F636445 q614142) 14).toInt = (fI (F636334 q614142) 14).toInt := by rw [kp636450]
          have hlp52_637941 : ∀ (n52_637941 : Nat) (P637929 : List Nat) (F637930 : Nat → va_E) (γ el : Nat → Nat → Nat) , RS D I P637929 F637930 γ el → rSk f [101] ([1, 3, 5, 6, 8, 9, 101] ++ npk) D I P614140 F614141 γ0 el0 P637929 F637930 γ el → rPh γ0 el0 f ≤ rPh γ el f → rBd γ el f B → γ 6 f = γ0 6 f → ((γ 7 f : Nat) : Int) = (fI (F637930 q614142) 11).toInt → ((γ 16 f : Nat) : Int) + 2001 ≤ (B : Int) + (fI (F637930 q614142) 14).toInt → 100 ≤ (fI (F637930 q614142) 14).toInt → rNI γ el F637930 q614143 (γ 6 f) (fI (F637930 q614142) 11).toInt → rGr γ el F637930 q614143 (γ 6 f) (cB (F637930 (γ0 9 3))) (vA (γ 6 f)) → mKp (F614141 q614142) (F637930 q614142) → rsum (fun i => γ 2 (γ 14 (el (γ 14 q614143) i))) (γ 6 f) < n52_637941 → G (gV D I) l (gRm 10 224 (((387 * B + 6000) - rPh γ0 el0 f) / 18) ((387 * B + 6000) - rPh γ0 el0 f)) (gMA (gV D I) (pg_614148_SpillForgeModel_giveAll D I γ0 el0 f B P614140 F614141 q614142 q614143 p614144) gNA (((387 * B + 6000) - rPh γ0 el0 f) / 18) ((387 * B + 6000) - rPh γ0 el0 f)) ky_614148_SpillForgeModel_giveAll 52 [(3, .int g636332), (0, .ref q614142), (1, .ref q614143), (2, .int p614144)] [] (va_pl P637929 F637930) ((rPh γ el f - rPh γ0 el0 f) / 18) (rPh γ el f - rPh γ0 el0 f) := by
            intro n52_637941
            induction n52_637941 with
            | zero => intro P637929 F637930 γ el hT637931 hs637932 hph637933 hB637934 x637935 x637936 x637937 x637938 x637939 x637940 x637941 hm52_637941; exact absurd hm52_637941 (Nat.not_lt_zero _)
            | succ n52_637941 ih52_637941 =>
              intro P637929 F637930 γ el hT637931 hs637932 hph637933 hB637934 x637935 x637936 x637937 x637938 x637939 x637940 x637941 hm52_637941
              clear r636418 r636419 r636420 r636421 r636422 r636423 r636425 r636426 r636427 r636428 bp636412 bp636413 r636432 r636433 r636434
              have ht637943 : rKd γ q614142 10 := rSk_k hs637932 hzq614142 (by decide) (by decide)
              have ht637944 : rKd γ q614143 9 := rSk_k hs637932 hzq614143 (by decide) (by decide)
              have hf637945 : γ 1 q614143 = f := rSk_1 hs637932 hzq614143 (by decide) hf0
              have pk637946 : rPh γ el f ≤ 387 * B + 6000 := rm_pk (rM_ge hT637931 ht637944 hf637945).1 (rM_bd hB637934)
              have r637947 : 0 < γ 6 (γ 1 q614143) := by rw [hf637945]; omega
              have hm637948 : q614142 ∈ P637929 := RS_m hT637931 ht637943 (by decide)
              refine rk10_e (show rk_10 γ (F637930 q614142) from RS_o hT637931 ht637943) (fun q637950 q637951 p637952 p637953 p637954 p637955 p637956 p637957 p637958 p637959 p637960 p637961 p637962 p637963 p637964 p637965 p637966 he637949 hB637993 ht637967 ht637968 ht637969 ht637970 ht637971 ht637972 ht637973 ht637974 ht637975 ht637976 ht637977 ht637978 ht637979 ht637980 ht637981 ht637982 ht637983 ht637984 ht637985 ht637986 ht637987 ht637988 ht637989 ht637990 hB637994 => ?_)
              have ac637995 : (fI (F637930 q614142) 11).toInt = p637954.toInt := by rw [he637949]; rfl
              have bp637954 : gB p637954 0 100 := (hB637993.2.2.1)
              have ac637996 : (fI (F637930 q614142) 14).toInt = p637957.toInt := by rw [he637949]; rfl
              have bp637957 : gB p637957 0 2000 := (hB637993.2.2.2.1)
              refine G_aload_n 1 dr_cX17_giveAll_52 rfl ?_
              refine G_aload_n 2 dr_cX17_giveAll_53 rfl ?_
              refine G_iload_n 3 dr_cX17_giveAll_54 rfl ?_
              have rg637997 := rM_ge hT637931 ht637944 hf637945
              have rm637998 := rM_bd hB637934
              have bd637999 := rBd_c hT637931 ht637944 hf637945 hB637934
              have rc638000 := rc_at hT637931 ht637944 hf637945
              refine Gw_callV (As := [.ref q614143, .int p614144]) (gV_ok D I) (cg_387621_SpillForgeModel_merge l hl0 D I γ el f B P637929 F637930 q614142 q614143 p614144 hT637931 ht637943 ht637944 hf637945 hB637934 hBk (by omega)) dr_cX17_giveAll_55 ⟨wr_11_8, wr_1_14, wr_11_11, by decide, rfl, (Nat.le_of_ble_eq_true rfl), (Nat.le_of_ble_eq_true rfl)⟩ wr_11_10 wr_p_101 hm637948 he637949 rfl (rm_gc hph637933 pk637946) (rm_gs hph637933 pk637946) (Nat.le_of_ble_eq_true rfl) (fun r638004 w638005 dc638001 ds638002 hp638003 => ?_) (fun _ _ _ _ _ z => z.elim)
              obtain ⟨P638017, F638018, γ, el, o638006, rfl, rfl, hk638019, ⟨hr638020, hr638021⟩, hB638022, bo638006, x638007, x638008, x638009, x638010, x638011, x638012, x638013, x638014, x638015, x638016⟩ := hp638003
              have hT638023 := hk638019.1
              have hs638024 := rSk_tr hs637932 hk638019 (by decide) (by decide) (by decide)
              have ht638025 : rKd γ q614142 10 := rSk_k hk638019 ht637943 (by decide) (by decide)
              have ht638026 : rKd γ q614143 9 := rSk_k hk638019 ht637944 (by decide) (by decide)
              have hf638027 : γ 1 q614143 = f := rSk_1 hk638019 ht637944 (by decide) hf637945
              clear rg637997 rm637998 bd637999 rc638000
              have mk638028 : mKp (F614141 q614142) (F638018 q614142) := mKp_tr x637941 x638016
              have hph638029 : rPh γ0 el0 f ≤ rPh γ el f := rm_ph hph637933 hr638021
              have pk638030 : rPh γ el f ≤ 387 * B + 6000 := rm_pk (rM_ge hT638023 ht638026 hf638027).1 (rM_bd hB638022)
              change G _ _ _ _ _ _ _ (.int o638006 :: _) _ _ _
              refine G_widen (cs' := ((rPh γ el f - rPh γ0 el0 f) / 18)) (sl' := (rPh γ el f - rPh γ0 el0 f)) (rm_wc hph637933 hr638020) (rm_ws hph637933 hr638021) ?_
              have r638031 : 0 < γ 6 (γ 1 q614143) := by rw [hf638027]; omega
              have hm638032 : q614142 ∈ P638017 := RS_m hT638023 ht638025 (by decide)
              refine rk10_e (show rk_10 γ (F638018 q614142) from RS_o hT638023 ht638025) (fun q638034 q638035 p638036 p638037 p638038 p638039 p638040 p638041 p638042 p638043 p638044 p638045 p638046 p638047 p638048 p638049 p638050 he638033 hB638077 ht638051 ht638052 ht638053 ht638054 ht638055 ht638056 ht638057 ht638058 ht638059 ht638060 ht638061 ht638062 ht638063 ht638064 ht638065 ht638066 ht638067 ht638068 ht638069 ht638070 ht638071 ht638072 ht638073 ht638074 hB638078 => ?_)
              have ac638079 : (fI (F638018 q614142) 11).toInt = p638038.toInt := by rw [he638033]; rfl
              have bp638038 : gB p638038 0 100 := (hB638077.2.2.1)
              have ac638080 : (fI (F638018 q614142) 14).toInt = p638041.toInt := by rw [he638033]; rfl
              have bp638041 : gB p638041 0 2000 := (hB638077.2.2.2.1)
              have ni638081 : rNI γ el F638018 q614143 (γ 6 f) (fI (F638018 q614142) 11).toInt := rNI_s (rNI_mg x638012 x637939) x638013
              refine G_if_eq 70 dr_cX17_giveAll_58 (by decide +kernel) (fun hc638082 => ?_) (fun hc638082 => ?_)
              · have r638083 : o638006.toInt = 0 := gj_eq hc638082 (show Int32.toInt 0 = 0 by decide)
                have bo638006' : gB o638006 0 0 := gB_t0 r638083
                have r638084 := x638015 (by omega)
                have gr638085 : rGr γ el F638018 q614143 (γ 6 f) (cB (F638018 (γ0 9 3))) (vA (γ 6 f)) := by rw [r638084.1, r638084.2.1, r638084.2.2]; exact x637940
                refine G_aload_n 1 dr_cX17_giveAll_70 rfl ?_
                refine G_aload_n 2 dr_cX17_giveAll_71 rfl ?_
                refine Gw_callV (As := [.ref q614143]) (gV_ok D I) (ct_398626_SpillForgeModel_weigh l hl0 D I γ el P638017 F638018 q614142 q614143 hT638023 ht638025 ht638026 (by omega)) dr_cX17_giveAll_72 ⟨wr_11_33, wr_1_14, wr_11_36, by decide, rfl, (Nat.le_of_ble_eq_true rfl), (Nat.le_of_ble_eq_true rfl)⟩ wr_11_35 wr_p_104 hm638032 he638033 rfl (rm_zc pk638030) (rm_zs pk638030) (Nat.le_of_ble_eq_true rfl) (fun r638089 w638090 dc638086 ds638087 hp638088 => ?_) (fun _ _ _ _ _ z => z.elim)
                obtain ⟨F638093, rfl, rfl, hT638094, hs638095, hdc, hds, x638091, x638092⟩ := hp638088
                have hs638096 := rSk_str hs638024 hT638094 hs638095 (by decide) (by decide) (by decide)
                have kp638097 : F638093 q614142 = F638018 q614142 := x638091
                have kp638098 : F638093 (γ0 9 3) = F638018 (γ0 9 3) := (show F638093 (γ0 9 3) = F638018 (γ0 9 3) by rw [← congrFun (rSk_9 hs638096) 3]; exact x638092)
                have mk638099 : mKp (F614141 q614142) (F638093 q614142) := mKp_tr mk638028 (mKp_eq x638091)
                have he638100 : F638093 q614142 = .inr (22, [.ref (γ 9 0), .ref (γ 9 1), .ref (γ 9 2), .ref (γ 9 3), .ref (γ 9 4), .ref (γ 9 5), .ref (γ 9 6), .ref (γ 9 7), .ref (γ 9 8), .int p638036, .int p638037, .int p638038, .int p638039, .int p638040, .int p638041, .ref (γ 9 15), .ref (γ 9 16), .ref (γ 9 17), .ref (γ 9 18), .ref (γ 9 19), .ref (γ 9 20), .ref (γ 9 21), .ref (γ 9 22), .int p638042, .int p638043, .int p638044, .int p638045, .int p638046, .ref q638034, .ref (γ 9 29), .int p638047, .ref (γ 9 31), .int p638048, .int p638049, .int p638050, .ref q638035]) := (x638091).trans he638033
                change G _ _ _ _ _ _ _ _ _ _ _
                refine G_widen (cs' := ((rPh γ el f - rPh γ0 el0 f) / 18)) (sl' := (rPh γ el f - rPh γ0 el0 f)) (rm_d0 hdc) (rm_d0 hds) ?_
                have ni638101 : rNI γ el F638093 q614143 (γ 6 f) (fI (F638093 q614142) 11).toInt := rNI_s (rNI_str hT638023 ht638026 hf638027 hs638095 (by decide) ni638081) (by rw [x638091])
                have gr638102 : rGr γ el F638093 q614143 (γ 6 f) (cB (F638093 (γ0 9 3))) (vA (γ 6 f)) := by rw [← congrFun (rSk_9 hs638096) 3, x638092, congrFun (rSk_9 hs638096) 3]; exact gq_str hT638023 ht638026 hf638027 hs638095 (by decide) gr638085
                have ac638103 : (fI (F638093 q614142) 11).toInt = (fI (F638018 q614142) 11).toInt := by rw [kp638097]
                have ac638104 : (fI (F638093 q614142) 14).toInt = (fI (F638018 q614142) 14).toInt := by rw [kp638097]
                refine G_aload_n 1 dr_cX17_giveAll_75 rfl ?_
                refine G_iload_n 3 dr_cX17_giveAll_76 rfl ?_
                refine Gw_callV (As := [.int p614144]) (gV_ok D I) (ct_327419_SpillForgeModel_colours l hl0 D I γ el P638017 F638093 q614142 p614144 hT638094 ht638025 bp614144) dr_cX17_giveAll_77 ⟨wr_11_47, wr_1_14, wr_11_50, by decide, rfl, (Nat.le_of_ble_eq_true rfl), (Nat.le_of_ble_eq_true rfl)⟩ wr_11_49 wr_p_106 hm638032 he638100 rfl (rm_zc pk638030) (rm_zs pk638030) (Nat.le_of_ble_eq_true rfl) (fun r638108 w638109 dc638105 ds638106 hp638107 => ?_) (fun _ _ _ _ _ z => z.elim)
                obtain ⟨F638114, o638110, rfl, rfl, hT638115, hs638116, hdc, hds, bo638110, x638111, x638112, x638113⟩ := hp638107
                have hs638117 := rSk_str hs638096 hT638115 hs638116 (by decide) (by decide) (by decide)
                have kp638118 : F638114 q614142 = F638018 q614142 := (x638112).trans kp638097
                have kp638119 : F638114 (γ0 9 3) = F638018 (γ0 9 3) := ((show F638114 (γ0 9 3) = F638093 (γ0 9 3) by rw [← congrFun (rSk_9 hs638117) 3]; exact x638113)).trans kp638098
                have mk638120 : mKp (F614141 q614142) (F638114 q614142) := mKp_tr mk638099 (mKp_eq x638112)
                have he638121 : F638114 q614142 = .inr (22, [.ref (γ 9 0), .ref (γ 9 1), .ref (γ 9 2), .ref (γ 9 3), .ref (γ 9 4), .ref (γ 9 5), .ref (γ 9 6), .ref (γ 9 7), .ref (γ 9 8), .int p638036, .int p638037, .int p638038, .int p638039, .int p638040, .int p638041, .ref (γ 9 15), .ref (γ 9 16), .ref (γ 9 17), .ref (γ 9 18), .ref (γ 9 19), .ref (γ 9 20), .ref (γ 9 21), .ref (γ 9 22), .int p638042, .int p638043, .int p638044, .int p638045, .int p638046, .ref q638034, .ref (γ 9 29), .int p638047, .ref (γ 9 31), .int p638048, .int p638049, .int p638050, .ref q638035]) := (x638112).trans he638100
                change G _ _ _ _ _ _ _ (.int o638110 :: _) _ _ _
                refine G_widen (cs' := ((rPh γ el f - rPh γ0 el0 f) / 18)) (sl' := (rPh γ el f - rPh γ0 el0 f)) (rm_d0 hdc) (rm_d0 hds) ?_
                have ni638122 : rNI γ el F638114 q614143 (γ 6 f) (fI (F638114 q614142) 11).toInt := rNI_s (rNI_str hT638094 ht638026 hf638027 hs638116 (by decide) ni638101) (by rw [x638112])
                have gr638123 : rGr γ el F638114 q614143 (γ 6 f) (cB (F638114 (γ0 9 3))) (vA (γ 6 f)) := by rw [← congrFun (rSk_9 hs638117) 3, x638113, congrFun (rSk_9 hs638117) 3]; exact gq_str hT638094 ht638026 hf638027 hs638116 (by decide) gr638102
                have ac638124 : (fI (F638114 q614142) 11).toInt = (fI (F638018 q614142) 11).toInt := by rw [kp638118]
                have ac638125 : (fI (F638114 q614142) 14).toInt = (fI (F638018 q614142) 14).toInt := by rw [kp638118]
                refine G_istore (L' := [(4, .int o638110), (3, .int g636332), (0, .ref q614142), (1, .ref q614143), (2, .int p614144)]) dr_cX17_giveAll_80 (Nat.le_of_ble_eq_true rfl) rfl ?_
                refine G_iload 0 dr_cX17_giveAll_82 rfl ?_
                refine G_if_ne 180 dr_cX17_giveAll_84 (by decide +kernel) (fun hc638126 => ?_) (fun hc638126 => ?_)
                · have r638127 : o638110.toInt ≠ 0 := gj_neq hc638126 (show Int32.toInt 0 = 0 by decide)
                  have bo638110' : gB o638110 1 2000 := ⟨by omega, by omega⟩
                  have ac638128 : (fI (F638114 q614142) 11).toInt = p638038.toInt := by rw [he638121]; rfl
                  have ac638129 : (fI (F638114 q614142) 14).toInt = p638041.toInt := by rw [he638121]; rfl
                  refine G_aload_n 2 dr_cX17_giveAll_180 rfl ?_
                  refine G_dup dr_cX17_giveAll_181 rfl ?_
                  refine Gp_get 12 hm638032 he638121 dr_cX17_giveAll_182 (gk_X17 D I) (Nat.le_of_ble_eq_true rfl) wr_7_86 rfl ?_
                  have bp638039 : gB p638039 (-2147483648) 2147483647 := (gB_any p638039)
                  refine G_iload 0 dr_cX17_giveAll_185 rfl ?_
                  refine G_iadd dr_cX17_giveAll_187 (G_nam fun z638130 hz638130 => ?_)
                  have bz638130 : gB z638130 (-2147483648) 2147483647 := gB_any z638130
                  refine Gp_put 12 hm638032 he638121 dr_cX17_giveAll_188 (gk_X17 D I) (Nat.le_of_ble_eq_true rfl) wr_7_86 rfl rfl rfl (Nat.le_of_ble_eq_true rfl) (fun F638131 e638132 n638133 => ?_)
                  have he638134 : F638131 q614142 = .inr (22, [.ref (γ 9 0), .ref (γ 9 1), .ref (γ 9 2), .ref (γ 9 3), .ref (γ 9 4), .ref (γ 9 5), .ref (γ 9 6), .ref (γ 9 7), .ref (γ 9 8), .int p638036, .int p638037, .int p638038, .int z638130, .int p638040, .int p638041, .ref (γ 9 15), .ref (γ 9 16), .ref (γ 9 17), .ref (γ 9 18), .ref (γ 9 19), .ref (γ 9 20), .ref (γ 9 21), .ref (γ 9 22), .int p638042, .int p638043, .int p638044, .int p638045, .int p638046, .ref q638034, .ref (γ 9 29), .int p638047, .ref (γ 9 31), .int p638048, .int p638049, .int p638050, .ref q638035]) := e638132
                  have mk638135 : mKp (F614141 q614142) (F638131 q614142) := mKp_tr mk638120 (by rw [he638121, he638134]; exact ⟨rfl, rfl⟩)
                  have kp638136 : F638131 (γ0 9 3) = F638018 (γ0 9 3) := (n638133 (γ0 9 3) (rn_ty (rSk_k hs638117 k0_3 (by decide) (by decide)) ht638025 (by decide))).trans kp638119
                  have kp638137 : F638131 (γ0 9 17) = F638114 (γ0 9 17) := n638133 (γ0 9 17) (rn_ty (rSk_k hs638117 k0_17 (by decide) (by decide)) ht638025 (by decide))
                  have hT638138 : RS D I P638017 F638131 γ el := RS_set hT638115 n638133 ht638025 (by decide) ⟨q638034, q638035, p638036, p638037, p638038, z638130, p638040, p638041, p638042, p638043, p638044, p638045, p638046, p638047, p638048, p638049, p638050, he638134, ⟨(hB638077.1), (hB638077.2.1), bp638038, bp638041, (hB638077.2.2.2.2.1), (hB638077.2.2.2.2.2.1), (hB638077.2.2.2.2.2.2.1), (hB638077.2.2.2.2.2.2.2.1), (hB638077.2.2.2.2.2.2.2.2)⟩, ht638051, ht638052, ht638053, ht638054, ht638055, ht638056, ht638057, ht638058, ht638059, ht638060, ht638061, ht638062, ht638063, ht638064, ht638065, ht638066, ht638067, ht638068, ht638069, ht638070, ht638071, ht638072, ht638073, ht638074, hB638078⟩
                  have hs638139 := rSk_put hs638117 hT638138 n638133 ht638025 (by decide) (by decide)
                  have ac638140 : (fI (F638131 q614142) 11).toInt = p638038.toInt := by rw [he638134]; rfl
                  have ac638141 : (fI (F638131 q614142) 14).toInt = p638041.toInt := by rw [he638134]; rfl
                  have gr638143 := rNI_gr ni638122 gr638123
                  have p3638144 : (fI (F638131 q614142) 11).toInt + (rcn (cB (F638131 (γ0 9 3))) 100 : Nat) ≤ 100 := by rw [(n638133 (γ0 9 3) (rn_ty (rSk_k hs638139 k0_3 (by decide) (by decide)) ht638025 (by decide)))]; have z := gr638143.1; omega
                  have p4638145 : rPl γ el F638131 q614143 (γ 6 f) (fun _ _ => rNx (rSd (cB (F638131 (γ0 9 3))))) := by rw [(n638133 (γ0 9 3) (rn_ty (rSk_k hs638139 k0_3 (by decide) (by decide)) ht638025 (by decide)))]; exact rPl_fr hT638115 ht638026 hf638027 gr638143.2 (fun b hb _ => n638133 b (rn_ty (show rKd γ b 1 from hb) ht638025 (by decide)))
                  refine G_aload_n 2 dr_cX17_giveAll_191 rfl ?_
                  refine G_aload_n 3 dr_cX17_giveAll_192 rfl ?_
                  have rg638146 := rM_ge hT638138 ht638026 hf638027
                  have rm638147 := rM_bd hB638022
                  have bd638148 := rBd_c hT638138 ht638026 hf638027 hB638022
                  have rc638149 := rc_at hT638138 ht638026 hf638027
                  refine Gw_callV (As := [.ref q614143]) (gV_ok D I) (cg_572548_SpillForgeModel_spill l hl0 D I γ el f B P638017 F638131 q614142 q614143 hT638138 ht638025 ht638026 hf638027 hB638022 hBk (by omega) (by omega) (by omega) (by rw [congrFun (rSk_9 hs638139) 3]; exact p3638144) (by rw [congrFun (rSk_9 hs638139) 3]; exact p4638145) (by omega)) dr_cX17_giveAll_193 ⟨wr_11_63, wr_1_14, wr_11_66, by decide, rfl, (Nat.le_of_ble_eq_true rfl), (Nat.le_of_ble_eq_true rfl)⟩ wr_11_65 wr_p_110 hm638032 he638134 rfl (rm_gc hph638029 pk638030) (rm_gs hph638029 pk638030) (Nat.le_of_ble_eq_true rfl) (fun r638153 w638154 dc638150 ds638151 hp638152 => ?_) (fun _ _ _ _ _ z => z.elim)
                  obtain ⟨P638160, F638161, γ, el, o638155, rfl, rfl, hk638162, ⟨hr638163, hr638164⟩, hB638165, bo638155, x638156, x638157, x638158, x638159⟩ := hp638152
                  have hT638166 := hk638162.1
                  have hs638167 := rSk_tr hs638139 hk638162 (by decide) (by decide) (by decide)
                  have ht638168 : rKd γ q614142 10 := rSk_k hk638162 ht638025 (by decide) (by decide)
                  have ht638169 : rKd γ q614143 9 := rSk_k hk638162 ht638026 (by decide) (by decide)
                  have hf638170 : γ 1 q614143 = f := rSk_1 hk638162 ht638026 (by decide) hf638027
                  clear rg638146 rm638147 bd638148 rc638149
                  have mk638171 : mKp (F614141 q614142) (F638161 q614142) := mKp_tr mk638135 x638159
                  have hph638172 : rPh γ0 el0 f ≤ rPh γ el f := rm_ph hph638029 hr638164
                  have pk638173 : rPh γ el f ≤ 387 * B + 6000 := rm_pk (rM_ge hT638166 ht638169 hf638170).1 (rM_bd hB638165)
                  change G _ _ _ _ _ _ _ (.int o638155 :: _) _ _ _
                  refine G_widen (cs' := ((rPh γ el f - rPh γ0 el0 f) / 18)) (sl' := (rPh γ el f - rPh γ0 el0 f)) (rm_wc hph638029 hr638163) (rm_ws hph638029 hr638164) ?_
                  have r638174 : 0 < γ 6 (γ 1 q614143) := by rw [hf638170]; omega
                  have hm638175 : q614142 ∈ P638160 := RS_m hT638166 ht638168 (by decide)
                  refine rk10_e (show rk_10 γ (F638161 q614142) from RS_o hT638166 ht638168) (fun q638177 q638178 p638179 p638180 p638181 p638182 p638183 p638184 p638185 p638186 p638187 p638188 p638189 p638190 p638191 p638192 p638193 he638176 hB638220 ht638194 ht638195 ht638196 ht638197 ht638198 ht638199 ht638200 ht638201 ht638202 ht638203 ht638204 ht638205 ht638206 ht638207 ht638208 ht638209 ht638210 ht638211 ht638212 ht638213 ht638214 ht638215 ht638216 ht638217 hB638221 => ?_)
                  have ac638222 : (fI (F638161 q614142) 11).toInt = p638181.toInt := by rw [he638176]; rfl
                  have bp638181 : gB p638181 0 100 := (hB638220.2.2.1)
                  have ac638223 : (fI (F638161 q614142) 14).toInt = p638184.toInt := by rw [he638176]; rfl
                  have bp638184 : gB p638184 0 2000 := (hB638220.2.2.2.1)
                  refine G_if_ne 201 dr_cX17_giveAll_196 (by decide +kernel) (fun hc638224 => ?_) (fun hc638224 => ?_)
                  · have r638225 : o638155.toInt ≠ 0 := gj_neq hc638224 (show Int32.toInt 0 = 0 by decide)
                    have bo638155' : gB o638155 1 1 := gB_t1 bo638155 r638225
                    have ni638226 := x638157.resolve_left (by omega)
                    clear x638157
                    obtain ⟨rni638226a, rni638226b, rni638226c, rni638226d, rni638226e, rni638226f⟩ := ni638226
                    obtain ⟨z638227, hz638227⟩ : ∃ z : Int32, z = g636332 + Int32.ofInt 1 := ⟨_, rfl⟩
                    have ez638227 : z638227.toInt = g636332.toInt + 1 := gI_inc hz638227 (by decide) bg636332' (by decide) (by decide)
                    have bz638227 : gB z638227 2 41 := ⟨by omega, by omega⟩
                    refine G_iinc (L' := [(3, .int z638227), (4, .int o638110), (0, .ref q614142), (1, .ref q614143), (2, .int p614144)]) z638227 1 dr_cX17_giveAll_201 rfl hz638227.symm (Nat.le_of_ble_eq_true rfl) rfl ?_
                    refine G_goto 28 dr_cX17_giveAll_204 (by decide +kernel) ?_
                    refine G_lv (L' := [(3, .int z638227), (0, .ref q614142), (1, .ref q614143), (2, .int p614144)]) [0, 2, 3, 4] rfl ?_
                    have ac638228 : (fI (F638161 q614142) 11).toInt = p638181.toInt := by rw [he638176]; rfl
                    have ac638229 : (fI (F638161 q614142) 14).toInt = p638184.toInt := by rw [he638176]; rfl
                    exact ih28_636344 P638160 F638161 γ el z638227 (gB_w bz638227 (by decide) (by decide)) hT638166 hs638167 hph638172 hB638165 (by omega) (by omega) (by omega) (by omega) rni638226f mk638171 (by omega)
                  · have r638230 : o638155.toInt = 0 := gj_eq hc638224 (show Int32.toInt 0 = 0 by decide)
                    have bo638155' : gB o638155 0 0 := gB_t0 r638230
                    refine G_iconst (-1) dr_cX17_giveAll_199 (by decide +kernel) ?_
                    exact G_iretA dr_cX17_giveAll_200 rfl (show ((rPh γ el f - rPh γ0 el0 f) / 18) ≤ (((387 * B + 6000) - rPh γ0 el0 f) / 18) by omega) (show (rPh γ el f - rPh γ0 el0 f) ≤ ((387 * B + 6000) - rPh γ0 el0 f) by omega) ⟨P638160, F638161, γ, el, (-1), rfl, rfl, hs638167, ⟨by omega, by omega⟩, hB638165, (gB_w (gBl (show Int32.toInt (-1) = (-1) by decide)) (by decide) (by decide)), (by have qa0 : Int32.toInt (-1) = (-1) := (by decide); omega), mk638171⟩
                · have r638231 : o638110.toInt = 0 := gj_eq hc638126 (show Int32.toInt 0 = 0 by decide)
                  have bo638110' : gB o638110 0 0 := ⟨by omega, by omega⟩
                  have cq638232 : rPl γ el F638114 q614143 (γ 6 f) (cqR (cB (F638114 (γ0 9 17))) 0 0) := cq_0 gr638123 (fun m hm => by have z := x638111 (by omega); rw [congrFun (rSk_9 hs638117) 3, congrFun (rSk_9 hs638117) 17] at z; exact z m hm)
                  refine G_iconst 0 dr_cX17_giveAll_87 (by decide +kernel) ?_
                  refine G_istore (L' := [(5, .int 0), (4, .int o638110), (3, .int g636332), (0, .ref q614142), (1, .ref q614143), (2, .int p614144)]) dr_cX17_giveAll_88 (Nat.le_of_ble_eq_true rfl) rfl ?_
                  have hlp90_638831 : ∀ (n90_638831 : Nat) (P638819 : List Nat) (F638820 : Nat → va_E) (γ el : Nat → Nat → Nat) (g638818 : Int32), gB g638818 0 1000000 → RS D I P638819 F638820 γ el → rSk f [101] ([1, 3, 5, 6, 8, 9, 101] ++ npk) D I P614140 F614141 γ0 el0 P638819 F638820 γ el → rPh γ0 el0 f ≤ rPh γ el f → rBd γ el f B → γ 6 f = γ0 6 f → ((γ 7 f : Nat) : Int) = (fI (F638820 q614142) 11).toInt → ((γ 16 f : Nat) : Int) + 2001 ≤ (B : Int) + (fI (F638820 q614142) 14).toInt → 100 ≤ (fI (F638820 q614142) 14).toInt → (F638820 (γ0 9 17) = F638114 (γ0 9 17)) → rPl γ el F638820 q614143 (γ 6 f) (cqR (cB (F638114 (γ0 9 17))) (g638818.toInt : Int).toNat 0) → mKp (F614141 q614142) (F638820 q614142) → ((1000001 : Int) - g638818.toInt).toNat < n90_638831 → G (gV D I) l (gRm 10 224 (((387 * B + 6000) - rPh γ0 el0 f) / 18) ((387 * B + 6000) - rPh γ0 el0 f)) (gMA (gV D I) (pg_614148_SpillForgeModel_giveAll D I γ0 el0 f B P614140 F614141 q614142 q614143 p614144) gNA (((387 * B + 6000) - rPh γ0 el0 f) / 18) ((387 * B + 6000) - rPh γ0 el0 f)) ky_614148_SpillForgeModel_giveAll 90 [(5, .int g638818), (4, .int o638110), (3, .int g636332), (0, .ref q614142), (1, .ref q614143), (2, .int p614144)] [] (va_pl P638819 F638820) ((rPh γ el f - rPh γ0 el0 f) / 18) (rPh γ el f - rPh γ0 el0 f) := by
                    intro n90_638831
                    induction n90_638831 with
                    | zero => intro P638819 F638820 γ el g638818 bg638818 hT638821 hs638822 hph638823 hB638824 x638825 x638826 x638827 x638828 x638829 x638830 x638831 hm90_638831; exact absurd hm90_638831 (Nat.not_lt_zero _)
                    | succ n90_638831 ih90_638831 =>
                      intro P638819 F638820 γ el g638818 bg638818 hT638821 hs638822 hph638823 hB638824 x638825 x638826 x638827 x638828 x638829 x638830 x638831 hm90_638831
                      clear hr638020 hr638021 hph638029 pk638030 r638031 r638084
                      have ht638833 : rKd γ q614142 10 := rSk_k hs638822 hzq614142 (by decide) (by decide)
                      have ht638834 : rKd γ q614143 9 := rSk_k hs638822 hzq614143 (by decide) (by decide)
                      have hf638835 : γ 1 q614143 = f := rSk_1 hs638822 hzq614143 (by decide) hf0
                      have pk638836 : rPh γ el f ≤ 387 * B + 6000 := rm_pk (rM_ge hT638821 ht638834 hf638835).1 (rM_bd hB638824)
                      have r638837 : 0 < γ 6 (γ 1 q614143) := by rw [hf638835]; omega
                      have hm638838 : q614142 ∈ P638819 := RS_m hT638821 ht638833 (by decide)
                      refine rk10_e (show rk_10 γ (F638820 q614142) from RS_o hT638821 ht638833) (fun q638840 q638841 p638842 p638843 p638844 p638845 p638846 p638847 p638848 p638849 p638850 p638851 p638852 p638853 p638854 p638855 p638856 he638839 hB638883 ht638857 ht638858 ht638859 ht638860 ht638861 ht638862 ht638863 ht638864 ht638865 ht638866 ht638867 ht638868 ht638869 ht638870 ht638871 ht638872 ht638873 ht638874 ht638875 ht638876 ht638877 ht638878 ht638879 ht638880 hB638884 => ?_)
                      have ac638885 : (fI (F638820 q614142) 11).toInt = p638844.toInt := by rw [he638839]; rfl
                      have bp638844 : gB p638844 0 100 := (hB638883.2.2.1)
                      have ac638886 : (fI (F638820 q614142) 14).toInt = p638847.toInt := by rw [he638839]; rfl
                      have bp638847 : gB p638847 0 2000 := (hB638883.2.2.2.1)
                      refine G_iload 0 dr_cX17_giveAll_90 rfl ?_
                      refine G_aload_n 4 dr_cX17_giveAll_92 rfl ?_
                      have hm638887 : q614143 ∈ P638819 := RS_m hT638821 ht638834 (by decide)
                      obtain ⟨q638889, q638890, p638891, p638892, he638888, ht638908, ht638893, ht638894, ht638895, ht638896, r638897, r638898, r638899, r638900, r638901, r638902, r638903, r638904, r638905, r638906, r638907⟩ := show rk_9 γ el q614143 (F638820 q614143) from RS_o hT638821 ht638834
                      have bp638891 : gB p638891 0 1000000 := ⟨by omega, by omega⟩
                      have bp638892 : gB p638892 0 1000000 := ⟨by omega, by omega⟩
                      have hf638909 : γ 1 q638889 = f := (show γ 1 q638889 = γ 1 q614143 from ht638894).trans hf638835
                      have hf638910 : γ 1 q638890 = f := (show γ 1 q638890 = γ 1 q614143 from ht638896).trans hf638835
                      have r638911 : γ 6 (γ 1 q614143) = γ 6 f := by rw [hf638835]
                      have r638912 : γ 16 (γ 1 q614143) = γ 16 f := by rw [hf638835]
                      have r638913 : p638892.toInt = γ 6 f ∧ p638892.toInt ≤ 40 := by omega
                      clear r638903
                      refine Gw_callV (As := []) (gV_ok D I) (cp_12496_Code_size l hl0 D I P638819 F638820 q614143 q638889 q638890 p638891 p638892 hm638887 he638888) dr_cX17_giveAll_93 ⟨wr_10_160, wr_1_15, wr_9_131, by decide, rfl, (Nat.le_of_ble_eq_true rfl), (Nat.le_of_ble_eq_true rfl)⟩ wr_9_129 wr_9_130 hm638887 he638888 rfl (rm_zc pk638836) (rm_zs pk638836) (Nat.le_of_ble_eq_true rfl) (fun r638917 w638918 dc638914 ds638915 hp638916 => ?_) (fun _ _ _ _ _ z => z.elim)
                      obtain ⟨rfl, rfl, hdc, hds⟩ := hp638916
                      change G _ _ _ _ _ _ _ (.int p638892 :: _) _ _ _
                      refine G_widen (cs' := ((rPh γ el f - rPh γ0 el0 f) / 18)) (sl' := (rPh γ el f - rPh γ0 el0 f)) (rm_d0 hdc) (rm_d0 hds) ?_
                      refine G_icmp_ge 173 dr_cX17_giveAll_96 (by decide +kernel) (fun hc638919 => ?_) (fun hc638919 => ?_)
                      · have r638920 : p638892.toInt ≤ g638818.toInt := gC_le hc638919
                        have r638921 : γ 7 (γ 1 q614143) = γ 7 f := by rw [hf638835]
                        have ac638922 : (fI (F638820 q614142) 11).toInt = p638844.toInt := by rw [he638839]; rfl
                        have ac638923 : (fI (F638820 q614142) 14).toInt = p638847.toInt := by rw [he638839]; rfl
                        refine G_aload_n 3 dr_cX17_giveAll_173 rfl ?_
                        refine G_aload_n 4 dr_cX17_giveAll_174 rfl ?_
                        refine Gw_callV (As := [.ref q614143]) (gV_ok D I) (ct_336133_SpillForgeModel_share l hl0 D I γ el P638819 F638820 q614142 q614143 hT638821 ht638833 ht638834 (by omega) (by omega)) dr_cX17_giveAll_175 ⟨wr_11_59, wr_1_14, wr_11_62, by decide, rfl, (Nat.le_of_ble_eq_true rfl), (Nat.le_of_ble_eq_true rfl)⟩ wr_11_61 wr_p_109 hm638838 he638839 rfl (rm_zc pk638836) (rm_zs pk638836) (Nat.le_of_ble_eq_true rfl) (fun r638927 w638928 dc638924 ds638925 hp638926 => ?_) (fun _ _ _ _ _ z => z.elim)
                        obtain ⟨F638930, rfl, rfl, hT638931, hs638932, hdc, hds, x638929⟩ := hp638926
                        have he638933 : F638930 q614143 = .inr (18, [.ref q638889, .ref q638890, .int p638891, .int p638892]) := (hs638932 q614143 (rT0 ht638834 (by decide)) (rT1 ht638834 (by decide)) (rT2 ht638834 (by decide))).trans he638888
                        have hs638934 := rSk_str hs638822 hT638931 hs638932 (by decide) (by decide) (by decide)
                        have mk638935 : mKp (F614141 q614142) (F638930 q614142) := mKp_tr x638831 x638929
                        change G _ _ _ _ _ _ _ _ _ _ _
                        refine G_widen (cs' := ((rPh γ el f - rPh γ0 el0 f) / 18)) (sl' := (rPh γ el f - rPh γ0 el0 f)) (rm_d0 hdc) (rm_d0 hds) ?_
                        refine G_iload_n 2 dr_cX17_giveAll_178 rfl ?_
                        exact G_iretA dr_cX17_giveAll_179 rfl (show ((rPh γ el f - rPh γ0 el0 f) / 18) ≤ (((387 * B + 6000) - rPh γ0 el0 f) / 18) by omega) (show (rPh γ el f - rPh γ0 el0 f) ≤ ((387 * B + 6000) - rPh γ0 el0 f) by omega) ⟨P638819, F638930, γ, el, g636332, rfl, rfl, hs638934, ⟨by omega, by omega⟩, hB638824, (gB_w bg636332' (by decide) (by decide)), (by omega), mk638935⟩
                      · have r638936 : g638818.toInt < p638892.toInt := gC_nle hc638919
                        have bg638818' : gB g638818 0 999999 := ⟨by omega, by omega⟩
                        have bp638892' : gB p638892 1 1000000 := ⟨by omega, by omega⟩
                        refine G_aload_n 4 dr_cX17_giveAll_99 rfl ?_
                        refine G_iload 0 dr_cX17_giveAll_100 rfl ?_
                        have hm638937 : q638889 ∈ P638819 := RS_m hT638821 ht638893 (by decide)
                        obtain ⟨⟨p638939, p638940, q638941, he638938, r638942, r638943, r638944, r638946⟩, r638945⟩ := show rk_4 D I γ el F638820 q638889 from RS_o hT638821 ht638893
                        have bp638939 := gB_any p638939
                        have bp638940 : gB p638940 0 1000000 := ⟨by omega, by omega⟩
                        obtain ⟨r638947, r638948, n638955, f638956, r638949, r638950, r638951, r638952, r638953, r638954⟩ := rLC_n r638944 (by omega)
                        have hm638957 : q638941 ∈ P638819 := RS_m hT638821 r638947 (by decide)
                        obtain ⟨q638958, hx638959⟩ : ∃ x, x = el q638889 g638818.toInt.toNat := ⟨_, rfl⟩
                        have hx638960 : f638956 g638818.toNatClampNeg = some q638958 := (r638953 _ (show g638818.toInt.toNat < γ 2 q638889 by first | assumption | omega)).trans (by rw [hx638959])
                        have ht638963 : rKd γ q638958 2 := by rw [hx638959]; exact (r638904 _ (by omega)).resolve_right (fun z => absurd z.1 (by omega))
                        have ht638964 : rFm γ q638958 q638889 := by rw [hx638959]; exact (r638945 _ (show g638818.toInt.toNat < γ 2 q638889 by omega)).2.1
                        have hm638965 : q638958 ∈ P638819 := RS_m hT638821 ht638963 (by decide)
                        obtain ⟨q638967, q638968, p638969, p638970, he638966, ht638977, ht638971, ht638972, ht638973, ht638974, ht638975, bp638969, bp638970, r638976, r638978, r638979⟩ := show rk_2 γ q638958 (F638820 q638958) from RS_o hT638821 ht638963
                        refine Gw_callV (As := [.int g638818]) (gV_ok D I) (cp_7737_Code_get l hl0 D I P638819 F638820 q614143 q638889 q638941 g638818 q638890 p638891 p638892 p638939 p638940 f638956 n638955 q638958 q638967 q638968 p638969 p638970 hm638887 hm638937 hm638957 hm638965 he638888 he638938 r638949 he638966 (gB_w bg638818' (by decide) (by decide)) (gB_w bp638940 (by decide) (by decide)) (by omega) (by omega) (by assumption) (by omega)) dr_cX17_giveAll_102 ⟨wr_10_161, wr_1_15, wr_10_141, by decide, rfl, (Nat.le_of_ble_eq_true rfl), (Nat.le_of_ble_eq_true rfl)⟩ wr_10_139 wr_10_140 hm638887 he638888 rfl (rm_zc pk638836) (rm_zs pk638836) (Nat.le_of_ble_eq_true rfl) (fun r638983 w638984 dc638980 ds638981 hp638982 => ?_) (fun _ _ _ _ _ z => z.elim)
                        obtain ⟨rfl, rfl, hdc, hds⟩ := hp638982
                        change G _ _ _ _ _ _ _ (.ref q638958 :: _) _ _ _
                        refine G_widen (cs' := ((rPh γ el f - rPh γ0 el0 f) / 18)) (sl' := (rPh γ el f - rPh γ0 el0 f)) (rm_d0 hdc) (rm_d0 hds) ?_
                        have hf638985 : γ 1 q638958 = f := (show γ 1 q638958 = γ 1 q638889 from ht638964).trans ((show γ 1 q638889 = γ 1 q614143 from ht638894).trans hf638835)
                        have hf638986 : γ 1 q638967 = f := (show γ 1 q638967 = γ 1 q638958 from ht638972).trans hf638985
                        have hf638987 : γ 1 q638968 = f := (show γ 1 q638968 = γ 1 q638958 from ht638974).trans hf638985
                        have r638988 : γ 6 (γ 1 q638958) = γ 6 f := by rw [hf638985]
                        have r638989 : γ 7 (γ 1 q638958) = γ 7 f := by rw [hf638985]
                        have r638990 : γ 19 (γ 1 q638958) = γ 19 f := by rw [hf638985]
                        have r638991 := r638976.resolve_left (by omega)
                        clear r638976
                        have r638992 : γ 2 (γ 14 q638958) = γ 2 q638967 := by rw [ht638977.1]
                        have r638993 : g638818.toInt.toNat < γ 2 (γ 14 q614143) := by rw [ht638908.1]; omega
                        have r638994 : el (γ 14 q614143) g638818.toInt.toNat = q638958 := by rw [ht638908.1, hx638959]
                        refine G_astore (L' := [(6, .ref q638958), (5, .int g638818), (4, .int o638110), (3, .int g636332), (0, .ref q614142), (1, .ref q614143), (2, .int p614144)]) dr_cX17_giveAll_105 (Nat.le_of_ble_eq_true rfl) rfl ?_
                        refine G_iconst 0 dr_cX17_giveAll_107 (by decide +kernel) ?_
                        refine G_istore (L' := [(7, .int 0), (6, .ref q638958), (5, .int g638818), (4, .int o638110), (3, .int g636332), (0, .ref q614142), (1, .ref q614143), (2, .int p614144)]) dr_cX17_giveAll_108 (Nat.le_of_ble_eq_true rfl) rfl ?_
                        have hlp110_639217 : ∀ (n110_639217 : Nat) (P639199 : List Nat) (F639200 : Nat → va_E) (γ el : Nat → Nat → Nat) (g639198 : Int32), gB g639198 0 1000001 → RS D I P639199 F639200 γ el → rSk f [101] ([1, 3, 5, 6, 8, 9, 101] ++ npk) D I P614140 F614141 γ0 el0 P639199 F639200 γ el → rPh γ0 el0 f ≤ rPh γ el f → rBd γ el f B → rKd γ q638958 2 → γ 1 q638958 = f → g638818.toInt.toNat < γ 2 (γ 14 q614143) → el (γ 14 q614143) g638818.toInt.toNat = q638958 → γ 6 f = γ0 6 f → ((γ 7 f : Nat) : Int) = (fI (F639200 q614142) 11).toInt → ((γ 16 f : Nat) : Int) + 2001 ≤ (B : Int) + (fI (F639200 q614142) 14).toInt → 100 ≤ (fI (F639200 q614142) 14).toInt → (F639200 (γ0 9 17) = F638114 (γ0 9 17)) → rPl γ el F639200 q614143 (γ 6 f) (cqR (cB (F638114 (γ0 9 17))) (g638818.toInt : Int).toNat (g639198.toInt : Int).toNat) → (g639198.toInt : Int) ≤ γ 2 (γ 14 q638958) + 1 → (g638818.toInt : Int) < γ 6 f → mKp (F614141 q614142) (F639200 q614142) → ((1000002 : Int) - g639198.toInt).toNat < n110_639217 → G (gV D I) l (gRm 10 224 (((387 * B + 6000) - rPh γ0 el0 f) / 18) ((387 * B + 6000) - rPh γ0 el0 f)) (gMA (gV D I) (pg_614148_SpillForgeModel_giveAll D I γ0 el0 f B P614140 F614141 q614142 q614143 p614144) gNA (((387 * B + 6000) - rPh γ0 el0 f) / 18) ((387 * B + 6000) - rPh γ0 el0 f)) ky_614148_SpillForgeModel_giveAll 110 [(7, .int g639198), (6, .ref q638958), (5, .int g638818), (4, .int o638110), (3, .int g636332), (0, .ref q614142), (1, .ref q614143), (2, .int p614144)] [] (va_pl P639199 F639200) ((rPh γ el f - rPh γ0 el0 f) / 18) (rPh γ el f - rPh γ0 el0 f) := by
                          intro n110_639217
                          induction n110_639217 with
                          | zero => intro P639199 F639200 γ el g639198 bg639198 hT639201 hs639202 hph639203 hB639204 ht639205 hf639206 r639207 r639208 x639209 x639210 x639211 x639212 x639213 x639214 x639215 x639216 x639217 hm110_639217; exact absurd hm110_639217 (Nat.not_lt_zero _)
                          | succ n110_639217 ih110_639217 =>
                            intro P639199 F639200 γ el g639198 bg639198 hT639201 hs639202 hph639203 hB639204 ht639205 hf639206 r639207 r639208 x639209 x639210 x639211 x639212 x639213 x639214 x639215 x639216 x639217 hm110_639217
                            clear r638897 r638898 r638899 r638900 r638901 r638902 r638904 r638905 r638906 r638907 bp638891 bp638892 bp638969 bp638970 r638978 r638979 r638911 r638912 r638913 r638942 r638943 r638944 r638946 r638945 r638947 r638948 r638949 r638950 r638951 r638952 r638953 r638954 r638988 r638989 r638990 r638991 r638992 r638993 r638994
                            have ht639219 : rKd γ q614142 10 := rSk_k hs639202 hzq614142 (by decide) (by decide)
                            have ht639220 : rKd γ q614143 9 := rSk_k hs639202 hzq614143 (by decide) (by decide)
                            have hf639221 : γ 1 q614143 = f := rSk_1 hs639202 hzq614143 (by decide) hf0
                            have pk639222 : rPh γ el f ≤ 387 * B + 6000 := rm_pk (rM_ge hT639201 ht639220 hf639221).1 (rM_bd hB639204)
                            have r639223 : 0 < γ 6 (γ 1 q614143) := by rw [hf639221]; omega
                            have hm639224 : q614142 ∈ P639199 := RS_m hT639201 ht639219 (by decide)
                            refine rk10_e (show rk_10 γ (F639200 q614142) from RS_o hT639201 ht639219) (fun q639226 q639227 p639228 p639229 p639230 p639231 p639232 p639233 p639234 p639235 p639236 p639237 p639238 p639239 p639240 p639241 p639242 he639225 hB639269 ht639243 ht639244 ht639245 ht639246 ht639247 ht639248 ht639249 ht639250 ht639251 ht639252 ht639253 ht639254 ht639255 ht639256 ht639257 ht639258 ht639259 ht639260 ht639261 ht639262 ht639263 ht639264 ht639265 ht639266 hB639270 => ?_)
                            have ac639271 : (fI (F639200 q614142) 11).toInt = p639230.toInt := by rw [he639225]; rfl
                            have bp639230 : gB p639230 0 100 := (hB639269.2.2.1)
                            have ac639272 : (fI (F639200 q614142) 14).toInt = p639233.toInt := by rw [he639225]; rfl
                            have bp639233 : gB p639233 0 2000 := (hB639269.2.2.2.1)
                            refine G_iload 0 dr_cX17_giveAll_110 rfl ?_
                            refine G_aload 1 dr_cX17_giveAll_112 rfl ?_
                            have hm639273 : q638958 ∈ P639199 := RS_m hT639201 ht639205 (by decide)
                            obtain ⟨q639275, q639276, p639277, p639278, he639274, ht639285, ht639279, ht639280, ht639281, ht639282, ht639283, bp639277, bp639278, r639284, r639286, r639287⟩ := show rk_2 γ q638958 (F639200 q638958) from RS_o hT639201 ht639205
                            have hf639288 : γ 1 q639275 = f := (show γ 1 q639275 = γ 1 q638958 from ht639280).trans hf639206
                            have hf639289 : γ 1 q639276 = f := (show γ 1 q639276 = γ 1 q638958 from ht639282).trans hf639206
                            have r639290 : γ 6 (γ 1 q638958) = γ 6 f := by rw [hf639206]
                            have r639291 : γ 7 (γ 1 q638958) = γ 7 f := by rw [hf639206]
                            have r639292 : γ 19 (γ 1 q638958) = γ 19 f := by rw [hf639206]
                            have r639293 := r639284.resolve_left (by omega)
                            clear r639284
                            have r639294 : γ 2 (γ 14 q638958) = γ 2 q639275 := by rw [ht639285.1]
                            refine Gp_get 0 hm639273 he639274 dr_cX17_giveAll_114 (gk_X12 D I) (Nat.le_of_ble_eq_true rfl) wr_9_220 rfl ?_
                            have hm639295 : q639275 ∈ P639199 := RS_m hT639201 ht639279 (by decide)
                            obtain ⟨⟨p639297, p639298, q639299, he639296, r639300, r639301, r639302, r639304⟩, r639303⟩ := show rk_3 D I γ el F639200 q639275 from RS_o hT639201 ht639279
                            have bp639297 := gB_any p639297
                            have bp639298 : gB p639298 0 1000000 := ⟨by omega, by omega⟩
                            refine Gw_callV (As := []) (gV_ok D I) (cp_7_ArrayList_size l hl0 D I P639199 F639200 q639275 p639297 q639299 p639298 hm639295 he639296 (gB_w bp639298 (by decide) (by decide))) dr_cX17_giveAll_117 ⟨wr_10_200, wr_1_18, wr_9_160, by decide, rfl, (Nat.le_of_ble_eq_true rfl), (Nat.le_of_ble_eq_true rfl)⟩ wr_9_158 wr_9_159 hm639295 he639296 rfl (rm_zc pk639222) (rm_zs pk639222) (Nat.le_of_ble_eq_true rfl) (fun r639308 w639309 dc639305 ds639306 hp639307 => ?_) (fun _ _ _ _ _ z => z.elim)
                            obtain ⟨rfl, rfl, hdc, hds⟩ := hp639307
                            change G _ _ _ _ _ _ _ (.int p639298 :: _) _ _ _
                            refine G_widen (cs' := ((rPh γ el f - rPh γ0 el0 f) / 18)) (sl' := (rPh γ el f - rPh γ0 el0 f)) (rm_d0 hdc) (rm_d0 hds) ?_
                            refine G_icmp_gt 167 dr_cX17_giveAll_120 (by decide +kernel) (fun hc639310 => ?_) (fun hc639310 => ?_)
                            · have r639311 : p639298.toInt < g639198.toInt := gC_lt hc639310
                              have bg639198' : gB g639198 1 1000001 := ⟨by omega, by omega⟩
                              obtain ⟨z639312, hz639312⟩ : ∃ z : Int32, z = g638818 + Int32.ofInt 1 := ⟨_, rfl⟩
                              have ez639312 : z639312.toInt = g638818.toInt + 1 := gI_inc hz639312 (by decide) bg638818' (by decide) (by decide)
                              have bz639312 : gB z639312 1 1000000 := ⟨by omega, by omega⟩
                              refine G_iinc (L' := [(5, .int z639312), (7, .int g639198), (6, .ref q638958), (4, .int o638110), (3, .int g636332), (0, .ref q614142), (1, .ref q614143), (2, .int p614144)]) z639312 2 dr_cX17_giveAll_167 rfl hz639312.symm (Nat.le_of_ble_eq_true rfl) rfl ?_
                              refine G_goto 90 dr_cX17_giveAll_170 (by decide +kernel) ?_
                              refine G_lv (L' := [(5, .int z639312), (4, .int o638110), (3, .int g636332), (0, .ref q614142), (1, .ref q614143), (2, .int p614144)]) [0, 3, 4, 5, 6, 7] rfl ?_
                              have ac639313 : (fI (F639200 q614142) 11).toInt = p639230.toInt := by rw [he639225]; rfl
                              have ac639314 : (fI (F639200 q614142) 14).toInt = p639233.toInt := by rw [he639225]; rfl
                              exact ih90_638831 P639199 F639200 γ el z639312 (gB_w bz639312 (by decide) (by decide)) hT639201 hs639202 hph639203 hB639204 (by omega) (by omega) (by omega) (by omega) x639213 (cq_nx x639214 (by omega)) x639217 (by omega)
                            · have r639315 : g639198.toInt ≤ p639298.toInt := gC_nlt hc639310
                              have bg639198' : gB g639198 0 1000000 := ⟨by omega, by omega⟩
                              refine G_aload_n 5 dr_cX17_giveAll_123 rfl ?_
                              refine G_iload 0 dr_cX17_giveAll_124 rfl ?_
                              refine G_aload 1 dr_cX17_giveAll_126 rfl ?_
                              refine Gp_get 0 hm639273 he639274 dr_cX17_giveAll_128 (gk_X12 D I) (Nat.le_of_ble_eq_true rfl) wr_9_220 rfl ?_
                              refine Gw_callV (As := []) (gV_ok D I) (cp_7_ArrayList_size l hl0 D I P639199 F639200 q639275 p639297 q639299 p639298 hm639295 he639296 (gB_w bp639298 (by decide) (by decide))) dr_cX17_giveAll_131 ⟨wr_10_200, wr_1_18, wr_9_160, by decide, rfl, (Nat.le_of_ble_eq_true rfl), (Nat.le_of_ble_eq_true rfl)⟩ wr_9_158 wr_9_159 hm639295 he639296 rfl (rm_zc pk639222) (rm_zs pk639222) (Nat.le_of_ble_eq_true rfl) (fun r639319 w639320 dc639316 ds639317 hp639318 => ?_) (fun _ _ _ _ _ z => z.elim)
                              obtain ⟨rfl, rfl, hdc, hds⟩ := hp639318
                              change G _ _ _ _ _ _ _ (.int p639298 :: _) _ _ _
                              refine G_widen (cs' := ((rPh γ el f - rPh γ0 el0 f) / 18)) (sl' := (rPh γ el f - rPh γ0 el0 f)) (rm_d0 hdc) (rm_d0 hds) ?_
                              refine G_icmp_ge 153 dr_cX17_giveAll_134 (by decide +kernel) (fun hc639321 => ?_) (fun hc639321 => ?_)
                              · have r639322 : p639298.toInt ≤ g639198.toInt := gC_le hc639321
                                refine G_aload 1 dr_cX17_giveAll_153 rfl ?_
                                refine Gp_get 1 hm639273 he639274 dr_cX17_giveAll_155 (gk_X12 D I) (Nat.le_of_ble_eq_true rfl) wr_9_223 rfl ?_
                                have fl639325 : p639298.toInt = γ 2 q639275 := r639300
                                have hp639323 : rAt γ el q614143 (g638818.toInt : Int).toNat (g639198.toInt : Int).toNat = q639276 := (rAt_e r639208 ht639285.1 (by omega)).trans ht639285.2.1
                                have hL639324 : (g639198.toInt : Int).toNat ≤ γ 2 (rwL γ el q614143 (g638818.toInt : Int).toNat) := by unfold rwL; rw [r639208, ht639285.1]; omega
                                have cn639326 : rNm (fun n => 0 ≤ (cB (F639200 (γ 9 17)) n).toInt) (F639200 q639276) := by rw [congrFun (rSk_9 hs639202) 17, x639213]; exact cq_at x639214 hp639323 (show (g638818.toInt : Int).toNat < γ 6 f by omega) hL639324
                                refine Gw_callV (As := [.ref q639276]) (gV_ok D I) (ct_335892_SpillForgeModel_coloured l hl0 D I γ el P639199 F639200 q614142 q639276 hT639201 ht639219 ht639281 (by omega)) dr_cX17_giveAll_158 ⟨wr_11_55, wr_1_14, wr_11_58, by decide, rfl, (Nat.le_of_ble_eq_true rfl), (Nat.le_of_ble_eq_true rfl)⟩ wr_11_57 wr_p_108 hm639224 he639225 rfl (rm_zc pk639222) (rm_zs pk639222) (Nat.le_of_ble_eq_true rfl) (fun r639330 w639331 dc639327 ds639328 hp639329 => ?_) (fun _ _ _ _ _ z => z.elim)
                                obtain ⟨F639336, rfl, rfl, hT639337, hs639338, hdc, hds, x639332, x639333, x639334, x639335⟩ := hp639329
                                have he639339 : F639336 q638958 = .inr (17, [.ref q639275, .ref q639276, .int p639277, .int p639278]) := (hs639338 q638958 (rT0 ht639205 (by decide)) (rT1 ht639205 (by decide)) (rT2 ht639205 (by decide))).trans he639274
                                have he639340 : F639336 q639275 = .inr (4, [.int p639297, .ref q639299, .int p639298]) := (hs639338 q639275 (rT0 ht639279 (by decide)) (rT1 ht639279 (by decide)) (rT2 ht639279 (by decide))).trans he639296
                                have hs639341 := rSk_str hs639202 hT639337 hs639338 (by decide) (by decide) (by decide)
                                have kp639342 : F639336 q614142 = F639200 q614142 := x639333
                                have kp639343 : F639336 (γ0 9 3) = F639200 (γ0 9 3) := (show F639336 (γ0 9 3) = F639200 (γ0 9 3) by rw [← congrFun (rSk_9 hs639341) 3]; exact x639334)
                                have kp639344 : F639336 (γ0 9 17) = F638114 (γ0 9 17) := ((show F639336 (γ0 9 17) = F639200 (γ0 9 17) by rw [← congrFun (rSk_9 hs639341) 17]; exact x639335)).trans x639213
                                have mk639345 : mKp (F614141 q614142) (F639336 q614142) := mKp_tr x639217 (mKp_eq x639333)
                                have he639346 : F639336 q614142 = .inr (22, [.ref (γ 9 0), .ref (γ 9 1), .ref (γ 9 2), .ref (γ 9 3), .ref (γ 9 4), .ref (γ 9 5), .ref (γ 9 6), .ref (γ 9 7), .ref (γ 9 8), .int p639228, .int p639229, .int p639230, .int p639231, .int p639232, .int p639233, .ref (γ 9 15), .ref (γ 9 16), .ref (γ 9 17), .ref (γ 9 18), .ref (γ 9 19), .ref (γ 9 20), .ref (γ 9 21), .ref (γ 9 22), .int p639234, .int p639235, .int p639236, .int p639237, .int p639238, .ref q639226, .ref (γ 9 29), .int p639239, .ref (γ 9 31), .int p639240, .int p639241, .int p639242, .ref q639227]) := (x639333).trans he639225
                                change G _ _ _ _ _ _ _ _ _ _ _
                                refine G_widen (cs' := ((rPh γ el f - rPh γ0 el0 f) / 18)) (sl' := (rPh γ el f - rPh γ0 el0 f)) (rm_d0 hdc) (rm_d0 hds) ?_
                                have cq639347 := cq_put (j1 := (g639198.toInt : Int).toNat + 1) hT639201 ht639220 hf639221 x639214 x639332 hp639323 (show (g638818.toInt : Int).toNat < γ 6 f by omega) hL639324 rfl
                                have ac639348 : (fI (F639336 q614142) 11).toInt = (fI (F639200 q614142) 11).toInt := by rw [kp639342]
                                have ac639349 : (fI (F639336 q614142) 14).toInt = (fI (F639200 q614142) 14).toInt := by rw [kp639342]
                                obtain ⟨z639350, hz639350⟩ : ∃ z : Int32, z = g639198 + Int32.ofInt 1 := ⟨_, rfl⟩
                                have ez639350 : z639350.toInt = g639198.toInt + 1 := gI_inc hz639350 (by decide) bg639198' (by decide) (by decide)
                                have bz639350 : gB z639350 1 1000001 := ⟨by omega, by omega⟩
                                refine G_iinc (L' := [(7, .int z639350), (6, .ref q638958), (5, .int g638818), (4, .int o638110), (3, .int g636332), (0, .ref q614142), (1, .ref q614143), (2, .int p614144)]) z639350 0 dr_cX17_giveAll_161 rfl hz639350.symm (Nat.le_of_ble_eq_true rfl) rfl ?_
                                refine G_goto 110 dr_cX17_giveAll_164 (by decide +kernel) ?_
                                have ac639351 : (fI (F639336 q614142) 11).toInt = p639230.toInt := by rw [he639346]; rfl
                                have ac639352 : (fI (F639336 q614142) 14).toInt = p639233.toInt := by rw [he639346]; rfl
                                exact ih110_639217 P639199 F639336 γ el z639350 (gB_w bz639350 (by decide) (by decide)) hT639337 hs639341 hph639203 hB639204 ht639205 hf639206 r639207 r639208 (by omega) (by omega) (by omega) (by omega) kp639344 (by rw [show (z639350.toInt : Int).toNat = ((g639198.toInt : Int).toNat + 1) by omega]; exact cq639347) (by omega) (by omega) mk639345 (by omega)
                              · have r639353 : g639198.toInt < p639298.toInt := gC_nle hc639321
                                have bg639198'' : gB g639198 0 999999 := ⟨by omega, by omega⟩
                                have bp639298' : gB p639298 1 1000000 := ⟨by omega, by omega⟩
                                refine G_aload 1 dr_cX17_giveAll_137 rfl ?_
                                refine Gp_get 0 hm639273 he639274 dr_cX17_giveAll_139 (gk_X12 D I) (Nat.le_of_ble_eq_true rfl) wr_9_220 rfl ?_
                                refine G_iload 0 dr_cX17_giveAll_142 rfl ?_
                                obtain ⟨r639354, r639355, n639362, f639363, r639356, r639357, r639358, r639359, r639360, r639361⟩ := rLC_n r639302 (by omega)
                                have hm639364 : q639299 ∈ P639199 := RS_m hT639201 r639354 (by decide)
                                obtain ⟨q639365, hx639366⟩ : ∃ x, x = el q639275 g639198.toInt.toNat := ⟨_, rfl⟩
                                have hx639367 : f639363 g639198.toNatClampNeg = some q639365 := (r639360 _ (show g639198.toInt.toNat < γ 2 q639275 by first | assumption | omega)).trans (by rw [hx639366])
                                have ht639368 : rKd γ q639365 1 := by rw [hx639366]; exact (r639303 _ (show g639198.toInt.toNat < γ 2 q639275 by first | assumption | omega)).1
                                have ht639369 : rFm γ q639365 q639275 := by rw [hx639366]; exact (r639303 _ (show g639198.toInt.toNat < γ 2 q639275 by first | assumption | omega)).2.1
                                have hf639370 : γ 1 q639365 = f := (show γ 1 q639365 = γ 1 q639275 from ht639369).trans hf639288
                                refine Gw_callV (As := [.int g639198]) (gV_ok D I) (cp_22_ArrayList_get l hl0 D I P639199 F639200 q639275 q639299 g639198 p639297 p639298 f639363 n639362 q639365 hm639295 hm639364 he639296 r639356 (gB_w bg639198'' (by decide) (by decide)) (gB_w bp639298' (by decide) (by decide)) (by omega) (by omega) (by assumption) (by omega)) dr_cX17_giveAll_144 ⟨wr_10_201, wr_1_18, wr_10_65, by decide, rfl, (Nat.le_of_ble_eq_true rfl), (Nat.le_of_ble_eq_true rfl)⟩ wr_10_63 wr_10_64 hm639295 he639296 rfl (rm_zc pk639222) (rm_zs pk639222) (Nat.le_of_ble_eq_true rfl) (fun r639374 w639375 dc639371 ds639372 hp639373 => ?_) (fun _ _ _ _ _ z => z.elim)
                                obtain ⟨rfl, rfl, hdc, hds⟩ := hp639373
                                change G _ _ _ _ _ _ _ (.ref q639365 :: _) _ _ _
                                refine G_widen (cs' := ((rPh γ el f - rPh γ0 el0 f) / 18)) (sl' := (rPh γ el f - rPh γ0 el0 f)) (rm_d0 hdc) (rm_d0 hds) ?_
                                have hm639376 : q639365 ∈ P639199 := RS_m hT639201 ht639368 (by decide)
                                obtain ⟨p639378, p639379, p639380, p639381, p639382, p639383, p639384, he639377, bp639378, bp639379, bp639382, bp639383, bp639384, r639385, r639386, r639387, r639388, r639389⟩ := show rk_1 γ q639365 (F639200 q639365) from RS_o hT639201 ht639368
                                have bp639380 := gB_any p639380
                                have bp639381 := gB_any p639381
                                have r639390 : γ 7 (γ 1 q639365) = γ 7 f := by rw [hf639370]
                                refine Gp_cast hm639376 he639377 rfl dr_cX17_giveAll_147 wr_10_202 (gr_cast 1 rfl) ?_
                                refine G_goto 158 dr_cX17_giveAll_150 (by decide +kernel) ?_
                                have fl639393 : p639298.toInt = γ 2 q639275 := r639300
                                have hp639391 : rAt γ el q614143 (g638818.toInt : Int).toNat (g639198.toInt : Int).toNat = q639365 := (rAt_r r639208 ht639285.1 (by omega)).trans (by rw [hx639366])
                                have hL639392 : (g639198.toInt : Int).toNat ≤ γ 2 (rwL γ el q614143 (g638818.toInt : Int).toNat) := by unfold rwL; rw [r639208, ht639285.1]; omega
                                have cn639394 : rNm (fun n => 0 ≤ (cB (F639200 (γ 9 17)) n).toInt) (F639200 q639365) := by rw [congrFun (rSk_9 hs639202) 17, x639213]; exact cq_at x639214 hp639391 (show (g638818.toInt : Int).toNat < γ 6 f by omega) hL639392
                                refine Gw_callV (As := [.ref q639365]) (gV_ok D I) (ct_335892_SpillForgeModel_coloured l hl0 D I γ el P639199 F639200 q614142 q639365 hT639201 ht639219 ht639368 (by omega)) dr_cX17_giveAll_158 ⟨wr_11_55, wr_1_14, wr_11_58, by decide, rfl, (Nat.le_of_ble_eq_true rfl), (Nat.le_of_ble_eq_true rfl)⟩ wr_11_57 wr_p_108 hm639224 he639225 rfl (rm_zc pk639222) (rm_zs pk639222) (Nat.le_of_ble_eq_true rfl) (fun r639398 w639399 dc639395 ds639396 hp639397 => ?_) (fun _ _ _ _ _ z => z.elim)
                                obtain ⟨F639404, rfl, rfl, hT639405, hs639406, hdc, hds, x639400, x639401, x639402, x639403⟩ := hp639397
                                have he639407 : F639404 q638958 = .inr (17, [.ref q639275, .ref q639276, .int p639277, .int p639278]) := (hs639406 q638958 (rT0 ht639205 (by decide)) (rT1 ht639205 (by decide)) (rT2 ht639205 (by decide))).trans he639274
                                have he639408 : F639404 q639275 = .inr (4, [.int p639297, .ref q639299, .int p639298]) := (hs639406 q639275 (rT0 ht639279 (by decide)) (rT1 ht639279 (by decide)) (rT2 ht639279 (by decide))).trans he639296
                                have he639409 : F639404 q639299 = .inl (I (.object "java/lang/Object"), n639362, .inr (.inr (.inr (.inr f639363)))) := (hs639406 q639299 (rT0 r639354 (by decide)) (rT1 r639354 (by decide)) (rT2 r639354 (by decide))).trans r639356
                                have hs639410 := rSk_str hs639202 hT639405 hs639406 (by decide) (by decide) (by decide)
                                have kp639411 : F639404 q614142 = F639200 q614142 := x639401
                                have kp639412 : F639404 (γ0 9 3) = F639200 (γ0 9 3) := (show F639404 (γ0 9 3) = F639200 (γ0 9 3) by rw [← congrFun (rSk_9 hs639410) 3]; exact x639402)
                                have kp639413 : F639404 (γ0 9 17) = F638114 (γ0 9 17) := ((show F639404 (γ0 9 17) = F639200 (γ0 9 17) by rw [← congrFun (rSk_9 hs639410) 17]; exact x639403)).trans x639213
                                have mk639414 : mKp (F614141 q614142) (F639404 q614142) := mKp_tr x639217 (mKp_eq x639401)
                                have he639415 : F639404 q614142 = .inr (22, [.ref (γ 9 0), .ref (γ 9 1), .ref (γ 9 2), .ref (γ 9 3), .ref (γ 9 4), .ref (γ 9 5), .ref (γ 9 6), .ref (γ 9 7), .ref (γ 9 8), .int p639228, .int p639229, .int p639230, .int p639231, .int p639232, .int p639233, .ref (γ 9 15), .ref (γ 9 16), .ref (γ 9 17), .ref (γ 9 18), .ref (γ 9 19), .ref (γ 9 20), .ref (γ 9 21), .ref (γ 9 22), .int p639234, .int p639235, .int p639236, .int p639237, .int p639238, .ref q639226, .ref (γ 9 29), .int p639239, .ref (γ 9 31), .int p639240, .int p639241, .int p639242, .ref q639227]) := (x639401).trans he639225
                                change G _ _ _ _ _ _ _ _ _ _ _
                                refine G_widen (cs' := ((rPh γ el f - rPh γ0 el0 f) / 18)) (sl' := (rPh γ el f - rPh γ0 el0 f)) (rm_d0 hdc) (rm_d0 hds) ?_
                                have cq639416 := cq_put (j1 := (g639198.toInt : Int).toNat + 1) hT639201 ht639220 hf639221 x639214 x639400 hp639391 (show (g638818.toInt : Int).toNat < γ 6 f by omega) hL639392 rfl
                                have ac639417 : (fI (F639404 q614142) 11).toInt = (fI (F639200 q614142) 11).toInt := by rw [kp639411]
                                have ac639418 : (fI (F639404 q614142) 14).toInt = (fI (F639200 q614142) 14).toInt := by rw [kp639411]
                                obtain ⟨z639419, hz639419⟩ : ∃ z : Int32, z = g639198 + Int32.ofInt 1 := ⟨_, rfl⟩
                                have ez639419 : z639419.toInt = g639198.toInt + 1 := gI_inc hz639419 (by decide) bg639198'' (by decide) (by decide)
                                have bz639419 : gB z639419 1 1000000 := ⟨by omega, by omega⟩
                                refine G_iinc (L' := [(7, .int z639419), (6, .ref q638958), (5, .int g638818), (4, .int o638110), (3, .int g636332), (0, .ref q614142), (1, .ref q614143), (2, .int p614144)]) z639419 0 dr_cX17_giveAll_161 rfl hz639419.symm (Nat.le_of_ble_eq_true rfl) rfl ?_
                                refine G_goto 110 dr_cX17_giveAll_164 (by decide +kernel) ?_
                                have ac639420 : (fI (F639404 q614142) 11).toInt = p639230.toInt := by rw [he639415]; rfl
                                have ac639421 : (fI (F639404 q614142) 14).toInt = p639233.toInt := by rw [he639415]; rfl
                                exact ih110_639217 P639199 F639404 γ el z639419 (gB_w bz639419 (by decide) (by decide)) hT639405 hs639410 hph639203 hB639204 ht639205 hf639206 r639207 r639208 (by omega) (by omega) (by omega) (by omega) kp639413 (by rw [show (z639419.toInt : Int).toNat = ((g639198.toInt : Int).toNat + 1) by omega]; exact cq639416) (by omega) (by omega) mk639414 (by omega)
                        have ac639422 : (fI (F638820 q614142) 11).toInt = p638844.toInt := by rw [he638839]; rfl
                        have ac639423 : (fI (F638820 q614142) 14).toInt = p638847.toInt := by rw [he638839]; rfl
                        exact hlp110_639217 (((1000002 : Int) - 0).toNat + 1) P638819 F638820 γ el 0 (gB_w (gBl (show Int32.toInt 0 = 0 by decide)) (by decide) (by decide)) hT638821 hs638822 hph638823 hB638824 ht638963 hf638985 r638993 r638994 (by have qa0 : Int32.toInt 0 = 0 := (by decide); omega) (by have qa0 : Int32.toInt 0 = 0 := (by decide); omega) (by have qa0 : Int32.toInt 0 = 0 := (by decide); omega) (by have qa0 : Int32.toInt 0 = 0 := (by decide); omega) x638829 (by have qa : Int32.toInt 0 = 0 := (by decide); rw [qa]; exact x638830) (by have qa0 : Int32.toInt 0 = 0 := (by decide); omega) (by have qa0 : Int32.toInt 0 = 0 := (by decide); omega) x638831 (Nat.lt_succ_self _)
                  have ac639424 : (fI (F638114 q614142) 11).toInt = p638038.toInt := by rw [he638121]; rfl
                  have ac639425 : (fI (F638114 q614142) 14).toInt = p638041.toInt := by rw [he638121]; rfl
                  exact hlp90_638831 (((1000001 : Int) - 0).toNat + 1) P638017 F638114 γ el 0 (gB_w (gBl (show Int32.toInt 0 = 0 by decide)) (by decide) (by decide)) hT638115 hs638117 hph638029 hB638022 (by have qa0 : Int32.toInt 0 = 0 := (by decide); omega) (by have qa0 : Int32.toInt 0 = 0 := (by decide); omega) (by have qa0 : Int32.toInt 0 = 0 := (by decide); omega) (by have qa0 : Int32.toInt 0 = 0 := (by decide); omega) rfl (by have qa : Int32.toInt 0 = 0 := (by decide); rw [qa]; exact cq638232) mk638120 (Nat.lt_succ_self _)
              · have r639426 : o638006.toInt ≠ 0 := gj_neq hc638082 (show Int32.toInt 0 = 0 by decide)
                have bo638006' : gB o638006 1 1 := gB_t1 bo638006 r639426
                refine G_aload_n 1 dr_cX17_giveAll_61 rfl ?_
                refine G_aload_n 2 dr_cX17_giveAll_62 rfl ?_
                refine G_iconst 0 dr_cX17_giveAll_63 (by decide +kernel) ?_
                refine Gw_callV (As := [.ref q614143, .int 0]) (gV_ok D I) (ct_270222_SpillForgeModel_graph l hl0 D I γ el P638017 F638018 q614142 q614143 0 hT638023 ht638025 ht638026 (gB_w (gBl (show Int32.toInt 0 = 0 by decide)) (by decide) (by decide)) (by omega)) dr_cX17_giveAll_64 ⟨wr_10_233, wr_1_14, wr_10_236, by decide, rfl, (Nat.le_of_ble_eq_true rfl), (Nat.le_of_ble_eq_true rfl)⟩ wr_10_235 wr_p_99 hm638032 he638033 rfl (rm_zc pk638030) (rm_zs pk638030) (Nat.le_of_ble_eq_true rfl) (fun r639430 w639431 dc639427 ds639428 hp639429 => ?_) (fun _ _ _ _ _ z => z.elim)
                obtain ⟨F639434, rfl, rfl, hT639435, hs639436, hdc, hds, x639432, x639433⟩ := hp639429
                have hs639437 := rSk_str hs638024 hT639435 hs639436 (by decide) (by decide) (by decide)
                have kp639438 : F639434 q614142 = F638018 q614142 := x639433
                have mk639439 : mKp (F614141 q614142) (F639434 q614142) := mKp_tr mk638028 (mKp_eq x639433)
                have he639440 : F639434 q614142 = .inr (22, [.ref (γ 9 0), .ref (γ 9 1), .ref (γ 9 2), .ref (γ 9 3), .ref (γ 9 4), .ref (γ 9 5), .ref (γ 9 6), .ref (γ 9 7), .ref (γ 9 8), .int p638036, .int p638037, .int p638038, .int p638039, .int p638040, .int p638041, .ref (γ 9 15), .ref (γ 9 16), .ref (γ 9 17), .ref (γ 9 18), .ref (γ 9 19), .ref (γ 9 20), .ref (γ 9 21), .ref (γ 9 22), .int p638042, .int p638043, .int p638044, .int p638045, .int p638046, .ref q638034, .ref (γ 9 29), .int p638047, .ref (γ 9 31), .int p638048, .int p638049, .int p638050, .ref q638035]) := (x639433).trans he638033
                rw [show Int32.toInt 0 = 0 from by decide] at x639432
                change G _ _ _ _ _ _ _ _ _ _ _
                refine G_widen (cs' := ((rPh γ el f - rPh γ0 el0 f) / 18)) (sl' := (rPh γ el f - rPh γ0 el0 f)) (rm_d0 hdc) (rm_d0 hds) ?_
                have ni639441 : rNI γ el F639434 q614143 (γ 6 f) (fI (F639434 q614142) 11).toInt := rNI_s (rNI_str hT638023 ht638026 hf638027 hs639436 (by decide) ni638081) (by rw [x639433])
                have gr639442 : rGr γ el F639434 q614143 (γ 6 f) (cB (F639434 (γ0 9 3))) (vA (γ 6 f)) := by have z := x639432 (by decide); rw [hf638027] at z; rw [← congrFun (rSk_9 hs639437) 3]; exact gq_str hT638023 ht638026 hf638027 hs639436 (by decide) z
                have ac639443 : (fI (F639434 q614142) 11).toInt = (fI (F638018 q614142) 11).toInt := by rw [kp639438]
                have ac639444 : (fI (F639434 q614142) 14).toInt = (fI (F638018 q614142) 14).toInt := by rw [kp639438]
                refine G_goto 52 dr_cX17_giveAll_67 (by decide +kernel) ?_
                have ac639445 : (fI (F639434 q614142) 11).toInt = p638038.toInt := by rw [he639440]; rfl
                have ac639446 : (fI (F639434 q614142) 14).toInt = p638041.toInt := by rw [he639440]; rfl
                exact ih52_637941 P638017 F639434 γ el hT639435 hs639437 hph638029 hB638022 (by omega) (by omega) (by omega) (by omega) ni639441 gr639442 mk639439 (by have z := x638011.resolve_left (by omega); omega)
          have ac639447 : (fI (F636445 q614142) 11).toInt = p636357.toInt := by rw [he636452]; rfl
          have ac639448 : (fI (F636445 q614142) 14).toInt = p636360.toInt := by rw [he636452]; rfl
          exact hlp52_637941 (rsum (fun i => γ 2 (γ 14 (el (γ 14 q614143) i))) (γ 6 f) + 1) P636333 F636445 γ el hT636446 hs636449 hph636337 hB636338 (by omega) (by omega) (by omega) (by omega) ni636453 gr636454 mk636451 (Nat.lt_succ_self _)
        · have r639449 : 4000 < o636435.toInt := gj_nle hc636436 (show Int32.toInt 4000 = 4000 by decide)
          have bo636435' : gB o636435 4001 2147483647 := ⟨by omega, by omega⟩
          refine G_iconst (-1) dr_cX17_giveAll_44 (by decide +kernel) ?_
          exact G_iretA dr_cX17_giveAll_45 rfl (show ((rPh γ el f - rPh γ0 el0 f) / 18) ≤ (((387 * B + 6000) - rPh γ0 el0 f) / 18) by omega) (show (rPh γ el f - rPh γ0 el0 f) ≤ ((387 * B + 6000) - rPh γ0 el0 f) by omega) ⟨P636333, F636334, γ, el, (-1), rfl, rfl, hs636336, ⟨by omega, by omega⟩, hB636338, (gB_w (gBl (show Int32.toInt (-1) = (-1) by decide)) (by decide) (by decide)), (by have qa0 : Int32.toInt (-1) = (-1) := (by decide); omega), x636344⟩
  have ac639450 : (fI (F614252 q614142) 11).toInt = p614274.toInt := by rw [he614269]; rfl
  have ac639451 : (fI (F614252 q614142) 14).toInt = p614277.toInt := by rw [he614269]; rfl
  exact hlp28_636344 (((42 : Int) - 1).toNat + 1) P614251 F614252 γ el 1 (gB_w (gBl (show Int32.toInt 1 = 1 by decide)) (by decide) (by decide)) hT614257 hs614258 hph614263 hB614256 (by have qa0 : Int32.toInt 1 = 1 := (by decide); omega) (by have qa0 : Int32.toInt 1 = 1 := (by decide); omega) (by have qa0 : Int32.toInt 1 = 1 := (by decide); omega) (by have qa0 : Int32.toInt 1 = 1 := (by decide); omega) ni614317 mk614262 (Nat.lt_succ_self _)
