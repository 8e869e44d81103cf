theorem dr_cX17_giveAll_0 : decode cX17_giveAll 0 = .ok (.aload_n 0, 1) := by decide +kernel
theorem dr_cX17_giveAll_1 : decode cX17_giveAll 1 = .ok (.iconst 0, 1) := by decide +kernel
theorem dr_cX17_giveAll_2 : decode cX17_giveAll 2 = .ok (.putfield 224, 3) := by decide +kernel
theorem dr_cX17_giveAll_5 : decode cX17_giveAll 5 = .ok (.aload_n 0, 1) := by decide +kernel
theorem dr_cX17_giveAll_6 : decode cX17_giveAll 6 = .ok (.iconst 0, 1) := by decide +kernel
theorem dr_cX17_giveAll_7 : decode cX17_giveAll 7 = .ok (.putfield 237, 3) := by decide +kernel
theorem dr_cX17_giveAll_10 : decode cX17_giveAll 10 = .ok (.aload_n 0, 1) := by decide +kernel
theorem dr_cX17_giveAll_11 : decode cX17_giveAll 11 = .ok (.iconst 0, 1) := by decide +kernel
theorem dr_cX17_giveAll_12 : decode cX17_giveAll 12 = .ok (.putfield 195, 3) := by decide +kernel
theorem dr_cX17_giveAll_15 : decode cX17_giveAll 15 = .ok (.aload_n 0, 1) := by decide +kernel
theorem dr_cX17_giveAll_16 : decode cX17_giveAll 16 = .ok (.bipush 100, 2) := by decide +kernel
theorem dr_cX17_giveAll_18 : decode cX17_giveAll 18 = .ok (.putfield 231, 3) := by decide +kernel
theorem dr_cX17_giveAll_21 : decode cX17_giveAll 21 = .ok (.aload_n 0, 1) := by decide +kernel
theorem dr_cX17_giveAll_22 : decode cX17_giveAll 22 = .ok (.aload_n 1, 1) := by decide +kernel
theorem dr_cX17_giveAll_23 : decode cX17_giveAll 23 = .ok (.invokevirtual 240, 3) := by decide +kernel
theorem dr_cX17_giveAll_26 : decode cX17_giveAll 26 = .ok (.iconst 1, 1) := by decide +kernel
theorem dr_cX17_giveAll_27 : decode cX17_giveAll 27 = .ok (.istore_n 3, 1) := by decide +kernel
theorem dr_cX17_giveAll_28 : decode cX17_giveAll 28 = .ok (.iload_n 3, 1) := by decide +kernel
theorem dr_cX17_giveAll_29 : decode cX17_giveAll 29 = .ok (.bipush 40, 2) := by decide +kernel
theorem dr_cX17_giveAll_31 : decode cX17_giveAll 31 = .ok (.if_icmp .gt 176, 3) := by decide +kernel
theorem dr_cX17_giveAll_207 : decode cX17_giveAll 207 = .ok (.iconst (-1), 1) := by decide +kernel
theorem dr_cX17_giveAll_208 : decode cX17_giveAll 208 = .ok (.ireturn, 1) := by decide +kernel
theorem dr_cX17_giveAll_34 : decode cX17_giveAll 34 = .ok (.aload_n 1, 1) := by decide +kernel
theorem dr_cX17_giveAll_35 : decode cX17_giveAll 35 = .ok (.invokevirtual 234, 3) := by decide +kernel
theorem dr_cX17_giveAll_38 : decode cX17_giveAll 38 = .ok (.sipush 4000, 3) := by decide +kernel
theorem dr_cX17_giveAll_41 : decode cX17_giveAll 41 = .ok (.if_icmp .le 5, 3) := by decide +kernel
theorem dr_cX17_giveAll_46 : decode cX17_giveAll 46 = .ok (.aload_n 0, 1) := by decide +kernel
theorem dr_cX17_giveAll_47 : decode cX17_giveAll 47 = .ok (.aload_n 1, 1) := by decide +kernel
theorem dr_cX17_giveAll_48 : decode cX17_giveAll 48 = .ok (.iconst 0, 1) := by decide +kernel
theorem dr_cX17_giveAll_49 : decode cX17_giveAll 49 = .ok (.invokevirtual 243, 3) := by decide +kernel
theorem dr_cX17_giveAll_52 : decode cX17_giveAll 52 = .ok (.aload_n 0, 1) := by decide +kernel
theorem dr_cX17_giveAll_53 : decode cX17_giveAll 53 = .ok (.aload_n 1, 1) := by decide +kernel
theorem dr_cX17_giveAll_54 : decode cX17_giveAll 54 = .ok (.iload_n 2, 1) := by decide +kernel
theorem dr_cX17_giveAll_55 : decode cX17_giveAll 55 = .ok (.invokevirtual 246, 3) := by decide +kernel
theorem wr_11_8 : (Jvm.Cond.methodLink "SpillForgeModel" (246 : Nat) ({ cls := "SpillForgeModel", name := "merge", desc := "(LSpillForgeModel$Code;I)Z" } : Jvm.MethodName)) ∈ gw := gw_11 8 rfl rfl
theorem wr_11_11 : (Jvm.Cond.code ({ cls := "SpillForgeModel", name := "merge", desc := "(LSpillForgeModel$Code;I)Z" } : Jvm.MethodName) prog_14_method_17_code (9 : Nat) (Option.some Jvm.ClassFile.FieldType.boolean)) ∈ gw := gw_11 11 rfl rfl
theorem wr_11_10 : (Jvm.Cond.instanceMethod ({ cls := "SpillForgeModel", name := "merge", desc := "(LSpillForgeModel$Code;I)Z" } : Jvm.MethodName)) ∈ gw := gw_11 10 rfl rfl
theorem wr_p_101 : Cond.selects "SpillForgeModel" ⟨"SpillForgeModel", "merge", "(LSpillForgeModel$Code;I)Z"⟩ ⟨"SpillForgeModel", "merge", "(LSpillForgeModel$Code;I)Z"⟩ ∈ gw := gw_p _ 101 rfl rfl rfl
theorem dr_cX17_giveAll_58 : decode cX17_giveAll 58 = .ok (.ifCond .eq 12, 3) := by decide +kernel
theorem dr_cX17_giveAll_70 : decode cX17_giveAll 70 = .ok (.aload_n 0, 1) := by decide +kernel
theorem dr_cX17_giveAll_71 : decode cX17_giveAll 71 = .ok (.aload_n 1, 1) := by decide +kernel
theorem dr_cX17_giveAll_72 : decode cX17_giveAll 72 = .ok (.invokevirtual 250, 3) := by decide +kernel
theorem dr_cX17_giveAll_75 : decode cX17_giveAll 75 = .ok (.aload_n 0, 1) := by decide +kernel
theorem dr_cX17_giveAll_76 : decode cX17_giveAll 76 = .ok (.iload_n 2, 1) := by decide +kernel
theorem dr_cX17_giveAll_77 : decode cX17_giveAll 77 = .ok (.invokevirtual 253, 3) := by decide +kernel
theorem wr_11_47 : (Jvm.Cond.methodLink "SpillForgeModel" (253 : Nat) ({ cls := "SpillForgeModel", name := "colours", desc := "(I)I" } : Jvm.MethodName)) ∈ gw := gw_11 47 rfl rfl
theorem wr_11_50 : (Jvm.Cond.code ({ cls := "SpillForgeModel", name := "colours", desc := "(I)I" } : Jvm.MethodName) prog_14_method_21_code (8 : Nat) (Option.some Jvm.ClassFile.FieldType.int)) ∈ gw := gw_11 50 rfl rfl
theorem wr_11_49 : (Jvm.Cond.instanceMethod ({ cls := "SpillForgeModel", name := "colours", desc := "(I)I" } : Jvm.MethodName)) ∈ gw := gw_11 49 rfl rfl
theorem wr_p_106 : Cond.selects "SpillForgeModel" ⟨"SpillForgeModel", "colours", "(I)I"⟩ ⟨"SpillForgeModel", "colours", "(I)I"⟩ ∈ gw := gw_p _ 106 rfl rfl rfl
theorem dr_cX17_giveAll_80 : decode cX17_giveAll 80 = .ok (.istore 4, 2) := by decide +kernel
theorem dr_cX17_giveAll_82 : decode cX17_giveAll 82 = .ok (.iload 4, 2) := by decide +kernel
theorem dr_cX17_giveAll_84 : decode cX17_giveAll 84 = .ok (.ifCond .ne 96, 3) := by decide +kernel
theorem dr_cX17_giveAll_180 : decode cX17_giveAll 180 = .ok (.aload_n 0, 1) := by decide +kernel
theorem dr_cX17_giveAll_181 : decode cX17_giveAll 181 = .ok (.dup, 1) := by decide +kernel
theorem dr_cX17_giveAll_182 : decode cX17_giveAll 182 = .ok (.getfield 237, 3) := by decide +kernel
theorem dr_cX17_giveAll_185 : decode cX17_giveAll 185 = .ok (.iload 4, 2) := by decide +kernel
theorem dr_cX17_giveAll_187 : decode cX17_giveAll 187 = .ok (.iadd, 1) := by decide +kernel
theorem dr_cX17_giveAll_188 : decode cX17_giveAll 188 = .ok (.putfield 237, 3) := by decide +kernel
theorem dr_cX17_giveAll_191 : decode cX17_giveAll 191 = .ok (.aload_n 0, 1) := by decide +kernel
theorem dr_cX17_giveAll_192 : decode cX17_giveAll 192 = .ok (.aload_n 1, 1) := by decide +kernel
theorem dr_cX17_giveAll_193 : decode cX17_giveAll 193 = .ok (.invokevirtual 263, 3) := by decide +kernel
theorem wr_11_63 : (Jvm.Cond.methodLink "SpillForgeModel" (263 : Nat) ({ cls := "SpillForgeModel", name := "spill", desc := "(LSpillForgeModel$Code;)Z" } : Jvm.MethodName)) ∈ gw := gw_11 63 rfl rfl
theorem wr_11_66 : (Jvm.Cond.code ({ cls := "SpillForgeModel", name := "spill", desc := "(LSpillForgeModel$Code;)Z" } : Jvm.MethodName) prog_14_method_22_code (10 : Nat) (Option.some Jvm.ClassFile.FieldType.boolean)) ∈ gw := gw_11 66 rfl rfl
theorem wr_11_65 : (Jvm.Cond.instanceMethod ({ cls := "SpillForgeModel", name := "spill", desc := "(LSpillForgeModel$Code;)Z" } : Jvm.MethodName)) ∈ gw := gw_11 65 rfl rfl
theorem wr_p_110 : Cond.selects "SpillForgeModel" ⟨"SpillForgeModel", "spill", "(LSpillForgeModel$Code;)Z"⟩ ⟨"SpillForgeModel", "spill", "(LSpillForgeModel$Code;)Z"⟩ ∈ gw := gw_p _ 110 rfl rfl rfl
theorem dr_cX17_giveAll_196 : decode cX17_giveAll 196 = .ok (.ifCond .ne 5, 3) := by decide +kernel
theorem dr_cX17_giveAll_201 : decode cX17_giveAll 201 = .ok (.iinc 3 1, 3) := by decide +kernel
theorem dr_cX17_giveAll_204 : decode cX17_giveAll 204 = .ok (.goto (-176), 3) := by decide +kernel
theorem dr_cX17_giveAll_199 : decode cX17_giveAll 199 = .ok (.iconst (-1), 1) := by decide +kernel
theorem dr_cX17_giveAll_200 : decode cX17_giveAll 200 = .ok (.ireturn, 1) := by decide +kernel
theorem dr_cX17_giveAll_87 : decode cX17_giveAll 87 = .ok (.iconst 0, 1) := by decide +kernel
theorem dr_cX17_giveAll_88 : decode cX17_giveAll 88 = .ok (.istore 5, 2) := by decide +kernel
theorem dr_cX17_giveAll_90 : decode cX17_giveAll 90 = .ok (.iload 5, 2) := by decide +kernel
theorem dr_cX17_giveAll_92 : decode cX17_giveAll 92 = .ok (.aload_n 1, 1) := by decide +kernel
theorem dr_cX17_giveAll_93 : decode cX17_giveAll 93 = .ok (.invokevirtual 96, 3) := by decide +kernel
theorem dr_cX17_giveAll_96 : decode cX17_giveAll 96 = .ok (.if_icmp .ge 77, 3) := by decide +kernel
theorem dr_cX17_giveAll_173 : decode cX17_giveAll 173 = .ok (.aload_n 0, 1) := by decide +kernel
theorem dr_cX17_giveAll_174 : decode cX17_giveAll 174 = .ok (.aload_n 1, 1) := by decide +kernel
theorem dr_cX17_giveAll_175 : decode cX17_giveAll 175 = .ok (.invokevirtual 260, 3) := by decide +kernel
theorem wr_11_59 : (Jvm.Cond.methodLink "SpillForgeModel" (260 : Nat) ({ cls := "SpillForgeModel", name := "share", desc := "(LSpillForgeModel$Code;)V" } : Jvm.MethodName)) ∈ gw := gw_11 59 rfl rfl
theorem wr_11_62 : (Jvm.Cond.code ({ cls := "SpillForgeModel", name := "share", desc := "(LSpillForgeModel$Code;)V" } : Jvm.MethodName) prog_14_method_26_code (7 : Nat) (Option.none : Option Jvm.ClassFile.FieldType)) ∈ gw := gw_11 62 rfl rfl
theorem wr_11_61 : (Jvm.Cond.instanceMethod ({ cls := "SpillForgeModel", name := "share", desc := "(LSpillForgeModel$Code;)V" } : Jvm.MethodName)) ∈ gw := gw_11 61 rfl rfl
theorem wr_p_109 : Cond.selects "SpillForgeModel" ⟨"SpillForgeModel", "share", "(LSpillForgeModel$Code;)V"⟩ ⟨"SpillForgeModel", "share", "(LSpillForgeModel$Code;)V"⟩ ∈ gw := gw_p _ 109 rfl rfl rfl
theorem dr_cX17_giveAll_178 : decode cX17_giveAll 178 = .ok (.iload_n 3, 1) := by decide +kernel
theorem dr_cX17_giveAll_179 : decode cX17_giveAll 179 = .ok (.ireturn, 1) := by decide +kernel
theorem dr_cX17_giveAll_99 : decode cX17_giveAll 99 = .ok (.aload_n 1, 1) := by decide +kernel
theorem dr_cX17_giveAll_100 : decode cX17_giveAll 100 = .ok (.iload 5, 2) := by decide +kernel
theorem dr_cX17_giveAll_102 : decode cX17_giveAll 102 = .ok (.invokevirtual 101, 3) := by decide +kernel
theorem dr_cX17_giveAll_105 : decode cX17_giveAll 105 = .ok (.astore 6, 2) := by decide +kernel
theorem dr_cX17_giveAll_107 : decode cX17_giveAll 107 = .ok (.iconst 0, 1) := by decide +kernel
theorem dr_cX17_giveAll_108 : decode cX17_giveAll 108 = .ok (.istore 7, 2) := by decide +kernel
theorem dr_cX17_giveAll_110 : decode cX17_giveAll 110 = .ok (.iload 7, 2) := by decide +kernel
theorem dr_cX17_giveAll_112 : decode cX17_giveAll 112 = .ok (.aload 6, 2) := by decide +kernel
theorem dr_cX17_giveAll_114 : decode cX17_giveAll 114 = .ok (.getfield 117, 3) := by decide +kernel
theorem dr_cX17_giveAll_117 : decode cX17_giveAll 117 = .ok (.invokevirtual 121, 3) := by decide +kernel
theorem dr_cX17_giveAll_120 : decode cX17_giveAll 120 = .ok (.if_icmp .gt 47, 3) := by decide +kernel
theorem dr_cX17_giveAll_167 : decode cX17_giveAll 167 = .ok (.iinc 5 1, 3) := by decide +kernel
theorem dr_cX17_giveAll_170 : decode cX17_giveAll 170 = .ok (.goto (-80), 3) := by decide +kernel
theorem dr_cX17_giveAll_123 : decode cX17_giveAll 123 = .ok (.aload_n 0, 1) := by decide +kernel
theorem dr_cX17_giveAll_124 : decode cX17_giveAll 124 = .ok (.iload 7, 2) := by decide +kernel
theorem dr_cX17_giveAll_126 : decode cX17_giveAll 126 = .ok (.aload 6, 2) := by decide +kernel
theorem dr_cX17_giveAll_128 : decode cX17_giveAll 128 = .ok (.getfield 117, 3) := by decide +kernel
theorem dr_cX17_giveAll_131 : decode cX17_giveAll 131 = .ok (.invokevirtual 121, 3) := by decide +kernel
theorem dr_cX17_giveAll_134 : decode cX17_giveAll 134 = .ok (.if_icmp .ge 19, 3) := by decide +kernel
theorem dr_cX17_giveAll_153 : decode cX17_giveAll 153 = .ok (.aload 6, 2) := by decide +kernel
theorem dr_cX17_giveAll_155 : decode cX17_giveAll 155 = .ok (.getfield 109, 3) := by decide +kernel
theorem dr_cX17_giveAll_158 : decode cX17_giveAll 158 = .ok (.invokevirtual 256, 3) := by decide +kernel
theorem wr_11_55 : (Jvm.Cond.methodLink "SpillForgeModel" (256 : Nat) ({ cls := "SpillForgeModel", name := "coloured", desc := "(LSpillForgeModel$Row;)V" } : Jvm.MethodName)) ∈ gw := gw_11 55 rfl rfl
theorem wr_11_58 : (Jvm.Cond.code ({ cls := "SpillForgeModel", name := "coloured", desc := "(LSpillForgeModel$Row;)V" } : Jvm.MethodName) prog_14_method_25_code (2 : Nat) (Option.none : Option Jvm.ClassFile.FieldType)) ∈ gw := gw_11 58 rfl rfl
theorem wr_11_57 : (Jvm.Cond.instanceMethod ({ cls := "SpillForgeModel", name := "coloured", desc := "(LSpillForgeModel$Row;)V" } : Jvm.MethodName)) ∈ gw := gw_11 57 rfl rfl
theorem wr_p_108 : Cond.selects "SpillForgeModel" ⟨"SpillForgeModel", "coloured", "(LSpillForgeModel$Row;)V"⟩ ⟨"SpillForgeModel", "coloured", "(LSpillForgeModel$Row;)V"⟩ ∈ gw := gw_p _ 108 rfl rfl rfl
theorem dr_cX17_giveAll_161 : decode cX17_giveAll 161 = .ok (.iinc 7 1, 3) := by decide +kernel
theorem dr_cX17_giveAll_164 : decode cX17_giveAll 164 = .ok (.goto (-54), 3) := by decide +kernel
theorem dr_cX17_giveAll_137 : decode cX17_giveAll 137 = .ok (.aload 6, 2) := by decide +kernel
theorem dr_cX17_giveAll_139 : decode cX17_giveAll 139 = .ok (.getfield 117, 3) := by decide +kernel
theorem dr_cX17_giveAll_142 : decode cX17_giveAll 142 = .ok (.iload 7, 2) := by decide +kernel
theorem dr_cX17_giveAll_144 : decode cX17_giveAll 144 = .ok (.invokevirtual 124, 3) := by decide +kernel
theorem dr_cX17_giveAll_147 : decode cX17_giveAll 147 = .ok (.checkcast 40, 3) := by decide +kernel
theorem dr_cX17_giveAll_150 : decode cX17_giveAll 150 = .ok (.goto 8, 3) := by decide +kernel
theorem dr_cX17_giveAll_61 : decode cX17_giveAll 61 = .ok (.aload_n 0, 1) := by decide +kernel
theorem dr_cX17_giveAll_62 : decode cX17_giveAll 62 = .ok (.aload_n 1, 1) := by decide +kernel
theorem dr_cX17_giveAll_63 : decode cX17_giveAll 63 = .ok (.iconst 0, 1) := by decide +kernel
theorem dr_cX17_giveAll_64 : decode cX17_giveAll 64 = .ok (.invokevirtual 243, 3) := by decide +kernel
theorem dr_cX17_giveAll_67 : decode cX17_giveAll 67 = .ok (.goto (-15), 3) := by decide +kernel
theorem dr_cX17_giveAll_44 : decode cX17_giveAll 44 = .ok (.iconst (-1), 1) := by decide +kernel
theorem dr_cX17_giveAll_45 : decode cX17_giveAll 45 = .ok (.ireturn, 1) := by decide +kernel
abbrev ky_613992_SpillForgeModel_giveAll : gKey := (cX17_giveAll, 8, "SpillForgeModel", (some FieldType.int), [], "giveAll", fun _ _ => True)
def pg_613992_SpillForgeModel_giveAll (D : va_G) (I : FieldType → ClassId) (γ0 el0 : Nat → Nat → Nat) (f : Nat) (B : Nat) (P613984 : List Nat) (F613985 : Nat → va_E) (q613986 : Nat) (q613987 : Nat) (p613988 : Int32) : Option Value → va_W → Nat → Nat → Prop := fun r w dc ds => ∃ (P639297 : List Nat) (F639298 : Nat → va_E) (γ el : Nat → Nat → Nat) (o639296 : Int32), r = some (.int o639296) ∧ w = va_pl P639297 F639298 ∧ rSk f [101] ([1, 3, 5, 6, 8, 9, 101] ++ npk) D I P613984 F613985 γ0 el0 P639297 F639298 γ el ∧ (18 * dc + rPh γ0 el0 f ≤ rPh γ el f ∧ ds + rPh γ0 el0 f ≤ rPh γ el f) ∧ rBd γ el f B ∧ gB o639296 (-1) 40 ∧ γ 6 f = γ0 6 f ∧ mKp (F613985 q613986) (F639298 q613986)
set_option maxRecDepth 100000 in
set_option maxHeartbeats 20000000 in
theorem cg_613992_SpillForgeModel_giveAll (l : Launch) (hl0 : l.stackTraces = false) (D : va_G) (I : FieldType → ClassId) (γ0 el0 : Nat → Nat → Nat) (f : Nat) (B : Nat) (P613984 : List Nat) (F613985 : Nat → va_E) (q613986 : Nat) (q613987 : Nat) (p613988 : Int32) (hT0 : RS D I P613984 F613985 γ0 el0) (hzq613986 : rKd γ0 q613986 10) (hzq613987 : rKd γ0 q613987 9) (hf0 : γ0 1 q613987 = f) (hB0 : rBd γ0 el0 f B) (hBk : B ≤ 100000) (bp613988 : gB p613988 1 32) (x613989 : 0 < γ0 6 f) (x613990 : γ0 7 f = 0) (x613991 : γ0 16 f + 3901 ≤ B) : CtA (gV D I) l yX17_giveAll cX17_giveAll 8 (some FieldType.int) 10 224 (((387 * B + 6000) - rPh γ0 el0 f) / 18) ((387 * B + 6000) - rPh γ0 el0 f) [.ref q613986, .ref q613987, .int p613988] (va_pl P613984 F613985) (pg_613992_SpillForgeModel_giveAll D I γ0 el0 f B P613984 F613985 q613986 q613987 p613988) gNA := by
  refine CtA_of hl0 (by decide) (Nat.le_of_ble_eq_true rfl) ?_
  obtain ⟨γ, hγ0⟩ : ∃ z, z = γ0 := ⟨_, rfl⟩
  obtain ⟨el, hel0⟩ : ∃ z, z = el0 := ⟨_, rfl⟩
  have hT : RS D I P613984 F613985 γ el := by rw [hγ0, hel0]; exact hT0
  have hst : rSk f [101] ([1, 3, 5, 6, 8, 9, 101] ++ npk) D I P613984 F613985 γ0 el0 P613984 F613985 γ el := by rw [hγ0, hel0]; exact rSk_rf hT0
  have hph : rPh γ0 el0 f ≤ rPh γ el f := by rw [hγ0, hel0]; exact Nat.le_refl _
  have hB : rBd γ el f B := by rw [hγ0, hel0]; exact hB0
  have htq613986 : rKd γ q613986 10 := by rw [hγ0]; exact hzq613986
  have htq613987 : rKd γ q613987 9 := by rw [hγ0]; exact hzq613987
  have hf1 : γ 1 q613987 = f := by rw [hγ0]; exact hf0
  have x613989n : 0 < γ 6 f := by rw [hγ0]; exact x613989
  have x613990n : γ 7 f = 0 := by rw [hγ0]; exact x613990
  have x613991n : γ 16 f + 3901 ≤ B := by rw [hγ0]; exact x613991
  have pk613993 : rPh γ el f ≤ 387 * B + 6000 := rm_pk (rM_ge hT htq613987 hf1).1 (rM_bd hB)
  refine G_widen (cs' := ((rPh γ el f - rPh γ0 el0 f) / 18)) (sl' := (rPh γ el f - rPh γ0 el0 f)) (Nat.zero_le _) (Nat.zero_le _) ?_
  have lz0 : Int32.toInt 0 = 0 := by decide
  have r613994 : γ 6 f = γ0 6 f := by rw [hγ0]
  have r613995 : γ 7 f = γ0 7 f := by rw [hγ0]
  have r613996 : γ 16 f = γ0 16 f := by rw [hγ0]
  have r613997 : γ 18 f = γ0 18 f := by rw [hγ0]
  have r613998 : γ 19 f = γ0 19 f := by rw [hγ0]
  have hm613999 : q613986 ∈ P613984 := RS_m hT htq613986 (by decide)
  refine rk10_e (show rk_10 γ (F613985 q613986) from RS_o hT htq613986) (fun q614001 q614002 p614003 p614004 p614005 p614006 p614007 p614008 p614009 p614010 p614011 p614012 p614013 p614014 p614015 p614016 p614017 he614000 hB614044 ht614018 ht614019 ht614020 ht614021 ht614022 ht614023 ht614024 ht614025 ht614026 ht614027 ht614028 ht614029 ht614030 ht614031 ht614032 ht614033 ht614034 ht614035 ht614036 ht614037 ht614038 ht614039 ht614040 ht614041 hB614045 => ?_)
  have k0_3 : rKd γ0 (γ0 9 3) 14 := by rw [← hγ0]; exact ht614023
  have k0_17 : rKd γ0 (γ0 9 17) 20 := by rw [← hγ0]; exact ht614031
  refine G_aload_n 0 dr_cX17_giveAll_0 rfl ?_
  refine G_iconst 0 dr_cX17_giveAll_1 (by decide +kernel) ?_
  refine Gp_put 11 hm613999 he614000 dr_cX17_giveAll_2 (gk_X17 D I) (Nat.le_of_ble_eq_true rfl) wr_7_85 rfl rfl rfl (Nat.le_of_ble_eq_true rfl) (fun F614046 e614047 n614048 => ?_)
  have he614049 : F614046 q613986 = .inr (22, [.ref (γ 9 0), .ref (γ 9 1), .ref (γ 9 2), .ref (γ 9 3), .ref (γ 9 4), .ref (γ 9 5), .ref (γ 9 6), .ref (γ 9 7), .ref (γ 9 8), .int p614003, .int p614004, .int 0, .int p614006, .int p614007, .int p614008, .ref (γ 9 15), .ref (γ 9 16), .ref (γ 9 17), .ref (γ 9 18), .ref (γ 9 19), .ref (γ 9 20), .ref (γ 9 21), .ref (γ 9 22), .int p614009, .int p614010, .int p614011, .int p614012, .int p614013, .ref q614001, .ref (γ 9 29), .int p614014, .ref (γ 9 31), .int p614015, .int p614016, .int p614017, .ref q614002]) := e614047
  have mk614050 : mKp (F613985 q613986) (F614046 q613986) := mKp_tr mKp_rf (by rw [he614000, he614049]; exact ⟨rfl, rfl⟩)
  have kp614051 : F614046 (γ0 9 3) = F613985 (γ0 9 3) := n614048 (γ0 9 3) (rn_ty (rSk_k hst k0_3 (by decide) (by decide)) htq613986 (by decide))
  have kp614052 : F614046 (γ0 9 17) = F613985 (γ0 9 17) := n614048 (γ0 9 17) (rn_ty (rSk_k hst k0_17 (by decide) (by decide)) htq613986 (by decide))
  refine G_aload_n 0 dr_cX17_giveAll_5 rfl ?_
  refine G_iconst 0 dr_cX17_giveAll_6 (by decide +kernel) ?_
  refine Gp_put 12 hm613999 he614049 dr_cX17_giveAll_7 (gk_X17 D I) (Nat.le_of_ble_eq_true rfl) wr_7_86 rfl rfl rfl (Nat.le_of_ble_eq_true rfl) (fun F614053 e614054 n614055 => ?_)
  have he614056 : F614053 q613986 = .inr (22, [.ref (γ 9 0), .ref (γ 9 1), .ref (γ 9 2), .ref (γ 9 3), .ref (γ 9 4), .ref (γ 9 5), .ref (γ 9 6), .ref (γ 9 7), .ref (γ 9 8), .int p614003, .int p614004, .int 0, .int 0, .int p614007, .int p614008, .ref (γ 9 15), .ref (γ 9 16), .ref (γ 9 17), .ref (γ 9 18), .ref (γ 9 19), .ref (γ 9 20), .ref (γ 9 21), .ref (γ 9 22), .int p614009, .int p614010, .int p614011, .int p614012, .int p614013, .ref q614001, .ref (γ 9 29), .int p614014, .ref (γ 9 31), .int p614015, .int p614016, .int p614017, .ref q614002]) := e614054
  have mk614057 : mKp (F613985 q613986) (F614053 q613986) := mKp_tr mk614050 (by rw [he614049, he614056]; exact ⟨rfl, rfl⟩)
  have n614058 : ∀ b, b ≠ q613986 → F614053 b = F613985 b := fun b hb => (n614055 b hb).trans (n614048 b hb)
  have kp614059 : F614053 (γ0 9 3) = F613985 (γ0 9 3) := (n614055 (γ0 9 3) (rn_ty (rSk_k hst k0_3 (by decide) (by decide)) htq613986 (by decide))).trans kp614051
  have kp614060 : F614053 (γ0 9 17) = F613985 (γ0 9 17) := (n614055 (γ0 9 17) (rn_ty (rSk_k hst k0_17 (by decide) (by decide)) htq613986 (by decide))).trans kp614052
  refine G_aload_n 0 dr_cX17_giveAll_10 rfl ?_
  refine G_iconst 0 dr_cX17_giveAll_11 (by decide +kernel) ?_
  refine Gp_put 13 hm613999 he614056 dr_cX17_giveAll_12 (gk_X17 D I) (Nat.le_of_ble_eq_true rfl) wr_7_87 rfl rfl rfl (Nat.le_of_ble_eq_true rfl) (fun F614061 e614062 n614063 => ?_)
  have he614064 : F614061 q613986 = .inr (22, [.ref (γ 9 0), .ref (γ 9 1), .ref (γ 9 2), .ref (γ 9 3), .ref (γ 9 4), .ref (γ 9 5), .ref (γ 9 6), .ref (γ 9 7), .ref (γ 9 8), .int p614003, .int p614004, .int 0, .int 0, .int 0, .int p614008, .ref (γ 9 15), .ref (γ 9 16), .ref (γ 9 17), .ref (γ 9 18), .ref (γ 9 19), .ref (γ 9 20), .ref (γ 9 21), .ref (γ 9 22), .int p614009, .int p614010, .int p614011, .int p614012, .int p614013, .ref q614001, .ref (γ 9 29), .int p614014, .ref (γ 9 31), .int p614015, .int p614016, .int p614017, .ref q614002]) := e614062
  have mk614065 : mKp (F613985 q613986) (F614061 q613986) := mKp_tr mk614057 (by rw [he614056, he614064]; exact ⟨rfl, rfl⟩)
  have n614066 : ∀ b, b ≠ q613986 → F614061 b = F613985 b := fun b hb => (n614063 b hb).trans (n614058 b hb)
  have kp614067 : F614061 (γ0 9 3) = F613985 (γ0 9 3) := (n614063 (γ0 9 3) (rn_ty (rSk_k hst k0_3 (by decide) (by decide)) htq613986 (by decide))).trans kp614059
  have kp614068 : F614061 (γ0 9 17) = F613985 (γ0 9 17) := (n614063 (γ0 9 17) (rn_ty (rSk_k hst k0_17 (by decide) (by decide)) htq613986 (by decide))).trans kp614060
  refine G_aload_n 0 dr_cX17_giveAll_15 rfl ?_
  refine G_bipush 100 dr_cX17_giveAll_16 (by decide +kernel) ?_
  refine Gp_put 14 hm613999 he614064 dr_cX17_giveAll_18 (gk_X17 D I) (Nat.le_of_ble_eq_true rfl) wr_7_88 rfl rfl rfl (Nat.le_of_ble_eq_true rfl) (fun F614069 e614070 n614071 => ?_)
  have he614072 : F614069 q613986 = .inr (22, [.ref (γ 9 0), .ref (γ 9 1), .ref (γ 9 2), .ref (γ 9 3), .ref (γ 9 4), .ref (γ 9 5), .ref (γ 9 6), .ref (γ 9 7), .ref (γ 9 8), .int p614003, .int p614004, .int 0, .int 0, .int 0, .int 100, .ref (γ 9 15), .ref (γ 9 16), .ref (γ 9 17), .ref (γ 9 18), .ref (γ 9 19), .ref (γ 9 20), .ref (γ 9 21), .ref (γ 9 22), .int p614009, .int p614010, .int p614011, .int p614012, .int p614013, .ref q614001, .ref (γ 9 29), .int p614014, .ref (γ 9 31), .int p614015, .int p614016, .int p614017, .ref q614002]) := e614070
  have mk614073 : mKp (F613985 q613986) (F614069 q613986) := mKp_tr mk614065 (by rw [he614064, he614072]; exact ⟨rfl, rfl⟩)
  have n614074 : ∀ b, b ≠ q613986 → F614069 b = F613985 b := fun b hb => (n614071 b hb).trans (n614066 b hb)
  have kp614075 : F614069 (γ0 9 3) = F613985 (γ0 9 3) := (n614071 (γ0 9 3) (rn_ty (rSk_k hst k0_3 (by decide) (by decide)) htq613986 (by decide))).trans kp614067
  have kp614076 : F614069 (γ0 9 17) = F613985 (γ0 9 17) := (n614071 (γ0 9 17) (rn_ty (rSk_k hst k0_17 (by decide) (by decide)) htq613986 (by decide))).trans kp614068
  refine G_aload_n 0 dr_cX17_giveAll_21 rfl ?_
  have hT614077 : RS D I P613984 F614069 γ el := RS_set hT n614074 htq613986 (by decide) ⟨q614001, q614002, p614003, p614004, 0, 0, 0, 100, p614009, p614010, p614011, p614012, p614013, p614014, p614015, p614016, p614017, he614072, ⟨(hB614044.1), (hB614044.2.1), (gB_w (gBl (show Int32.toInt 0 = 0 by decide)) (by decide) (by decide)), (gB_w (gBl (show Int32.toInt 100 = 100 by decide)) (by decide) (by decide)), (hB614044.2.2.2.2.1), (hB614044.2.2.2.2.2.1), (hB614044.2.2.2.2.2.2.1), (hB614044.2.2.2.2.2.2.2.1), (hB614044.2.2.2.2.2.2.2.2)⟩, ht614018, ht614019, ht614020, ht614021, ht614022, ht614023, ht614024, ht614025, ht614026, ht614027, ht614028, ht614029, ht614030, ht614031, ht614032, ht614033, ht614034, ht614035, ht614036, ht614037, ht614038, ht614039, ht614040, ht614041, hB614045⟩
  have hs614078 := rSk_put hst hT614077 n614074 htq613986 (by decide) (by decide)
  have ac614079 : (fI (F614069 q613986) 11).toInt = 0 := by rw [he614072]; show Int32.toInt 0 = 0; decide
  have ac614080 : (fI (F614069 q613986) 14).toInt = 100 := by rw [he614072]; show Int32.toInt 100 = 100; decide
  refine G_aload_n 1 dr_cX17_giveAll_22 rfl ?_
  have rg614081 := rM_ge hT614077 htq613987 hf1
  have rm614082 := rM_bd hB
  have bd614083 := rBd_c hT614077 htq613987 hf1 hB
  have rc614084 := rc_at hT614077 htq613987 hf1
  refine Gw_callV (As := [.ref q613987]) (gV_ok D I) (cg_357033_SpillForgeModel_zeros l hl0 D I γ el f B P613984 F614069 q613986 q613987 hT614077 htq613986 htq613987 hf1 hB hBk (by omega) (by omega)) dr_cX17_giveAll_23 ⟨wr_10_152, wr_1_14, wr_10_155, by decide, rfl, (Nat.le_of_ble_eq_true rfl), (Nat.le_of_ble_eq_true rfl)⟩ wr_10_154 wr_p_93 hm613999 he614072 rfl (rm_gc hph pk613993) (rm_gs hph pk613993) (Nat.le_of_ble_eq_true rfl) (fun r614088 w614089 dc614085 ds614086 hp614087 => ?_) (fun _ _ _ _ _ z => z.elim)
  obtain ⟨P614095, F614096, γ, el, rfl, rfl, hk614097, ⟨hr614098, hr614099⟩, hB614100, x614090, x614091, x614092, x614093, x614094⟩ := hp614087
  have hT614101 := hk614097.1
  have hs614102 := rSk_tr hs614078 hk614097 (by decide) (by decide) (by decide)
  have ht614103 : rKd γ q613986 10 := rSk_k hk614097 htq613986 (by decide) (by decide)
  have ht614104 : rKd γ q613987 9 := rSk_k hk614097 htq613987 (by decide) (by decide)
  have hf614105 : γ 1 q613987 = f := rSk_1 hk614097 htq613987 (by decide) hf1
  clear rg614081 rm614082 bd614083 rc614084
  have mk614106 : mKp (F613985 q613986) (F614096 q613986) := mKp_tr mk614073 (mKp_eq x614094)
  have hph614107 : rPh γ0 el0 f ≤ rPh γ el f := rm_ph hph hr614099
  have pk614108 : rPh γ el f ≤ 387 * B + 6000 := rm_pk (rM_ge hT614101 ht614104 hf614105).1 (rM_bd hB614100)
  change G _ _ _ _ _ _ _ _ _ _ _
  refine G_widen (cs' := ((rPh γ el f - rPh γ0 el0 f) / 18)) (sl' := (rPh γ el f - rPh γ0 el0 f)) (rm_wc hph hr614098) (rm_ws hph hr614099) ?_
  have r614109 : 0 < γ 6 (γ 1 q613987) := by rw [hf614105]; omega
  have ac614110 : (fI (F614096 q613986) 11).toInt = (fI (F614069 q613986) 11).toInt := by rw [x614094]
  have ac614111 : (fI (F614096 q613986) 14).toInt = (fI (F614069 q613986) 14).toInt := by rw [x614094]
  have hm614112 : q613986 ∈ P614095 := RS_m hT614101 ht614103 (by decide)
  refine rk10_e (show rk_10 γ (F614096 q613986) from RS_o hT614101 ht614103) (fun q614114 q614115 p614116 p614117 p614118 p614119 p614120 p614121 p614122 p614123 p614124 p614125 p614126 p614127 p614128 p614129 p614130 he614113 hB614157 ht614131 ht614132 ht614133 ht614134 ht614135 ht614136 ht614137 ht614138 ht614139 ht614140 ht614141 ht614142 ht614143 ht614144 ht614145 ht614146 ht614147 ht614148 ht614149 ht614150 ht614151 ht614152 ht614153 ht614154 hB614158 => ?_)
  have ac614159 : (fI (F614096 q613986) 11).toInt = p614118.toInt := by rw [he614113]; rfl
  have bp614118 : gB p614118 0 100 := (hB614157.2.2.1)
  have ac614160 : (fI (F614096 q613986) 14).toInt = p614121.toInt := by rw [he614113]; rfl
  have bp614121 : gB p614121 0 2000 := (hB614157.2.2.2.1)
  have ni614161 : rNI γ el F614096 q613987 (γ 6 f) (fI (F614096 q613986) 11).toInt := rNI_s (rNI_0 hT614101 ht614104 hf614105 (by omega)) (by omega)
  refine G_iconst 1 dr_cX17_giveAll_26 (by decide +kernel) ?_
  refine G_istore_n (L' := [(3, .int 1), (0, .ref q613986), (1, .ref q613987), (2, .int p613988)]) dr_cX17_giveAll_27 (Nat.le_of_ble_eq_true rfl) rfl ?_
  have hlp28_636188 : ∀ (n28_636188 : Nat) (P636177 : List Nat) (F636178 : Nat → va_E) (γ el : Nat → Nat → Nat) (g636176 : Int32), gB g636176 1 41 → RS D I P636177 F636178 γ el → rSk f [101] ([1, 3, 5, 6, 8, 9, 101] ++ npk) D I P613984 F613985 γ0 el0 P636177 F636178 γ el → rPh γ0 el0 f ≤ rPh γ el f → rBd γ el f B → γ 6 f = γ0 6 f → ((γ 7 f : Nat) : Int) = (fI (F636178 q613986) 11).toInt → ((γ 16 f : Nat) : Int) + 2001 ≤ (B : Int) + (fI (F636178 q613986) 14).toInt → 100 ≤ (fI (F636178 q613986) 14).toInt → rNI γ el F636178 q613987 (γ 6 f) (fI (F636178 q613986) 11).toInt → mKp (F613985 q613986) (F636178 q613986) → ((42 : Int) - g636176.toInt).toNat < n28_636188 → G (gV D I) l (gRm 10 224 (((387 * B + 6000) - rPh γ0 el0 f) / 18) ((387 * B + 6000) - rPh γ0 el0 f)) (gMA (gV D I) (pg_613992_SpillForgeModel_giveAll D I γ0 el0 f B P613984 F613985 q613986 q613987 p613988) gNA (((387 * B + 6000) - rPh γ0 el0 f) / 18) ((387 * B + 6000) - rPh γ0 el0 f)) ky_613992_SpillForgeModel_giveAll 28 [(3, .int g636176), (0, .ref q613986), (1, .ref q613987), (2, .int p613988)] [] (va_pl P636177 F636178) ((rPh γ el f - rPh γ0 el0 f) / 18) (rPh γ el f - rPh γ0 el0 f) := by
    intro n28_636188
    induction n28_636188 with
    | zero => intro P636177 F636178 γ el g636176 bg636176 hT636179 hs636180 hph636181 hB636182 x636183 x636184 x636185 x636186 x636187 x636188 hm28_636188; exact absurd hm28_636188 (Nat.not_lt_zero _)
    | succ n28_636188 ih28_636188 =>
      intro P636177 F636178 γ el g636176 bg636176 hT636179 hs636180 hph636181 hB636182 x636183 x636184 x636185 x636186 x636187 x636188 hm28_636188
      clear r613994 r613995 r613996 r613997 r613998 hr614098 hr614099 hph614107 pk614108 r614109
      have ht636190 : rKd γ q613986 10 := rSk_k hs636180 hzq613986 (by decide) (by decide)
      have ht636191 : rKd γ q613987 9 := rSk_k hs636180 hzq613987 (by decide) (by decide)
      have hf636192 : γ 1 q613987 = f := rSk_1 hs636180 hzq613987 (by decide) hf0
      have pk636193 : rPh γ el f ≤ 387 * B + 6000 := rm_pk (rM_ge hT636179 ht636191 hf636192).1 (rM_bd hB636182)
      have r636194 : 0 < γ 6 (γ 1 q613987) := by rw [hf636192]; omega
      have hm636195 : q613986 ∈ P636177 := RS_m hT636179 ht636190 (by decide)
      refine rk10_e (show rk_10 γ (F636178 q613986) from RS_o hT636179 ht636190) (fun q636197 q636198 p636199 p636200 p636201 p636202 p636203 p636204 p636205 p636206 p636207 p636208 p636209 p636210 p636211 p636212 p636213 he636196 hB636240 ht636214 ht636215 ht636216 ht636217 ht636218 ht636219 ht636220 ht636221 ht636222 ht636223 ht636224 ht636225 ht636226 ht636227 ht636228 ht636229 ht636230 ht636231 ht636232 ht636233 ht636234 ht636235 ht636236 ht636237 hB636241 => ?_)
      have ac636242 : (fI (F636178 q613986) 11).toInt = p636201.toInt := by rw [he636196]; rfl
      have bp636201 : gB p636201 0 100 := (hB636240.2.2.1)
      have ac636243 : (fI (F636178 q613986) 14).toInt = p636204.toInt := by rw [he636196]; rfl
      have bp636204 : gB p636204 0 2000 := (hB636240.2.2.2.1)
      refine G_iload_n 0 dr_cX17_giveAll_28 rfl ?_
      refine G_bipush 40 dr_cX17_giveAll_29 (by decide +kernel) ?_
      refine G_icmp_gt 207 dr_cX17_giveAll_31 (by decide +kernel) (fun hc636244 => ?_) (fun hc636244 => ?_)
      · have r636245 : 40 < g636176.toInt := gj_ltL hc636244 (show Int32.toInt 40 = 40 by decide)
        have bg636176' : gB g636176 41 41 := ⟨by omega, by omega⟩
        refine G_iconst (-1) dr_cX17_giveAll_207 (by decide +kernel) ?_
        exact G_iretA dr_cX17_giveAll_208 rfl (show ((rPh γ el f - rPh γ0 el0 f) / 18) ≤ (((387 * B + 6000) - rPh γ0 el0 f) / 18) by omega) (show (rPh γ el f - rPh γ0 el0 f) ≤ ((387 * B + 6000) - rPh γ0 el0 f) by omega) ⟨P636177, F636178, γ, el, (-1), rfl, rfl, hs636180, ⟨by omega, by omega⟩, hB636182, (gB_w (gBl (show Int32.toInt (-1) = (-1) by decide)) (by decide) (by decide)), (by have qa0 : Int32.toInt (-1) = (-1) := (by decide); omega), x636188⟩
      · have r636246 : g636176.toInt ≤ 40 := gj_nltL hc636244 (show Int32.toInt 40 = 40 by decide)
        have bg636176' : gB g636176 1 40 := ⟨by omega, by omega⟩
        refine G_aload_n 2 dr_cX17_giveAll_34 rfl ?_
        have hm636252 : q613987 ∈ P636177 := RS_m hT636179 ht636191 (by decide)
        obtain ⟨q636254, q636255, p636256, p636257, he636253, ht636273, ht636258, ht636259, ht636260, ht636261, r636262, r636263, r636264, r636265, r636266, r636267, r636268, r636269, r636270, r636271, r636272⟩ := show rk_9 γ el q613987 (F636178 q613987) from RS_o hT636179 ht636191
        have bp636256 : gB p636256 0 1000000 := ⟨by omega, by omega⟩
        have bp636257 : gB p636257 0 1000000 := ⟨by omega, by omega⟩
        have hf636274 : γ 1 q636254 = f := (show γ 1 q636254 = γ 1 q613987 from ht636259).trans hf636192
        have hf636275 : γ 1 q636255 = f := (show γ 1 q636255 = γ 1 q613987 from ht636261).trans hf636192
        have r636276 : γ 6 (γ 1 q613987) = γ 6 f := by rw [hf636192]
        have r636277 : γ 16 (γ 1 q613987) = γ 16 f := by rw [hf636192]
        have r636278 : p636257.toInt = γ 6 f ∧ p636257.toInt ≤ 40 := by omega
        clear r636268
        refine Gw_callV (As := []) (gV_ok D I) (ct_7646_Code_countRows l hl0 D I γ el P636177 F636178 q613987 hT636179 ht636191 (by omega)) dr_cX17_giveAll_35 ⟨wr_10_229, wr_1_15, wr_10_232, by decide, rfl, (Nat.le_of_ble_eq_true rfl), (Nat.le_of_ble_eq_true rfl)⟩ wr_10_230 wr_10_231 hm636252 he636253 rfl (rm_zc pk636193) (rm_zs pk636193) (Nat.le_of_ble_eq_true rfl) (fun r636250 w636251 dc636247 ds636248 hp636249 => ?_) (fun _ _ _ _ _ z => z.elim)
        obtain ⟨o636279, rfl, rfl, hdc, hds⟩ := hp636249
        have bo636279 := gB_any o636279
        change G _ _ _ _ _ _ _ (.int o636279 :: _) _ _ _
        refine G_widen (cs' := ((rPh γ el f - rPh γ0 el0 f) / 18)) (sl' := (rPh γ el f - rPh γ0 el0 f)) (rm_d0 hdc) (rm_d0 hds) ?_
        refine G_sipush 4000 dr_cX17_giveAll_38 (by decide +kernel) ?_
        refine G_icmp_le 46 dr_cX17_giveAll_41 (by decide +kernel) (fun hc636280 => ?_) (fun hc636280 => ?_)
        · have r636281 : o636279.toInt ≤ 4000 := gj_le hc636280 (show Int32.toInt 4000 = 4000 by decide)
          have bo636279' : gB o636279 (-2147483648) 4000 := ⟨by omega, by omega⟩
          refine G_aload_n 1 dr_cX17_giveAll_46 rfl ?_
          refine G_aload_n 2 dr_cX17_giveAll_47 rfl ?_
          refine G_iconst 0 dr_cX17_giveAll_48 (by decide +kernel) ?_
          refine Gw_callV (As := [.ref q613987, .int 0]) (gV_ok D I) (ct_270222_SpillForgeModel_graph l hl0 D I γ el P636177 F636178 q613986 q613987 0 hT636179 ht636190 ht636191 (gB_w (gBl (show Int32.toInt 0 = 0 by decide)) (by decide) (by decide)) (by omega)) dr_cX17_giveAll_49 ⟨wr_10_233, wr_1_14, wr_10_236, by decide, rfl, (Nat.le_of_ble_eq_true rfl), (Nat.le_of_ble_eq_true rfl)⟩ wr_10_235 wr_p_99 hm636195 he636196 rfl (rm_zc pk636193) (rm_zs pk636193) (Nat.le_of_ble_eq_true rfl) (fun r636285 w636286 dc636282 ds636283 hp636284 => ?_) (fun _ _ _ _ _ z => z.elim)
          obtain ⟨F636289, rfl, rfl, hT636290, hs636291, hdc, hds, x636287, x636288⟩ := hp636284
          have he636292 : F636289 q613987 = .inr (18, [.ref q636254, .ref q636255, .int p636256, .int p636257]) := (hs636291 q613987 (rT0 ht636191 (by decide)) (rT1 ht636191 (by decide)) (rT2 ht636191 (by decide))).trans he636253
          have hs636293 := rSk_str hs636180 hT636290 hs636291 (by decide) (by decide) (by decide)
          have kp636294 : F636289 q613986 = F636178 q613986 := x636288
          have mk636295 : mKp (F613985 q613986) (F636289 q613986) := mKp_tr x636188 (mKp_eq x636288)
          have he636296 : F636289 q613986 = .inr (22, [.ref (γ 9 0), .ref (γ 9 1), .ref (γ 9 2), .ref (γ 9 3), .ref (γ 9 4), .ref (γ 9 5), .ref (γ 9 6), .ref (γ 9 7), .ref (γ 9 8), .int p636199, .int p636200, .int p636201, .int p636202, .int p636203, .int p636204, .ref (γ 9 15), .ref (γ 9 16), .ref (γ 9 17), .ref (γ 9 18), .ref (γ 9 19), .ref (γ 9 20), .ref (γ 9 21), .ref (γ 9 22), .int p636205, .int p636206, .int p636207, .int p636208, .int p636209, .ref q636197, .ref (γ 9 29), .int p636210, .ref (γ 9 31), .int p636211, .int p636212, .int p636213, .ref q636198]) := (x636288).trans he636196
          rw [show Int32.toInt 0 = 0 from by decide] at x636287
          change G _ _ _ _ _ _ _ _ _ _ _
          refine G_widen (cs' := ((rPh γ el f - rPh γ0 el0 f) / 18)) (sl' := (rPh γ el f - rPh γ0 el0 f)) (rm_d0 hdc) (rm_d0 hds) ?_
          have ni636297 : rNI γ el F636289 q613987 (γ 6 f) (fI (F636289 q613986) 11).toInt := rNI_s (rNI_str hT636179 ht636191 hf636192 hs636291 (by decide) x636187) (by rw [x636288])
          have gr636298 : rGr γ el F636289 q613987 (γ 6 f) (cB (F636289 (γ0 9 3))) (vA (γ 6 f)) := by have z := x636287 (by decide); rw [hf636192] at z; rw [← congrFun (rSk_9 hs636293) 3]; exact gq_str hT636179 ht636191 hf636192 hs636291 (by decide) z
          have ac636299 : (fI (F636289 q613986) 11).toInt = (fI (F636178 q613986) 11).toInt := by rw [kp636294]
          have ac636300 : (fI (F636289 q613986) 14).toInt = (fI (F636178 q613986) 14).toInt := by rw [kp636294]
          have hlp52_637785 : ∀ (n52_637785 : Nat) (P637773 : List Nat) (F637774 : Nat → va_E) (γ el : Nat → Nat → Nat) , RS D I P637773 F637774 γ el → rSk f [101] ([1, 3, 5, 6, 8, 9, 101] ++ npk) D I P613984 F613985 γ0 el0 P637773 F637774 γ el → rPh γ0 el0 f ≤ rPh γ el f → rBd γ el f B → γ 6 f = γ0 6 f → ((γ 7 f : Nat) : Int) = (fI (F637774 q613986) 11).toInt → ((γ 16 f : Nat) : Int) + 2001 ≤ (B : Int) + (fI (F637774 q613986) 14).toInt → 100 ≤ (fI (F637774 q613986) 14).toInt → rNI γ el F637774 q613987 (γ 6 f) (fI (F637774 q613986) 11).toInt → rGr γ el F637774 q613987 (γ 6 f) (cB (F637774 (γ0 9 3))) (vA (γ 6 f)) → mKp (F613985 q613986) (F637774 q613986) → rsum (fun i => γ 2 (γ 14 (el (γ 14 q613987) i))) (γ 6 f) < n52_637785 → G (gV D I) l (gRm 10 224 (((387 * B + 6000) - rPh γ0 el0 f) / 18) ((387 * B + 6000) - rPh γ0 el0 f)) (gMA (gV D I) (pg_613992_SpillForgeModel_giveAll D I γ0 el0 f B P613984 F613985 q613986 q613987 p613988) gNA (((387 * B + 6000) - rPh γ0 el0 f) / 18) ((387 * B + 6000) - rPh γ0 el0 f)) ky_613992_SpillForgeModel_giveAll 52 [(3, .int g636176), (0, .ref q613986), (1, .ref q613987), (2, .int p613988)] [] (va_pl P637773 F637774) ((rPh γ el f - rPh γ0 el0 f) / 18) (rPh γ el f - rPh γ0 el0 f) := by
            intro n52_637785
            induction n52_637785 with
            | zero => intro P637773 F637774 γ el hT637775 hs637776 hph637777 hB637778 x637779 x637780 x637781 x637782 x637783 x637784 x637785 hm52_637785; exact absurd hm52_637785 (Nat.not_lt_zero _)
            | succ n52_637785 ih52_637785 =>
              intro P637773 F637774 γ el hT637775 hs637776 hph637777 hB637778 x637779 x637780 x637781 x637782 x637783 x637784 x637785 hm52_637785
              clear r636262 r636263 r636264 r636265 r636266 r636267 r636269 r636270 r636271 r636272 bp636256 bp636257 r636276 r636277 r636278
              have ht637787 : rKd γ q613986 10 := rSk_k hs637776 hzq613986 (by decide) (by decide)
              have ht637788 : rKd γ q613987 9 := rSk_k hs637776 hzq613987 (by decide) (by decide)
              have hf637789 : γ 1 q613987 = f := rSk_1 hs637776 hzq613987 (by decide) hf0
              have pk637790 : rPh γ el f ≤ 387 * B + 6000 := rm_pk (rM_ge hT637775 ht637788 hf637789).1 (rM_bd hB637778)
              have r637791 : 0 < γ 6 (γ 1 q613987) := by rw [hf637789]; omega
              have hm637792 : q613986 ∈ P637773 := RS_m hT637775 ht637787 (by decide)
              refine rk10_e (show rk_10 γ (F637774 q613986) from RS_o hT637775 ht637787) (fun q637794 q637795 p637796 p637797 p637798 p637799 p637800 p637801 p637802 p637803 p637804 p637805 p637806 p637807 p637808 p637809 p637810 he637793 hB637837 ht637811 ht637812 ht637813 ht637814 ht637815 ht637816 ht637817 ht637818 ht637819 ht637820 ht637821 ht637822 ht637823 ht637824 ht637825 ht637826 ht637827 ht637828 ht637829 ht637830 ht637831 ht637832 ht637833 ht637834 hB637838 => ?_)
              have ac637839 : (fI (F637774 q613986) 11).toInt = p637798.toInt := by rw [he637793]; rfl
              have bp637798 : gB p637798 0 100 := (hB637837.2.2.1)
              have ac637840 : (fI (F637774 q613986) 14).toInt = p637801.toInt := by rw [he637793]; rfl
              have bp637801 : gB p637801 0 2000 := (hB637837.2.2.2.1)
              refine G_aload_n 1 dr_cX17_giveAll_52 rfl ?_
              refine G_aload_n 2 dr_cX17_giveAll_53 rfl ?_
              refine G_iload_n 3 dr_cX17_giveAll_54 rfl ?_
              have rg637841 := rM_ge hT637775 ht637788 hf637789
              have rm637842 := rM_bd hB637778
              have bd637843 := rBd_c hT637775 ht637788 hf637789 hB637778
              have rc637844 := rc_at hT637775 ht637788 hf637789
              refine Gw_callV (As := [.ref q613987, .int p613988]) (gV_ok D I) (cg_387621_SpillForgeModel_merge l hl0 D I γ el f B P637773 F637774 q613986 q613987 p613988 hT637775 ht637787 ht637788 hf637789 hB637778 hBk (by omega)) dr_cX17_giveAll_55 ⟨wr_11_8, wr_1_14, wr_11_11, by decide, rfl, (Nat.le_of_ble_eq_true rfl), (Nat.le_of_ble_eq_true rfl)⟩ wr_11_10 wr_p_101 hm637792 he637793 rfl (rm_gc hph637777 pk637790) (rm_gs hph637777 pk637790) (Nat.le_of_ble_eq_true rfl) (fun r637848 w637849 dc637845 ds637846 hp637847 => ?_) (fun _ _ _ _ _ z => z.elim)
              obtain ⟨P637861, F637862, γ, el, o637850, rfl, rfl, hk637863, ⟨hr637864, hr637865⟩, hB637866, bo637850, x637851, x637852, x637853, x637854, x637855, x637856, x637857, x637858, x637859, x637860⟩ := hp637847
              have hT637867 := hk637863.1
              have hs637868 := rSk_tr hs637776 hk637863 (by decide) (by decide) (by decide)
              have ht637869 : rKd γ q613986 10 := rSk_k hk637863 ht637787 (by decide) (by decide)
              have ht637870 : rKd γ q613987 9 := rSk_k hk637863 ht637788 (by decide) (by decide)
              have hf637871 : γ 1 q613987 = f := rSk_1 hk637863 ht637788 (by decide) hf637789
              clear rg637841 rm637842 bd637843 rc637844
              have mk637872 : mKp (F613985 q613986) (F637862 q613986) := mKp_tr x637785 x637860
              have hph637873 : rPh γ0 el0 f ≤ rPh γ el f := rm_ph hph637777 hr637865
              have pk637874 : rPh γ el f ≤ 387 * B + 6000 := rm_pk (rM_ge hT637867 ht637870 hf637871).1 (rM_bd hB637866)
              change G _ _ _ _ _ _ _ (.int o637850 :: _) _ _ _
              refine G_widen (cs' := ((rPh γ el f - rPh γ0 el0 f) / 18)) (sl' := (rPh γ el f - rPh γ0 el0 f)) (rm_wc hph637777 hr637864) (rm_ws hph637777 hr637865) ?_
              have r637875 : 0 < γ 6 (γ 1 q613987) := by rw [hf637871]; omega
              have hm637876 : q613986 ∈ P637861 := RS_m hT637867 ht637869 (by decide)
              refine rk10_e (show rk_10 γ (F637862 q613986) from RS_o hT637867 ht637869) (fun q637878 q637879 p637880 p637881 p637882 p637883 p637884 p637885 p637886 p637887 p637888 p637889 p637890 p637891 p637892 p637893 p637894 he637877 hB637921 ht637895 ht637896 ht637897 ht637898 ht637899 ht637900 ht637901 ht637902 ht637903 ht637904 ht637905 ht637906 ht637907 ht637908 ht637909 ht637910 ht637911 ht637912 ht637913 ht637914 ht637915 ht637916 ht637917 ht637918 hB637922 => ?_)
              have ac637923 : (fI (F637862 q613986) 11).toInt = p637882.toInt := by rw [he637877]; rfl
              have bp637882 : gB p637882 0 100 := (hB637921.2.2.1)
              have ac637924 : (fI (F637862 q613986) 14).toInt = p637885.toInt := by rw [he637877]; rfl
              have bp637885 : gB p637885 0 2000 := (hB637921.2.2.2.1)
              have ni637925 : rNI γ el F637862 q613987 (γ 6 f) (fI (F637862 q613986) 11).toInt := rNI_s (rNI_mg x637856 x637783) x637857
              refine G_if_eq 70 dr_cX17_giveAll_58 (by decide +kernel) (fun hc637926 => ?_) (fun hc637926 => ?_)
              · have r637927 : o637850.toInt = 0 := gj_eq hc637926 (show Int32.toInt 0 = 0 by decide)
                have bo637850' : gB o637850 0 0 := gB_t0 r637927
                have r637928 := x637859 (by omega)
                have gr637929 : rGr γ el F637862 q613987 (γ 6 f) (cB (F637862 (γ0 9 3))) (vA (γ 6 f)) := by rw [r637928.1, r637928.2.1, r637928.2.2]; exact x637784
                refine G_aload_n 1 dr_cX17_giveAll_70 rfl ?_
                refine G_aload_n 2 dr_cX17_giveAll_71 rfl ?_
                refine Gw_callV (As := [.ref q613987]) (gV_ok D I) (ct_398626_SpillForgeModel_weigh l hl0 D I γ el P637861 F637862 q613986 q613987 hT637867 ht637869 ht637870 (by omega)) dr_cX17_giveAll_72 ⟨wr_11_33, wr_1_14, wr_11_36, by decide, rfl, (Nat.le_of_ble_eq_true rfl), (Nat.le_of_ble_eq_true rfl)⟩ wr_11_35 wr_p_104 hm637876 he637877 rfl (rm_zc pk637874) (rm_zs pk637874) (Nat.le_of_ble_eq_true rfl) (fun r637933 w637934 dc637930 ds637931 hp637932 => ?_) (fun _ _ _ _ _ z => z.elim)
                obtain ⟨F637937, rfl, rfl, hT637938, hs637939, hdc, hds, x637935, x637936⟩ := hp637932
                have hs637940 := rSk_str hs637868 hT637938 hs637939 (by decide) (by decide) (by decide)
                have kp637941 : F637937 q613986 = F637862 q613986 := x637935
                have kp637942 : F637937 (γ0 9 3) = F637862 (γ0 9 3) := (show F637937 (γ0 9 3) = F637862 (γ0 9 3) by rw [← congrFun (rSk_9 hs637940) 3]; exact x637936)
                have mk637943 : mKp (F613985 q613986) (F637937 q613986) := mKp_tr mk637872 (mKp_eq x637935)
                have he637944 : F637937 q613986 = .inr (22, [.ref (γ 9 0), .ref (γ 9 1), .ref (γ 9 2), .ref (γ 9 3), .ref (γ 9 4), .ref (γ 9 5), .ref (γ 9 6), .ref (γ 9 7), .ref (γ 9 8), .int p637880, .int p637881, .int p637882, .int p637883, .int p637884, .int p637885, .ref (γ 9 15), .ref (γ 9 16), .ref (γ 9 17), .ref (γ 9 18), .ref (γ 9 19), .ref (γ 9 20), .ref (γ 9 21), .ref (γ 9 22), .int p637886, .int p637887, .int p637888, .int p637889, .int p637890, .ref q637878, .ref (γ 9 29), .int p637891, .ref (γ 9 31), .int p637892, .int p637893, .int p637894, .ref q637879]) := (x637935).trans he637877
                change G _ _ _ _ _ _ _ _ _ _ _
                refine G_widen (cs' := ((rPh γ el f - rPh γ0 el0 f) / 18)) (sl' := (rPh γ el f - rPh γ0 el0 f)) (rm_d0 hdc) (rm_d0 hds) ?_
                have ni637945 : rNI γ el F637937 q613987 (γ 6 f) (fI (F637937 q613986) 11).toInt := rNI_s (rNI_str hT637867 ht637870 hf637871 hs637939 (by decide) ni637925) (by rw [x637935])
                have gr637946 : rGr γ el F637937 q613987 (γ 6 f) (cB (F637937 (γ0 9 3))) (vA (γ 6 f)) := by rw [← congrFun (rSk_9 hs637940) 3, x637936, congrFun (rSk_9 hs637940) 3]; exact gq_str hT637867 ht637870 hf637871 hs637939 (by decide) gr637929
                have ac637947 : (fI (F637937 q613986) 11).toInt = (fI (F637862 q613986) 11).toInt := by rw [kp637941]
                have ac637948 : (fI (F637937 q613986) 14).toInt = (fI (F637862 q613986) 14).toInt := by rw [kp637941]
                refine G_aload_n 1 dr_cX17_giveAll_75 rfl ?_
                refine G_iload_n 3 dr_cX17_giveAll_76 rfl ?_
                refine Gw_callV (As := [.int p613988]) (gV_ok D I) (ct_327419_SpillForgeModel_colours l hl0 D I γ el P637861 F637937 q613986 p613988 hT637938 ht637869 bp613988) dr_cX17_giveAll_77 ⟨wr_11_47, wr_1_14, wr_11_50, by decide, rfl, (Nat.le_of_ble_eq_true rfl), (Nat.le_of_ble_eq_true rfl)⟩ wr_11_49 wr_p_106 hm637876 he637944 rfl (rm_zc pk637874) (rm_zs pk637874) (Nat.le_of_ble_eq_true rfl) (fun r637952 w637953 dc637949 ds637950 hp637951 => ?_) (fun _ _ _ _ _ z => z.elim)
                obtain ⟨F637958, o637954, rfl, rfl, hT637959, hs637960, hdc, hds, bo637954, x637955, x637956, x637957⟩ := hp637951
                have hs637961 := rSk_str hs637940 hT637959 hs637960 (by decide) (by decide) (by decide)
                have kp637962 : F637958 q613986 = F637862 q613986 := (x637956).trans kp637941
                have kp637963 : F637958 (γ0 9 3) = F637862 (γ0 9 3) := ((show F637958 (γ0 9 3) = F637937 (γ0 9 3) by rw [← congrFun (rSk_9 hs637961) 3]; exact x637957)).trans kp637942
                have mk637964 : mKp (F613985 q613986) (F637958 q613986) := mKp_tr mk637943 (mKp_eq x637956)
                have he637965 : F637958 q613986 = .inr (22, [.ref (γ 9 0), .ref (γ 9 1), .ref (γ 9 2), .ref (γ 9 3), .ref (γ 9 4), .ref (γ 9 5), .ref (γ 9 6), .ref (γ 9 7), .ref (γ 9 8), .int p637880, .int p637881, .int p637882, .int p637883, .int p637884, .int p637885, .ref (γ 9 15), .ref (γ 9 16), .ref (γ 9 17), .ref (γ 9 18), .ref (γ 9 19), .ref (γ 9 20), .ref (γ 9 21), .ref (γ 9 22), .int p637886, .int p637887, .int p637888, .int p637889, .int p637890, .ref q637878, .ref (γ 9 29), .int p637891, .ref (γ 9 31), .int p637892, .int p637893, .int p637894, .ref q637879]) := (x637956).trans he637944
                change G _ _ _ _ _ _ _ (.int o637954 :: _) _ _ _
                refine G_widen (cs' := ((rPh γ el f - rPh γ0 el0 f) / 18)) (sl' := (rPh γ el f - rPh γ0 el0 f)) (rm_d0 hdc) (rm_d0 hds) ?_
                have ni637966 : rNI γ el F637958 q613987 (γ 6 f) (fI (F637958 q613986) 11).toInt := rNI_s (rNI_str hT637938 ht637870 hf637871 hs637960 (by decide) ni637945) (by rw [x637956])
                have gr637967 : rGr γ el F637958 q613987 (γ 6 f) (cB (F637958 (γ0 9 3))) (vA (γ 6 f)) := by rw [← congrFun (rSk_9 hs637961) 3, x637957, congrFun (rSk_9 hs637961) 3]; exact gq_str hT637938 ht637870 hf637871 hs637960 (by decide) gr637946
                have ac637968 : (fI (F637958 q613986) 11).toInt = (fI (F637862 q613986) 11).toInt := by rw [kp637962]
                have ac637969 : (fI (F637958 q613986) 14).toInt = (fI (F637862 q613986) 14).toInt := by rw [kp637962]
                refine G_istore (L' := [(4, .int o637954), (3, .int g636176), (0, .ref q613986), (1, .ref q613987), (2, .int p613988)]) dr_cX17_giveAll_80 (Nat.le_of_ble_eq_true rfl) rfl ?_
                refine G_iload 0 dr_cX17_giveAll_82 rfl ?_
                refine G_if_ne 180 dr_cX17_giveAll_84 (by decide +kernel) (fun hc637970 => ?_) (fun hc637970 => ?_)
                · have r637971 : o637954.toInt ≠ 0 := gj_neq hc637970 (show Int32.toInt 0 = 0 by decide)
                  have bo637954' : gB o637954 1 2000 := ⟨by omega, by omega⟩
                  have ac637972 : (fI (F637958 q613986) 11).toInt = p637882.toInt := by rw [he637965]; rfl
                  have ac637973 : (fI (F637958 q613986) 14).toInt = p637885.toInt := by rw [he637965]; rfl
                  refine G_aload_n 2 dr_cX17_giveAll_180 rfl ?_
                  refine G_dup dr_cX17_giveAll_181 rfl ?_
                  refine Gp_get 12 hm637876 he637965 dr_cX17_giveAll_182 (gk_X17 D I) (Nat.le_of_ble_eq_true rfl) wr_7_86 rfl ?_
                  have bp637883 : gB p637883 (-2147483648) 2147483647 := (gB_any p637883)
                  refine G_iload 0 dr_cX17_giveAll_185 rfl ?_
                  refine G_iadd dr_cX17_giveAll_187 (G_nam fun z637974 hz637974 => ?_)
                  have bz637974 : gB z637974 (-2147483648) 2147483647 := gB_any z637974
                  refine Gp_put 12 hm637876 he637965 dr_cX17_giveAll_188 (gk_X17 D I) (Nat.le_of_ble_eq_true rfl) wr_7_86 rfl rfl rfl (Nat.le_of_ble_eq_true rfl) (fun F637975 e637976 n637977 => ?_)
                  have he637978 : F637975 q613986 = .inr (22, [.ref (γ 9 0), .ref (γ 9 1), .ref (γ 9 2), .ref (γ 9 3), .ref (γ 9 4), .ref (γ 9 5), .ref (γ 9 6), .ref (γ 9 7), .ref (γ 9 8), .int p637880, .int p637881, .int p637882, .int z637974, .int p637884, .int p637885, .ref (γ 9 15), .ref (γ 9 16), .ref (γ 9 17), .ref (γ 9 18), .ref (γ 9 19), .ref (γ 9 20), .ref (γ 9 21), .ref (γ 9 22), .int p637886, .int p637887, .int p637888, .int p637889, .int p637890, .ref q637878, .ref (γ 9 29), .int p637891, .ref (γ 9 31), .int p637892, .int p637893, .int p637894, .ref q637879]) := e637976
                  have mk637979 : mKp (F613985 q613986) (F637975 q613986) := mKp_tr mk637964 (by rw [he637965, he637978]; exact ⟨rfl, rfl⟩)
                  have kp637980 : F637975 (γ0 9 3) = F637862 (γ0 9 3) := (n637977 (γ0 9 3) (rn_ty (rSk_k hs637961 k0_3 (by decide) (by decide)) ht637869 (by decide))).trans kp637963
                  have kp637981 : F637975 (γ0 9 17) = F637958 (γ0 9 17) := n637977 (γ0 9 17) (rn_ty (rSk_k hs637961 k0_17 (by decide) (by decide)) ht637869 (by decide))
                  have hT637982 : RS D I P637861 F637975 γ el := RS_set hT637959 n637977 ht637869 (by decide) ⟨q637878, q637879, p637880, p637881, p637882, z637974, p637884, p637885, p637886, p637887, p637888, p637889, p637890, p637891, p637892, p637893, p637894, he637978, ⟨(hB637921.1), (hB637921.2.1), bp637882, bp637885, (hB637921.2.2.2.2.1), (hB637921.2.2.2.2.2.1), (hB637921.2.2.2.2.2.2.1), (hB637921.2.2.2.2.2.2.2.1), (hB637921.2.2.2.2.2.2.2.2)⟩, ht637895, ht637896, ht637897, ht637898, ht637899, ht637900, ht637901, ht637902, ht637903, ht637904, ht637905, ht637906, ht637907, ht637908, ht637909, ht637910, ht637911, ht637912, ht637913, ht637914, ht637915, ht637916, ht637917, ht637918, hB637922⟩
                  have hs637983 := rSk_put hs637961 hT637982 n637977 ht637869 (by decide) (by decide)
                  have ac637984 : (fI (F637975 q613986) 11).toInt = p637882.toInt := by rw [he637978]; rfl
                  have ac637985 : (fI (F637975 q613986) 14).toInt = p637885.toInt := by rw [he637978]; rfl
                  have gr637987 := rNI_gr ni637966 gr637967
                  have p3637988 : (fI (F637975 q613986) 11).toInt + (rcn (cB (F637975 (γ0 9 3))) 100 : Nat) ≤ 100 := by rw [(n637977 (γ0 9 3) (rn_ty (rSk_k hs637983 k0_3 (by decide) (by decide)) ht637869 (by decide)))]; have z := gr637987.1; omega
                  have p4637989 : rPl γ el F637975 q613987 (γ 6 f) (fun _ _ => rNx (rSd (cB (F637975 (γ0 9 3))))) := by rw [(n637977 (γ0 9 3) (rn_ty (rSk_k hs637983 k0_3 (by decide) (by decide)) ht637869 (by decide)))]; exact rPl_fr hT637959 ht637870 hf637871 gr637987.2 (fun b hb _ => n637977 b (rn_ty (show rKd γ b 1 from hb) ht637869 (by decide)))
                  refine G_aload_n 2 dr_cX17_giveAll_191 rfl ?_
                  refine G_aload_n 3 dr_cX17_giveAll_192 rfl ?_
                  have rg637990 := rM_ge hT637982 ht637870 hf637871
                  have rm637991 := rM_bd hB637866
                  have bd637992 := rBd_c hT637982 ht637870 hf637871 hB637866
                  have rc637993 := rc_at hT637982 ht637870 hf637871
                  refine Gw_callV (As := [.ref q613987]) (gV_ok D I) (cg_572548_SpillForgeModel_spill l hl0 D I γ el f B P637861 F637975 q613986 q613987 hT637982 ht637869 ht637870 hf637871 hB637866 hBk (by omega) (by omega) (by omega) (by rw [congrFun (rSk_9 hs637983) 3]; exact p3637988) (by rw [congrFun (rSk_9 hs637983) 3]; exact p4637989) (by omega)) dr_cX17_giveAll_193 ⟨wr_11_63, wr_1_14, wr_11_66, by decide, rfl, (Nat.le_of_ble_eq_true rfl), (Nat.le_of_ble_eq_true rfl)⟩ wr_11_65 wr_p_110 hm637876 he637978 rfl (rm_gc hph637873 pk637874) (rm_gs hph637873 pk637874) (Nat.le_of_ble_eq_true rfl) (fun r637997 w637998 dc637994 ds637995 hp637996 => ?_) (fun _ _ _ _ _ z => z.elim)
                  obtain ⟨P638004, F638005, γ, el, o637999, rfl, rfl, hk638006, ⟨hr638007, hr638008⟩, hB638009, bo637999, x638000, x638001, x638002, x638003⟩ := hp637996
                  have hT638010 := hk638006.1
                  have hs638011 := rSk_tr hs637983 hk638006 (by decide) (by decide) (by decide)
                  have ht638012 : rKd γ q613986 10 := rSk_k hk638006 ht637869 (by decide) (by decide)
                  have ht638013 : rKd γ q613987 9 := rSk_k hk638006 ht637870 (by decide) (by decide)
                  have hf638014 : γ 1 q613987 = f := rSk_1 hk638006 ht637870 (by decide) hf637871
                  clear rg637990 rm637991 bd637992 rc637993
                  have mk638015 : mKp (F613985 q613986) (F638005 q613986) := mKp_tr mk637979 x638003
                  have hph638016 : rPh γ0 el0 f ≤ rPh γ el f := rm_ph hph637873 hr638008
                  have pk638017 : rPh γ el f ≤ 387 * B + 6000 := rm_pk (rM_ge hT638010 ht638013 hf638014).1 (rM_bd hB638009)
                  change G _ _ _ _ _ _ _ (.int o637999 :: _) _ _ _
                  refine G_widen (cs' := ((rPh γ el f - rPh γ0 el0 f) / 18)) (sl' := (rPh γ el f - rPh γ0 el0 f)) (rm_wc hph637873 hr638007) (rm_ws hph637873 hr638008) ?_
                  have r638018 : 0 < γ 6 (γ 1 q613987) := by rw [hf638014]; omega
                  have hm638019 : q613986 ∈ P638004 := RS_m hT638010 ht638012 (by decide)
                  refine rk10_e (show rk_10 γ (F638005 q613986) from RS_o hT638010 ht638012) (fun q638021 q638022 p638023 p638024 p638025 p638026 p638027 p638028 p638029 p638030 p638031 p638032 p638033 p638034 p638035 p638036 p638037 he638020 hB638064 ht638038 ht638039 ht638040 ht638041 ht638042 ht638043 ht638044 ht638045 ht638046 ht638047 ht638048 ht638049 ht638050 ht638051 ht638052 ht638053 ht638054 ht638055 ht638056 ht638057 ht638058 ht638059 ht638060 ht638061 hB638065 => ?_)
                  have ac638066 : (fI (F638005 q613986) 11).toInt = p638025.toInt := by rw [he638020]; rfl
                  have bp638025 : gB p638025 0 100 := (hB638064.2.2.1)
                  have ac638067 : (fI (F638005 q613986) 14).toInt = p638028.toInt := by rw [he638020]; rfl
                  have bp638028 : gB p638028 0 2000 := (hB638064.2.2.2.1)
                  refine G_if_ne 201 dr_cX17_giveAll_196 (by decide +kernel) (fun hc638068 => ?_) (fun hc638068 => ?_)
                  · have r638069 : o637999.toInt ≠ 0 := gj_neq hc638068 (show Int32.toInt 0 = 0 by decide)
                    have bo637999' : gB o637999 1 1 := gB_t1 bo637999 r638069
                    have ni638070 := x638001.resolve_left (by omega)
                    clear x638001
                    obtain ⟨rni638070a, rni638070b, rni638070c, rni638070d, rni638070e, rni638070f⟩ := ni638070
                    obtain ⟨z638071, hz638071⟩ : ∃ z : Int32, z = g636176 + Int32.ofInt 1 := ⟨_, rfl⟩
                    have ez638071 : z638071.toInt = g636176.toInt + 1 := gI_inc hz638071 (by decide) bg636176' (by decide) (by decide)
                    have bz638071 : gB z638071 2 41 := ⟨by omega, by omega⟩
                    refine G_iinc (L' := [(3, .int z638071), (4, .int o637954), (0, .ref q613986), (1, .ref q613987), (2, .int p613988)]) z638071 1 dr_cX17_giveAll_201 rfl hz638071.symm (Nat.le_of_ble_eq_true rfl) rfl ?_
                    refine G_goto 28 dr_cX17_giveAll_204 (by decide +kernel) ?_
                    refine G_lv (L' := [(3, .int z638071), (0, .ref q613986), (1, .ref q613987), (2, .int p613988)]) [0, 2, 3, 4] rfl ?_
                    have ac638072 : (fI (F638005 q613986) 11).toInt = p638025.toInt := by rw [he638020]; rfl
                    have ac638073 : (fI (F638005 q613986) 14).toInt = p638028.toInt := by rw [he638020]; rfl
                    exact ih28_636188 P638004 F638005 γ el z638071 (gB_w bz638071 (by decide) (by decide)) hT638010 hs638011 hph638016 hB638009 (by omega) (by omega) (by omega) (by omega) rni638070f mk638015 (by omega)
                  · have r638074 : o637999.toInt = 0 := gj_eq hc638068 (show Int32.toInt 0 = 0 by decide)
                    have bo637999' : gB o637999 0 0 := gB_t0 r638074
                    refine G_iconst (-1) dr_cX17_giveAll_199 (by decide +kernel) ?_
                    exact G_iretA dr_cX17_giveAll_200 rfl (show ((rPh γ el f - rPh γ0 el0 f) / 18) ≤ (((387 * B + 6000) - rPh γ0 el0 f) / 18) by omega) (show (rPh γ el f - rPh γ0 el0 f) ≤ ((387 * B + 6000) - rPh γ0 el0 f) by omega) ⟨P638004, F638005, γ, el, (-1), rfl, rfl, hs638011, ⟨by omega, by omega⟩, hB638009, (gB_w (gBl (show Int32.toInt (-1) = (-1) by decide)) (by decide) (by decide)), (by have qa0 : Int32.toInt (-1) = (-1) := (by decide); omega), mk638015⟩
                · have r638075 : o637954.toInt = 0 := gj_eq hc637970 (show Int32.toInt 0 = 0 by decide)
                  have bo637954' : gB o637954 0 0 := ⟨by omega, by omega⟩
                  have cq638076 : rPl γ el F637958 q613987 (γ 6 f) (cqR (cB (F637958 (γ0 9 17))) 0 0) := cq_0 gr637967 (fun m hm => by have z := x637955 (by omega); rw [congrFun (rSk_9 hs637961) 3, congrFun (rSk_9 hs637961) 17] at z; exact z m hm)
                  refine G_iconst 0 dr_cX17_giveAll_87 (by decide +kernel) ?_
                  refine G_istore (L' := [(5, .int 0), (4, .int o637954), (3, .int g636176), (0, .ref q613986), (1, .ref q613987), (2, .int p613988)]) dr_cX17_giveAll_88 (Nat.le_of_ble_eq_true rfl) rfl ?_
                  have hlp90_638675 : ∀ (n90_638675 : Nat) (P638663 : List Nat) (F638664 : Nat → va_E) (γ el : Nat → Nat → Nat) (g638662 : Int32), gB g638662 0 1000000 → RS D I P638663 F638664 γ el → rSk f [101] ([1, 3, 5, 6, 8, 9, 101] ++ npk) D I P613984 F613985 γ0 el0 P638663 F638664 γ el → rPh γ0 el0 f ≤ rPh γ el f → rBd γ el f B → γ 6 f = γ0 6 f → ((γ 7 f : Nat) : Int) = (fI (F638664 q613986) 11).toInt → ((γ 16 f : Nat) : Int) + 2001 ≤ (B : Int) + (fI (F638664 q613986) 14).toInt → 100 ≤ (fI (F638664 q613986) 14).toInt → (F638664 (γ0 9 17) = F637958 (γ0 9 17)) → rPl γ el F638664 q613987 (γ 6 f) (cqR (cB (F637958 (γ0 9 17))) (g638662.toInt : Int).toNat 0) → mKp (F613985 q613986) (F638664 q613986) → ((1000001 : Int) - g638662.toInt).toNat < n90_638675 → G (gV D I) l (gRm 10 224 (((387 * B + 6000) - rPh γ0 el0 f) / 18) ((387 * B + 6000) - rPh γ0 el0 f)) (gMA (gV D I) (pg_613992_SpillForgeModel_giveAll D I γ0 el0 f B P613984 F613985 q613986 q613987 p613988) gNA (((387 * B + 6000) - rPh γ0 el0 f) / 18) ((387 * B + 6000) - rPh γ0 el0 f)) ky_613992_SpillForgeModel_giveAll 90 [(5, .int g638662), (4, .int o637954), (3, .int g636176), (0, .ref q613986), (1, .ref q613987), (2, .int p613988)] [] (va_pl P638663 F638664) ((rPh γ el f - rPh γ0 el0 f) / 18) (rPh γ el f - rPh γ0 el0 f) := by
                    intro n90_638675
                    induction n90_638675 with
                    | zero => intro P638663 F638664 γ el g638662 bg638662 hT638665 hs638666 hph638667 hB638668 x638669 x638670 x638671 x638672 x638673 x638674 x638675 hm90_638675; exact absurd hm90_638675 (Nat.not_lt_zero _)
                    | succ n90_638675 ih90_638675 =>
                      intro P638663 F638664 γ el g638662 bg638662 hT638665 hs638666 hph638667 hB638668 x638669 x638670 x638671 x638672 x638673 x638674 x638675 hm90_638675
                      clear hr637864 hr637865 hph637873 pk637874 r637875 r637928
                      have ht638677 : rKd γ q613986 10 := rSk_k hs638666 hzq613986 (by decide) (by decide)
                      have ht638678 : rKd γ q613987 9 := rSk_k hs638666 hzq613987 (by decide) (by decide)
                      have hf638679 : γ 1 q613987 = f := rSk_1 hs638666 hzq613987 (by decide) hf0
                      have pk638680 : rPh γ el f ≤ 387 * B + 6000 := rm_pk (rM_ge hT638665 ht638678 hf638679).1 (rM_bd hB638668)
                      have r638681 : 0 < γ 6 (γ 1 q613987) := by rw [hf638679]; omega
                      have hm638682 : q613986 ∈ P638663 := RS_m hT638665 ht638677 (by decide)
                      refine rk10_e (show rk_10 γ (F638664 q613986) from RS_o hT638665 ht638677) (fun q638684 q638685 p638686 p638687 p638688 p638689 p638690 p638691 p638692 p638693 p638694 p638695 p638696 p638697 p638698 p638699 p638700 he638683 hB638727 ht638701 ht638702 ht638703 ht638704 ht638705 ht638706 ht638707 ht638708 ht638709 ht638710 ht638711 ht638712 ht638713 ht638714 ht638715 ht638716 ht638717 ht638718 ht638719 ht638720 ht638721 ht638722 ht638723 ht638724 hB638728 => ?_)
                      have ac638729 : (fI (F638664 q613986) 11).toInt = p638688.toInt := by rw [he638683]; rfl
                      have bp638688 : gB p638688 0 100 := (hB638727.2.2.1)
                      have ac638730 : (fI (F638664 q613986) 14).toInt = p638691.toInt := by rw [he638683]; rfl
                      have bp638691 : gB p638691 0 2000 := (hB638727.2.2.2.1)
                      refine G_iload 0 dr_cX17_giveAll_90 rfl ?_
                      refine G_aload_n 4 dr_cX17_giveAll_92 rfl ?_
                      have hm638731 : q613987 ∈ P638663 := RS_m hT638665 ht638678 (by decide)
                      obtain ⟨q638733, q638734, p638735, p638736, he638732, ht638752, ht638737, ht638738, ht638739, ht638740, r638741, r638742, r638743, r638744, r638745, r638746, r638747, r638748, r638749, r638750, r638751⟩ := show rk_9 γ el q613987 (F638664 q613987) from RS_o hT638665 ht638678
                      have bp638735 : gB p638735 0 1000000 := ⟨by omega, by omega⟩
                      have bp638736 : gB p638736 0 1000000 := ⟨by omega, by omega⟩
                      have hf638753 : γ 1 q638733 = f := (show γ 1 q638733 = γ 1 q613987 from ht638738).trans hf638679
                      have hf638754 : γ 1 q638734 = f := (show γ 1 q638734 = γ 1 q613987 from ht638740).trans hf638679
                      have r638755 : γ 6 (γ 1 q613987) = γ 6 f := by rw [hf638679]
                      have r638756 : γ 16 (γ 1 q613987) = γ 16 f := by rw [hf638679]
                      have r638757 : p638736.toInt = γ 6 f ∧ p638736.toInt ≤ 40 := by omega
                      clear r638747
                      refine Gw_callV (As := []) (gV_ok D I) (cp_12496_Code_size l hl0 D I P638663 F638664 q613987 q638733 q638734 p638735 p638736 hm638731 he638732) dr_cX17_giveAll_93 ⟨wr_10_160, wr_1_15, wr_9_131, by decide, rfl, (Nat.le_of_ble_eq_true rfl), (Nat.le_of_ble_eq_true rfl)⟩ wr_9_129 wr_9_130 hm638731 he638732 rfl (rm_zc pk638680) (rm_zs pk638680) (Nat.le_of_ble_eq_true rfl) (fun r638761 w638762 dc638758 ds638759 hp638760 => ?_) (fun _ _ _ _ _ z => z.elim)
                      obtain ⟨rfl, rfl, hdc, hds⟩ := hp638760
                      change G _ _ _ _ _ _ _ (.int p638736 :: _) _ _ _
                      refine G_widen (cs' := ((rPh γ el f - rPh γ0 el0 f) / 18)) (sl' := (rPh γ el f - rPh γ0 el0 f)) (rm_d0 hdc) (rm_d0 hds) ?_
                      refine G_icmp_ge 173 dr_cX17_giveAll_96 (by decide +kernel) (fun hc638763 => ?_) (fun hc638763 => ?_)
                      · have r638764 : p638736.toInt ≤ g638662.toInt := gC_le hc638763
                        have r638765 : γ 7 (γ 1 q613987) = γ 7 f := by rw [hf638679]
                        have ac638766 : (fI (F638664 q613986) 11).toInt = p638688.toInt := by rw [he638683]; rfl
                        have ac638767 : (fI (F638664 q613986) 14).toInt = p638691.toInt := by rw [he638683]; rfl
                        refine G_aload_n 3 dr_cX17_giveAll_173 rfl ?_
                        refine G_aload_n 4 dr_cX17_giveAll_174 rfl ?_
                        refine Gw_callV (As := [.ref q613987]) (gV_ok D I) (ct_336133_SpillForgeModel_share l hl0 D I γ el P638663 F638664 q613986 q613987 hT638665 ht638677 ht638678 (by omega) (by omega)) dr_cX17_giveAll_175 ⟨wr_11_59, wr_1_14, wr_11_62, by decide, rfl, (Nat.le_of_ble_eq_true rfl), (Nat.le_of_ble_eq_true rfl)⟩ wr_11_61 wr_p_109 hm638682 he638683 rfl (rm_zc pk638680) (rm_zs pk638680) (Nat.le_of_ble_eq_true rfl) (fun r638771 w638772 dc638768 ds638769 hp638770 => ?_) (fun _ _ _ _ _ z => z.elim)
                        obtain ⟨F638774, rfl, rfl, hT638775, hs638776, hdc, hds, x638773⟩ := hp638770
                        have he638777 : F638774 q613987 = .inr (18, [.ref q638733, .ref q638734, .int p638735, .int p638736]) := (hs638776 q613987 (rT0 ht638678 (by decide)) (rT1 ht638678 (by decide)) (rT2 ht638678 (by decide))).trans he638732
                        have hs638778 := rSk_str hs638666 hT638775 hs638776 (by decide) (by decide) (by decide)
                        have mk638779 : mKp (F613985 q613986) (F638774 q613986) := mKp_tr x638675 x638773
                        change G _ _ _ _ _ _ _ _ _ _ _
                        refine G_widen (cs' := ((rPh γ el f - rPh γ0 el0 f) / 18)) (sl' := (rPh γ el f - rPh γ0 el0 f)) (rm_d0 hdc) (rm_d0 hds) ?_
                        refine G_iload_n 2 dr_cX17_giveAll_178 rfl ?_
                        exact G_iretA dr_cX17_giveAll_179 rfl (show ((rPh γ el f - rPh γ0 el0 f) / 18) ≤ (((387 * B + 6000) - rPh γ0 el0 f) / 18) by omega) (show (rPh γ el f - rPh γ0 el0 f) ≤ ((387 * B + 6000) - rPh γ0 el0 f) by omega) ⟨P638663, F638774, γ, el, g636176, rfl, rfl, hs638778, ⟨by omega, by omega⟩, hB638668, (gB_w bg636176' (by decide) (by decide)), (by omega), mk638779⟩
                      · have r638780 : g638662.toInt < p638736.toInt := gC_nle hc638763
                        have bg638662' : gB g638662 0 999999 := ⟨by omega, by omega⟩
                        have bp638736' : gB p638736 1 1000000 := ⟨by omega, by omega⟩
                        refine G_aload_n 4 dr_cX17_giveAll_99 rfl ?_
                        refine G_iload 0 dr_cX17_giveAll_100 rfl ?_
                        have hm638781 : q638733 ∈ P638663 := RS_m hT638665 ht638737 (by decide)
                        obtain ⟨⟨p638783, p638784, q638785, he638782, r638786, r638787, r638788, r638790⟩, r638789⟩ := show rk_4 D I γ el F638664 q638733 from RS_o hT638665 ht638737
                        have bp638783 := gB_any p638783
                        have bp638784 : gB p638784 0 1000000 := ⟨by omega, by omega⟩
                        obtain ⟨r638791, r638792, n638799, f638800, r638793, r638794, r638795, r638796, r638797, r638798⟩ := rLC_n r638788 (by omega)
                        have hm638801 : q638785 ∈ P638663 := RS_m hT638665 r638791 (by decide)
                        obtain ⟨q638802, hx638803⟩ : ∃ x, x = el q638733 g638662.toInt.toNat := ⟨_, rfl⟩
                        have hx638804 : f638800 g638662.toNatClampNeg = some q638802 := (r638797 _ (show g638662.toInt.toNat < γ 2 q638733 by first | assumption | omega)).trans (by rw [hx638803])
                        have ht638807 : rKd γ q638802 2 := by rw [hx638803]; exact (r638748 _ (by omega)).resolve_right (fun z => absurd z.1 (by omega))
                        have ht638808 : rFm γ q638802 q638733 := by rw [hx638803]; exact (r638789 _ (show g638662.toInt.toNat < γ 2 q638733 by omega)).2.1
                        have hm638809 : q638802 ∈ P638663 := RS_m hT638665 ht638807 (by decide)
                        obtain ⟨q638811, q638812, p638813, p638814, he638810, ht638821, ht638815, ht638816, ht638817, ht638818, ht638819, bp638813, bp638814, r638820, r638822, r638823⟩ := show rk_2 γ q638802 (F638664 q638802) from RS_o hT638665 ht638807
                        refine Gw_callV (As := [.int g638662]) (gV_ok D I) (cp_7737_Code_get l hl0 D I P638663 F638664 q613987 q638733 q638785 g638662 q638734 p638735 p638736 p638783 p638784 f638800 n638799 q638802 q638811 q638812 p638813 p638814 hm638731 hm638781 hm638801 hm638809 he638732 he638782 r638793 he638810 (gB_w bg638662' (by decide) (by decide)) (gB_w bp638784 (by decide) (by decide)) (by omega) (by omega) (by assumption) (by omega)) dr_cX17_giveAll_102 ⟨wr_10_161, wr_1_15, wr_10_141, by decide, rfl, (Nat.le_of_ble_eq_true rfl), (Nat.le_of_ble_eq_true rfl)⟩ wr_10_139 wr_10_140 hm638731 he638732 rfl (rm_zc pk638680) (rm_zs pk638680) (Nat.le_of_ble_eq_true rfl) (fun r638827 w638828 dc638824 ds638825 hp638826 => ?_) (fun _ _ _ _ _ z => z.elim)
                        obtain ⟨rfl, rfl, hdc, hds⟩ := hp638826
                        change G _ _ _ _ _ _ _ (.ref q638802 :: _) _ _ _
                        refine G_widen (cs' := ((rPh γ el f - rPh γ0 el0 f) / 18)) (sl' := (rPh γ el f - rPh γ0 el0 f)) (rm_d0 hdc) (rm_d0 hds) ?_
                        have hf638829 : γ 1 q638802 = f := (show γ 1 q638802 = γ 1 q638733 from ht638808).trans ((show γ 1 q638733 = γ 1 q613987 from ht638738).trans hf638679)
                        have hf638830 : γ 1 q638811 = f := (show γ 1 q638811 = γ 1 q638802 from ht638816).trans hf638829
                        have hf638831 : γ 1 q638812 = f := (show γ 1 q638812 = γ 1 q638802 from ht638818).trans hf638829
                        have r638832 : γ 6 (γ 1 q638802) = γ 6 f := by rw [hf638829]
                        have r638833 : γ 7 (γ 1 q638802) = γ 7 f := by rw [hf638829]
                        have r638834 : γ 19 (γ 1 q638802) = γ 19 f := by rw [hf638829]
                        have r638835 := r638820.resolve_left (by omega)
                        clear r638820
                        have r638836 : γ 2 (γ 14 q638802) = γ 2 q638811 := by rw [ht638821.1]
                        have r638837 : g638662.toInt.toNat < γ 2 (γ 14 q613987) := by rw [ht638752.1]; omega
                        have r638838 : el (γ 14 q613987) g638662.toInt.toNat = q638802 := by rw [ht638752.1, hx638803]
                        refine G_astore (L' := [(6, .ref q638802), (5, .int g638662), (4, .int o637954), (3, .int g636176), (0, .ref q613986), (1, .ref q613987), (2, .int p613988)]) dr_cX17_giveAll_105 (Nat.le_of_ble_eq_true rfl) rfl ?_
                        refine G_iconst 0 dr_cX17_giveAll_107 (by decide +kernel) ?_
                        refine G_istore (L' := [(7, .int 0), (6, .ref q638802), (5, .int g638662), (4, .int o637954), (3, .int g636176), (0, .ref q613986), (1, .ref q613987), (2, .int p613988)]) dr_cX17_giveAll_108 (Nat.le_of_ble_eq_true rfl) rfl ?_
                        have hlp110_639061 : ∀ (n110_639061 : Nat) (P639043 : List Nat) (F639044 : Nat → va_E) (γ el : Nat → Nat → Nat) (g639042 : Int32), gB g639042 0 1000001 → RS D I P639043 F639044 γ el → rSk f [101] ([1, 3, 5, 6, 8, 9, 101] ++ npk) D I P613984 F613985 γ0 el0 P639043 F639044 γ el → rPh γ0 el0 f ≤ rPh γ el f → rBd γ el f B → rKd γ q638802 2 → γ 1 q638802 = f → g638662.toInt.toNat < γ 2 (γ 14 q613987) → el (γ 14 q613987) g638662.toInt.toNat = q638802 → γ 6 f = γ0 6 f → ((γ 7 f : Nat) : Int) = (fI (F639044 q613986) 11).toInt → ((γ 16 f : Nat) : Int) + 2001 ≤ (B : Int) + (fI (F639044 q613986) 14).toInt → 100 ≤ (fI (F639044 q613986) 14).toInt → (F639044 (γ0 9 17) = F637958 (γ0 9 17)) → rPl γ el F639044 q613987 (γ 6 f) (cqR (cB (F637958 (γ0 9 17))) (g638662.toInt : Int).toNat (g639042.toInt : Int).toNat) → (g639042.toInt : Int) ≤ γ 2 (γ 14 q638802) + 1 → (g638662.toInt : Int) < γ 6 f → mKp (F613985 q613986) (F639044 q613986) → ((1000002 : Int) - g639042.toInt).toNat < n110_639061 → G (gV D I) l (gRm 10 224 (((387 * B + 6000) - rPh γ0 el0 f) / 18) ((387 * B + 6000) - rPh γ0 el0 f)) (gMA (gV D I) (pg_613992_SpillForgeModel_giveAll D I γ0 el0 f B P613984 F613985 q613986 q613987 p613988) gNA (((387 * B + 6000) - rPh γ0 el0 f) / 18) ((387 * B + 6000) - rPh γ0 el0 f)) ky_613992_SpillForgeModel_giveAll 110 [(7, .int g639042), (6, .ref q638802), (5, .int g638662), (4, .int o637954), (3, .int g636176), (0, .ref q613986), (1, .ref q613987), (2, .int p613988)] [] (va_pl P639043 F639044) ((rPh γ el f - rPh γ0 el0 f) / 18) (rPh γ el f - rPh γ0 el0 f) := by
                          intro n110_639061
                          induction n110_639061 with
                          | zero => intro P639043 F639044 γ el g639042 bg639042 hT639045 hs639046 hph639047 hB639048 ht639049 hf639050 r639051 r639052 x639053 x639054 x639055 x639056 x639057 x639058 x639059 x639060 x639061 hm110_639061; exact absurd hm110_639061 (Nat.not_lt_zero _)
                          | succ n110_639061 ih110_639061 =>
                            intro P639043 F639044 γ el g639042 bg639042 hT639045 hs639046 hph639047 hB639048 ht639049 hf639050 r639051 r639052 x639053 x639054 x639055 x639056 x639057 x639058 x639059 x639060 x639061 hm110_639061
                            clear r638741 r638742 r638743 r638744 r638745 r638746 r638748 r638749 r638750 r638751 bp638735 bp638736 bp638813 bp638814 r638822 r638823 r638755 r638756 r638757 r638786 r638787 r638788 r638790 r638789 r638791 r638792 r638793 r638794 r638795 r638796 r638797 r638798 r638832 r638833 r638834 r638835 r638836 r638837 r638838
                            have ht639063 : rKd γ q613986 10 := rSk_k hs639046 hzq613986 (by decide) (by decide)
                            have ht639064 : rKd γ q613987 9 := rSk_k hs639046 hzq613987 (by decide) (by decide)
                            have hf639065 : γ 1 q613987 = f := rSk_1 hs639046 hzq613987 (by decide) hf0
                            have pk639066 : rPh γ el f ≤ 387 * B + 6000 := rm_pk (rM_ge hT639045 ht639064 hf639065).1 (rM_bd hB639048)
                            have r639067 : 0 < γ 6 (γ 1 q613987) := by rw [hf639065]; omega
                            have hm639068 : q613986 ∈ P639043 := RS_m hT639045 ht639063 (by decide)
                            refine rk10_e (show rk_10 γ (F639044 q613986) from RS_o hT639045 ht639063) (fun q639070 q639071 p639072 p639073 p639074 p639075 p639076 p639077 p639078 p639079 p639080 p639081 p639082 p639083 p639084 p639085 p639086 he639069 hB639113 ht639087 ht639088 ht639089 ht639090 ht639091 ht639092 ht639093 ht639094 ht639095 ht639096 ht639097 ht639098 ht639099 ht639100 ht639101 ht639102 ht639103 ht639104 ht639105 ht639106 ht639107 ht639108 ht639109 ht639110 hB639114 => ?_)
                            have ac639115 : (fI (F639044 q613986) 11).toInt = p639074.toInt := by rw [he639069]; rfl
                            have bp639074 : gB p639074 0 100 := (hB639113.2.2.1)
                            have ac639116 : (fI (F639044 q613986) 14).toInt = p639077.toInt := by rw [he639069]; rfl
                            have bp639077 : gB p639077 0 2000 := (hB639113.2.2.2.1)
                            refine G_iload 0 dr_cX17_giveAll_110 rfl ?_
                            refine G_aload 1 dr_cX17_giveAll_112 rfl ?_
                            have hm639117 : q638802 ∈ P639043 := RS_m hT639045 ht639049 (by decide)
                            obtain ⟨q639119, q639120, p639121, p639122, he639118, ht639129, ht639123, ht639124, ht639125, ht639126, ht639127, bp639121, bp639122, r639128, r639130, r639131⟩ := show rk_2 γ q638802 (F639044 q638802) from RS_o hT639045 ht639049
                            have hf639132 : γ 1 q639119 = f := (show γ 1 q639119 = γ 1 q638802 from ht639124).trans hf639050
                            have hf639133 : γ 1 q639120 = f := (show γ 1 q639120 = γ 1 q638802 from ht639126).trans hf639050
                            have r639134 : γ 6 (γ 1 q638802) = γ 6 f := by rw [hf639050]
                            have r639135 : γ 7 (γ 1 q638802) = γ 7 f := by rw [hf639050]
                            have r639136 : γ 19 (γ 1 q638802) = γ 19 f := by rw [hf639050]
                            have r639137 := r639128.resolve_left (by omega)
                            clear r639128
                            have r639138 : γ 2 (γ 14 q638802) = γ 2 q639119 := by rw [ht639129.1]
                            refine Gp_get 0 hm639117 he639118 dr_cX17_giveAll_114 (gk_X12 D I) (Nat.le_of_ble_eq_true rfl) wr_9_220 rfl ?_
                            have hm639139 : q639119 ∈ P639043 := RS_m hT639045 ht639123 (by decide)
                            obtain ⟨⟨p639141, p639142, q639143, he639140, r639144, r639145, r639146, r639148⟩, r639147⟩ := show rk_3 D I γ el F639044 q639119 from RS_o hT639045 ht639123
                            have bp639141 := gB_any p639141
                            have bp639142 : gB p639142 0 1000000 := ⟨by omega, by omega⟩
                            refine Gw_callV (As := []) (gV_ok D I) (cp_7_ArrayList_size l hl0 D I P639043 F639044 q639119 p639141 q639143 p639142 hm639139 he639140 (gB_w bp639142 (by decide) (by decide))) dr_cX17_giveAll_117 ⟨wr_10_200, wr_1_18, wr_9_160, by decide, rfl, (Nat.le_of_ble_eq_true rfl), (Nat.le_of_ble_eq_true rfl)⟩ wr_9_158 wr_9_159 hm639139 he639140 rfl (rm_zc pk639066) (rm_zs pk639066) (Nat.le_of_ble_eq_true rfl) (fun r639152 w639153 dc639149 ds639150 hp639151 => ?_) (fun _ _ _ _ _ z => z.elim)
                            obtain ⟨rfl, rfl, hdc, hds⟩ := hp639151
                            change G _ _ _ _ _ _ _ (.int p639142 :: _) _ _ _
                            refine G_widen (cs' := ((rPh γ el f - rPh γ0 el0 f) / 18)) (sl' := (rPh γ el f - rPh γ0 el0 f)) (rm_d0 hdc) (rm_d0 hds) ?_
                            refine G_icmp_gt 167 dr_cX17_giveAll_120 (by decide +kernel) (fun hc639154 => ?_) (fun hc639154 => ?_)
                            · have r639155 : p639142.toInt < g639042.toInt := gC_lt hc639154
                              have bg639042' : gB g639042 1 1000001 := ⟨by omega, by omega⟩
                              obtain ⟨z639156, hz639156⟩ : ∃ z : Int32, z = g638662 + Int32.ofInt 1 := ⟨_, rfl⟩
                              have ez639156 : z639156.toInt = g638662.toInt + 1 := gI_inc hz639156 (by decide) bg638662' (by decide) (by decide)
                              have bz639156 : gB z639156 1 1000000 := ⟨by omega, by omega⟩
                              refine G_iinc (L' := [(5, .int z639156), (7, .int g639042), (6, .ref q638802), (4, .int o637954), (3, .int g636176), (0, .ref q613986), (1, .ref q613987), (2, .int p613988)]) z639156 2 dr_cX17_giveAll_167 rfl hz639156.symm (Nat.le_of_ble_eq_true rfl) rfl ?_
                              refine G_goto 90 dr_cX17_giveAll_170 (by decide +kernel) ?_
                              refine G_lv (L' := [(5, .int z639156), (4, .int o637954), (3, .int g636176), (0, .ref q613986), (1, .ref q613987), (2, .int p613988)]) [0, 3, 4, 5, 6, 7] rfl ?_
                              have ac639157 : (fI (F639044 q613986) 11).toInt = p639074.toInt := by rw [he639069]; rfl
                              have ac639158 : (fI (F639044 q613986) 14).toInt = p639077.toInt := by rw [he639069]; rfl
                              exact ih90_638675 P639043 F639044 γ el z639156 (gB_w bz639156 (by decide) (by decide)) hT639045 hs639046 hph639047 hB639048 (by omega) (by omega) (by omega) (by omega) x639057 (cq_nx x639058 (by omega)) x639061 (by omega)
                            · have r639159 : g639042.toInt ≤ p639142.toInt := gC_nlt hc639154
                              have bg639042' : gB g639042 0 1000000 := ⟨by omega, by omega⟩
                              refine G_aload_n 5 dr_cX17_giveAll_123 rfl ?_
                              refine G_iload 0 dr_cX17_giveAll_124 rfl ?_
                              refine G_aload 1 dr_cX17_giveAll_126 rfl ?_
                              refine Gp_get 0 hm639117 he639118 dr_cX17_giveAll_128 (gk_X12 D I) (Nat.le_of_ble_eq_true rfl) wr_9_220 rfl ?_
                              refine Gw_callV (As := []) (gV_ok D I) (cp_7_ArrayList_size l hl0 D I P639043 F639044 q639119 p639141 q639143 p639142 hm639139 he639140 (gB_w bp639142 (by decide) (by decide))) dr_cX17_giveAll_131 ⟨wr_10_200, wr_1_18, wr_9_160, by decide, rfl, (Nat.le_of_ble_eq_true rfl), (Nat.le_of_ble_eq_true rfl)⟩ wr_9_158 wr_9_159 hm639139 he639140 rfl (rm_zc pk639066) (rm_zs pk639066) (Nat.le_of_ble_eq_true rfl) (fun r639163 w639164 dc639160 ds639161 hp639162 => ?_) (fun _ _ _ _ _ z => z.elim)
                              obtain ⟨rfl, rfl, hdc, hds⟩ := hp639162
                              change G _ _ _ _ _ _ _ (.int p639142 :: _) _ _ _
                              refine G_widen (cs' := ((rPh γ el f - rPh γ0 el0 f) / 18)) (sl' := (rPh γ el f - rPh γ0 el0 f)) (rm_d0 hdc) (rm_d0 hds) ?_
                              refine G_icmp_ge 153 dr_cX17_giveAll_134 (by decide +kernel) (fun hc639165 => ?_) (fun hc639165 => ?_)
                              · have r639166 : p639142.toInt ≤ g639042.toInt := gC_le hc639165
                                refine G_aload 1 dr_cX17_giveAll_153 rfl ?_
                                refine Gp_get 1 hm639117 he639118 dr_cX17_giveAll_155 (gk_X12 D I) (Nat.le_of_ble_eq_true rfl) wr_9_223 rfl ?_
                                have fl639169 : p639142.toInt = γ 2 q639119 := r639144
                                have hp639167 : rAt γ el q613987 (g638662.toInt : Int).toNat (g639042.toInt : Int).toNat = q639120 := (rAt_e r639052 ht639129.1 (by omega)).trans ht639129.2.1
                                have hL639168 : (g639042.toInt : Int).toNat ≤ γ 2 (rwL γ el q613987 (g638662.toInt : Int).toNat) := by unfold rwL; rw [r639052, ht639129.1]; omega
                                have cn639170 : rNm (fun n => 0 ≤ (cB (F639044 (γ 9 17)) n).toInt) (F639044 q639120) := by rw [congrFun (rSk_9 hs639046) 17, x639057]; exact cq_at x639058 hp639167 (show (g638662.toInt : Int).toNat < γ 6 f by omega) hL639168
                                refine Gw_callV (As := [.ref q639120]) (gV_ok D I) (ct_335892_SpillForgeModel_coloured l hl0 D I γ el P639043 F639044 q613986 q639120 hT639045 ht639063 ht639125 (by omega)) dr_cX17_giveAll_158 ⟨wr_11_55, wr_1_14, wr_11_58, by decide, rfl, (Nat.le_of_ble_eq_true rfl), (Nat.le_of_ble_eq_true rfl)⟩ wr_11_57 wr_p_108 hm639068 he639069 rfl (rm_zc pk639066) (rm_zs pk639066) (Nat.le_of_ble_eq_true rfl) (fun r639174 w639175 dc639171 ds639172 hp639173 => ?_) (fun _ _ _ _ _ z => z.elim)
                                obtain ⟨F639180, rfl, rfl, hT639181, hs639182, hdc, hds, x639176, x639177, x639178, x639179⟩ := hp639173
                                have he639183 : F639180 q638802 = .inr (17, [.ref q639119, .ref q639120, .int p639121, .int p639122]) := (hs639182 q638802 (rT0 ht639049 (by decide)) (rT1 ht639049 (by decide)) (rT2 ht639049 (by decide))).trans he639118
                                have he639184 : F639180 q639119 = .inr (4, [.int p639141, .ref q639143, .int p639142]) := (hs639182 q639119 (rT0 ht639123 (by decide)) (rT1 ht639123 (by decide)) (rT2 ht639123 (by decide))).trans he639140
                                have hs639185 := rSk_str hs639046 hT639181 hs639182 (by decide) (by decide) (by decide)
                                have kp639186 : F639180 q613986 = F639044 q613986 := x639177
                                have kp639187 : F639180 (γ0 9 3) = F639044 (γ0 9 3) := (show F639180 (γ0 9 3) = F639044 (γ0 9 3) by rw [← congrFun (rSk_9 hs639185) 3]; exact x639178)
                                have kp639188 : F639180 (γ0 9 17) = F637958 (γ0 9 17) := ((show F639180 (γ0 9 17) = F639044 (γ0 9 17) by rw [← congrFun (rSk_9 hs639185) 17]; exact x639179)).trans x639057
                                have mk639189 : mKp (F613985 q613986) (F639180 q613986) := mKp_tr x639061 (mKp_eq x639177)
                                have he639190 : F639180 q613986 = .inr (22, [.ref (γ 9 0), .ref (γ 9 1), .ref (γ 9 2), .ref (γ 9 3), .ref (γ 9 4), .ref (γ 9 5), .ref (γ 9 6), .ref (γ 9 7), .ref (γ 9 8), .int p639072, .int p639073, .int p639074, .int p639075, .int p639076, .int p639077, .ref (γ 9 15), .ref (γ 9 16), .ref (γ 9 17), .ref (γ 9 18), .ref (γ 9 19), .ref (γ 9 20), .ref (γ 9 21), .ref (γ 9 22), .int p639078, .int p639079, .int p639080, .int p639081, .int p639082, .ref q639070, .ref (γ 9 29), .int p639083, .ref (γ 9 31), .int p639084, .int p639085, .int p639086, .ref q639071]) := (x639177).trans he639069
                                change G _ _ _ _ _ _ _ _ _ _ _
                                refine G_widen (cs' := ((rPh γ el f - rPh γ0 el0 f) / 18)) (sl' := (rPh γ el f - rPh γ0 el0 f)) (rm_d0 hdc) (rm_d0 hds) ?_
                                have cq639191 := cq_put (j1 := (g639042.toInt : Int).toNat + 1) hT639045 ht639064 hf639065 x639058 x639176 hp639167 (show (g638662.toInt : Int).toNat < γ 6 f by omega) hL639168 rfl
                                have ac639192 : (fI (F639180 q613986) 11).toInt = (fI (F639044 q613986) 11).toInt := by rw [kp639186]
                                have ac639193 : (fI (F639180 q613986) 14).toInt = (fI (F639044 q613986) 14).toInt := by rw [kp639186]
                                obtain ⟨z639194, hz639194⟩ : ∃ z : Int32, z = g639042 + Int32.ofInt 1 := ⟨_, rfl⟩
                                have ez639194 : z639194.toInt = g639042.toInt + 1 := gI_inc hz639194 (by decide) bg639042' (by decide) (by decide)
                                have bz639194 : gB z639194 1 1000001 := ⟨by omega, by omega⟩
                                refine G_iinc (L' := [(7, .int z639194), (6, .ref q638802), (5, .int g638662), (4, .int o637954), (3, .int g636176), (0, .ref q613986), (1, .ref q613987), (2, .int p613988)]) z639194 0 dr_cX17_giveAll_161 rfl hz639194.symm (Nat.le_of_ble_eq_true rfl) rfl ?_
                                refine G_goto 110 dr_cX17_giveAll_164 (by decide +kernel) ?_
                                have ac639195 : (fI (F639180 q613986) 11).toInt = p639074.toInt := by rw [he639190]; rfl
                                have ac639196 : (fI (F639180 q613986) 14).toInt = p639077.toInt := by rw [he639190]; rfl
                                exact ih110_639061 P639043 F639180 γ el z639194 (gB_w bz639194 (by decide) (by decide)) hT639181 hs639185 hph639047 hB639048 ht639049 hf639050 r639051 r639052 (by omega) (by omega) (by omega) (by omega) kp639188 (by rw [show (z639194.toInt : Int).toNat = ((g639042.toInt : Int).toNat + 1) by omega]; exact cq639191) (by omega) (by omega) mk639189 (by omega)
                              · have r639197 : g639042.toInt < p639142.toInt := gC_nle hc639165
                                have bg639042'' : gB g639042 0 999999 := ⟨by omega, by omega⟩
                                have bp639142' : gB p639142 1 1000000 := ⟨by omega, by omega⟩
                                refine G_aload 1 dr_cX17_giveAll_137 rfl ?_
                                refine Gp_get 0 hm639117 he639118 dr_cX17_giveAll_139 (gk_X12 D I) (Nat.le_of_ble_eq_true rfl) wr_9_220 rfl ?_
                                refine G_iload 0 dr_cX17_giveAll_142 rfl ?_
                                obtain ⟨r639198, r639199, n639206, f639207, r639200, r639201, r639202, r639203, r639204, r639205⟩ := rLC_n r639146 (by omega)
                                have hm639208 : q639143 ∈ P639043 := RS_m hT639045 r639198 (by decide)
                                obtain ⟨q639209, hx639210⟩ : ∃ x, x = el q639119 g639042.toInt.toNat := ⟨_, rfl⟩
                                have hx639211 : f639207 g639042.toNatClampNeg = some q639209 := (r639204 _ (show g639042.toInt.toNat < γ 2 q639119 by first | assumption | omega)).trans (by rw [hx639210])
                                have ht639212 : rKd γ q639209 1 := by rw [hx639210]; exact (r639147 _ (show g639042.toInt.toNat < γ 2 q639119 by first | assumption | omega)).1
                                have ht639213 : rFm γ q639209 q639119 := by rw [hx639210]; exact (r639147 _ (show g639042.toInt.toNat < γ 2 q639119 by first | assumption | omega)).2.1
                                have hf639214 : γ 1 q639209 = f := (show γ 1 q639209 = γ 1 q639119 from ht639213).trans hf639132
                                refine Gw_callV (As := [.int g639042]) (gV_ok D I) (cp_22_ArrayList_get l hl0 D I P639043 F639044 q639119 q639143 g639042 p639141 p639142 f639207 n639206 q639209 hm639139 hm639208 he639140 r639200 (gB_w bg639042'' (by decide) (by decide)) (gB_w bp639142' (by decide) (by decide)) (by omega) (by omega) (by assumption) (by omega)) dr_cX17_giveAll_144 ⟨wr_10_201, wr_1_18, wr_10_65, by decide, rfl, (Nat.le_of_ble_eq_true rfl), (Nat.le_of_ble_eq_true rfl)⟩ wr_10_63 wr_10_64 hm639139 he639140 rfl (rm_zc pk639066) (rm_zs pk639066) (Nat.le_of_ble_eq_true rfl) (fun r639218 w639219 dc639215 ds639216 hp639217 => ?_) (fun _ _ _ _ _ z => z.elim)
                                obtain ⟨rfl, rfl, hdc, hds⟩ := hp639217
                                change G _ _ _ _ _ _ _ (.ref q639209 :: _) _ _ _
                                refine G_widen (cs' := ((rPh γ el f - rPh γ0 el0 f) / 18)) (sl' := (rPh γ el f - rPh γ0 el0 f)) (rm_d0 hdc) (rm_d0 hds) ?_
                                have hm639220 : q639209 ∈ P639043 := RS_m hT639045 ht639212 (by decide)
                                obtain ⟨p639222, p639223, p639224, p639225, p639226, p639227, p639228, he639221, bp639222, bp639223, bp639226, bp639227, bp639228, r639229, r639230, r639231, r639232, r639233⟩ := show rk_1 γ q639209 (F639044 q639209) from RS_o hT639045 ht639212
                                have bp639224 := gB_any p639224
                                have bp639225 := gB_any p639225
                                have r639234 : γ 7 (γ 1 q639209) = γ 7 f := by rw [hf639214]
                                refine Gp_cast hm639220 he639221 rfl dr_cX17_giveAll_147 wr_10_202 (gr_cast 1 rfl) ?_
                                refine G_goto 158 dr_cX17_giveAll_150 (by decide +kernel) ?_
                                have fl639237 : p639142.toInt = γ 2 q639119 := r639144
                                have hp639235 : rAt γ el q613987 (g638662.toInt : Int).toNat (g639042.toInt : Int).toNat = q639209 := (rAt_r r639052 ht639129.1 (by omega)).trans (by rw [hx639210])
                                have hL639236 : (g639042.toInt : Int).toNat ≤ γ 2 (rwL γ el q613987 (g638662.toInt : Int).toNat) := by unfold rwL; rw [r639052, ht639129.1]; omega
                                have cn639238 : rNm (fun n => 0 ≤ (cB (F639044 (γ 9 17)) n).toInt) (F639044 q639209) := by rw [congrFun (rSk_9 hs639046) 17, x639057]; exact cq_at x639058 hp639235 (show (g638662.toInt : Int).toNat < γ 6 f by omega) hL639236
                                refine Gw_callV (As := [.ref q639209]) (gV_ok D I) (ct_335892_SpillForgeModel_coloured l hl0 D I γ el P639043 F639044 q613986 q639209 hT639045 ht639063 ht639212 (by omega)) dr_cX17_giveAll_158 ⟨wr_11_55, wr_1_14, wr_11_58, by decide, rfl, (Nat.le_of_ble_eq_true rfl), (Nat.le_of_ble_eq_true rfl)⟩ wr_11_57 wr_p_108 hm639068 he639069 rfl (rm_zc pk639066) (rm_zs pk639066) (Nat.le_of_ble_eq_true rfl) (fun r639242 w639243 dc639239 ds639240 hp639241 => ?_) (fun _ _ _ _ _ z => z.elim)
                                obtain ⟨F639248, rfl, rfl, hT639249, hs639250, hdc, hds, x639244, x639245, x639246, x639247⟩ := hp639241
                                have he639251 : F639248 q638802 = .inr (17, [.ref q639119, .ref q639120, .int p639121, .int p639122]) := (hs639250 q638802 (rT0 ht639049 (by decide)) (rT1 ht639049 (by decide)) (rT2 ht639049 (by decide))).trans he639118
                                have he639252 : F639248 q639119 = .inr (4, [.int p639141, .ref q639143, .int p639142]) := (hs639250 q639119 (rT0 ht639123 (by decide)) (rT1 ht639123 (by decide)) (rT2 ht639123 (by decide))).trans he639140
                                have he639253 : F639248 q639143 = .inl (I (.object "java/lang/Object"), n639206, .inr (.inr (.inr (.inr f639207)))) := (hs639250 q639143 (rT0 r639198 (by decide)) (rT1 r639198 (by decide)) (rT2 r639198 (by decide))).trans r639200
                                have hs639254 := rSk_str hs639046 hT639249 hs639250 (by decide) (by decide) (by decide)
                                have kp639255 : F639248 q613986 = F639044 q613986 := x639245
                                have kp639256 : F639248 (γ0 9 3) = F639044 (γ0 9 3) := (show F639248 (γ0 9 3) = F639044 (γ0 9 3) by rw [← congrFun (rSk_9 hs639254) 3]; exact x639246)
                                have kp639257 : F639248 (γ0 9 17) = F637958 (γ0 9 17) := ((show F639248 (γ0 9 17) = F639044 (γ0 9 17) by rw [← congrFun (rSk_9 hs639254) 17]; exact x639247)).trans x639057
                                have mk639258 : mKp (F613985 q613986) (F639248 q613986) := mKp_tr x639061 (mKp_eq x639245)
                                have he639259 : F639248 q613986 = .inr (22, [.ref (γ 9 0), .ref (γ 9 1), .ref (γ 9 2), .ref (γ 9 3), .ref (γ 9 4), .ref (γ 9 5), .ref (γ 9 6), .ref (γ 9 7), .ref (γ 9 8), .int p639072, .int p639073, .int p639074, .int p639075, .int p639076, .int p639077, .ref (γ 9 15), .ref (γ 9 16), .ref (γ 9 17), .ref (γ 9 18), .ref (γ 9 19), .ref (γ 9 20), .ref (γ 9 21), .ref (γ 9 22), .int p639078, .int p639079, .int p639080, .int p639081, .int p639082, .ref q639070, .ref (γ 9 29), .int p639083, .ref (γ 9 31), .int p639084, .int p639085, .int p639086, .ref q639071]) := (x639245).trans he639069
                                change G _ _ _ _ _ _ _ _ _ _ _
                                refine G_widen (cs' := ((rPh γ el f - rPh γ0 el0 f) / 18)) (sl' := (rPh γ el f - rPh γ0 el0 f)) (rm_d0 hdc) (rm_d0 hds) ?_
                                have cq639260 := cq_put (j1 := (g639042.toInt : Int).toNat + 1) hT639045 ht639064 hf639065 x639058 x639244 hp639235 (show (g638662.toInt : Int).toNat < γ 6 f by omega) hL639236 rfl
                                have ac639261 : (fI (F639248 q613986) 11).toInt = (fI (F639044 q613986) 11).toInt := by rw [kp639255]
                                have ac639262 : (fI (F639248 q613986) 14).toInt = (fI (F639044 q613986) 14).toInt := by rw [kp639255]
                                obtain ⟨z639263, hz639263⟩ : ∃ z : Int32, z = g639042 + Int32.ofInt 1 := ⟨_, rfl⟩
                                have ez639263 : z639263.toInt = g639042.toInt + 1 := gI_inc hz639263 (by decide) bg639042'' (by decide) (by decide)
                                have bz639263 : gB z639263 1 1000000 := ⟨by omega, by omega⟩
                                refine G_iinc (L' := [(7, .int z639263), (6, .ref q638802), (5, .int g638662), (4, .int o637954), (3, .int g636176), (0, .ref q613986), (1, .ref q613987), (2, .int p613988)]) z639263 0 dr_cX17_giveAll_161 rfl hz639263.symm (Nat.le_of_ble_eq_true rfl) rfl ?_
                                refine G_goto 110 dr_cX17_giveAll_164 (by decide +kernel) ?_
                                have ac639264 : (fI (F639248 q613986) 11).toInt = p639074.toInt := by rw [he639259]; rfl
                                have ac639265 : (fI (F639248 q613986) 14).toInt = p639077.toInt := by rw [he639259]; rfl
                                exact ih110_639061 P639043 F639248 γ el z639263 (gB_w bz639263 (by decide) (by decide)) hT639249 hs639254 hph639047 hB639048 ht639049 hf639050 r639051 r639052 (by omega) (by omega) (by omega) (by omega) kp639257 (by rw [show (z639263.toInt : Int).toNat = ((g639042.toInt : Int).toNat + 1) by omega]; exact cq639260) (by omega) (by omega) mk639258 (by omega)
                        have ac639266 : (fI (F638664 q613986) 11).toInt = p638688.toInt := by rw [he638683]; rfl
                        have ac639267 : (fI (F638664 q613986) 14).toInt = p638691.toInt := by rw [he638683]; rfl
                        exact hlp110_639061 (((1000002 : Int) - 0).toNat + 1) P638663 F638664 γ el 0 (gB_w (gBl (show Int32.toInt 0 = 0 by decide)) (by decide) (by decide)) hT638665 hs638666 hph638667 hB638668 ht638807 hf638829 r638837 r638838 (by have qa0 : Int32.toInt 0 = 0 := (by decide); omega) (by have qa0 : Int32.toInt 0 = 0 := (by decide); omega) (by have qa0 : Int32.toInt 0 = 0 := (by decide); omega) (by have qa0 : Int32.toInt 0 = 0 := (by decide); omega) x638673 (by have qa : Int32.toInt 0 = 0 := (by decide); rw [qa]; exact x638674) (by have qa0 : Int32.toInt 0 = 0 := (by decide); omega) (by have qa0 : Int32.toInt 0 = 0 := (by decide); omega) x638675 (Nat.lt_succ_self _)
                  have ac639268 : (fI (F637958 q613986) 11).toInt = p637882.toInt := by rw [he637965]; rfl
                  have ac639269 : (fI (F637958 q613986) 14).toInt = p637885.toInt := by rw [he637965]; rfl
                  exact hlp90_638675 (((1000001 : Int) - 0).toNat + 1) P637861 F637958 γ el 0 (gB_w (gBl (show Int32.toInt 0 = 0 by decide)) (by decide) (by decide)) hT637959 hs637961 hph637873 hB637866 (by have qa0 : Int32.toInt 0 = 0 := (by decide); omega) (by have qa0 : Int32.toInt 0 = 0 := (by decide); omega) (by have qa0 : Int32.toInt 0 = 0 := (by decide); omega) (by have qa0 : Int32.toInt 0 = 0 := (by decide); omega) rfl (by have qa : Int32.toInt 0 = 0 := (by decide); rw [qa]; exact cq638076) mk637964 (Nat.lt_succ_self _)
              · have r639270 : o637850.toInt ≠ 0 := gj_neq hc637926 (show Int32.toInt 0 = 0 by decide)
                have bo637850' : gB o637850 1 1 := gB_t1 bo637850 r639270
                refine G_aload_n 1 dr_cX17_giveAll_61 rfl ?_
                refine G_aload_n 2 dr_cX17_giveAll_62 rfl ?_
                refine G_iconst 0 dr_cX17_giveAll_63 (by decide +kernel) ?_
                refine Gw_callV (As := [.ref q613987, .int 0]) (gV_ok D I) (ct_270222_SpillForgeModel_graph l hl0 D I γ el P637861 F637862 q613986 q613987 0 hT637867 ht637869 ht637870 (gB_w (gBl (show Int32.toInt 0 = 0 by decide)) (by decide) (by decide)) (by omega)) dr_cX17_giveAll_64 ⟨wr_10_233, wr_1_14, wr_10_236, by decide, rfl, (Nat.le_of_ble_eq_true rfl), (Nat.le_of_ble_eq_true rfl)⟩ wr_10_235 wr_p_99 hm637876 he637877 rfl (rm_zc pk637874) (rm_zs pk637874) (Nat.le_of_ble_eq_true rfl) (fun r639274 w639275 dc639271 ds639272 hp639273 => ?_) (fun _ _ _ _ _ z => z.elim)
                obtain ⟨F639278, rfl, rfl, hT639279, hs639280, hdc, hds, x639276, x639277⟩ := hp639273
                have hs639281 := rSk_str hs637868 hT639279 hs639280 (by decide) (by decide) (by decide)
                have kp639282 : F639278 q613986 = F637862 q613986 := x639277
                have mk639283 : mKp (F613985 q613986) (F639278 q613986) := mKp_tr mk637872 (mKp_eq x639277)
                have he639284 : F639278 q613986 = .inr (22, [.ref (γ 9 0), .ref (γ 9 1), .ref (γ 9 2), .ref (γ 9 3), .ref (γ 9 4), .ref (γ 9 5), .ref (γ 9 6), .ref (γ 9 7), .ref (γ 9 8), .int p637880, .int p637881, .int p637882, .int p637883, .int p637884, .int p637885, .ref (γ 9 15), .ref (γ 9 16), .ref (γ 9 17), .ref (γ 9 18), .ref (γ 9 19), .ref (γ 9 20), .ref (γ 9 21), .ref (γ 9 22), .int p637886, .int p637887, .int p637888, .int p637889, .int p637890, .ref q637878, .ref (γ 9 29), .int p637891, .ref (γ 9 31), .int p637892, .int p637893, .int p637894, .ref q637879]) := (x639277).trans he637877
                rw [show Int32.toInt 0 = 0 from by decide] at x639276
                change G _ _ _ _ _ _ _ _ _ _ _
                refine G_widen (cs' := ((rPh γ el f - rPh γ0 el0 f) / 18)) (sl' := (rPh γ el f - rPh γ0 el0 f)) (rm_d0 hdc) (rm_d0 hds) ?_
                have ni639285 : rNI γ el F639278 q613987 (γ 6 f) (fI (F639278 q613986) 11).toInt := rNI_s (rNI_str hT637867 ht637870 hf637871 hs639280 (by decide) ni637925) (by rw [x639277])
                have gr639286 : rGr γ el F639278 q613987 (γ 6 f) (cB (F639278 (γ0 9 3))) (vA (γ 6 f)) := by have z := x639276 (by decide); rw [hf637871] at z; rw [← congrFun (rSk_9 hs639281) 3]; exact gq_str hT637867 ht637870 hf637871 hs639280 (by decide) z
                have ac639287 : (fI (F639278 q613986) 11).toInt = (fI (F637862 q613986) 11).toInt := by rw [kp639282]
                have ac639288 : (fI (F639278 q613986) 14).toInt = (fI (F637862 q613986) 14).toInt := by rw [kp639282]
                refine G_goto 52 dr_cX17_giveAll_67 (by decide +kernel) ?_
                have ac639289 : (fI (F639278 q613986) 11).toInt = p637882.toInt := by rw [he639284]; rfl
                have ac639290 : (fI (F639278 q613986) 14).toInt = p637885.toInt := by rw [he639284]; rfl
                exact ih52_637785 P637861 F639278 γ el hT639279 hs639281 hph637873 hB637866 (by omega) (by omega) (by omega) (by omega) ni639285 gr639286 mk639283 (by have z := x637855.resolve_left (by omega); omega)
          have ac639291 : (fI (F636289 q613986) 11).toInt = p636201.toInt := by rw [he636296]; rfl
          have ac639292 : (fI (F636289 q613986) 14).toInt = p636204.toInt := by rw [he636296]; rfl
          exact hlp52_637785 (rsum (fun i => γ 2 (γ 14 (el (γ 14 q613987) i))) (γ 6 f) + 1) P636177 F636289 γ el hT636290 hs636293 hph636181 hB636182 (by omega) (by omega) (by omega) (by omega) ni636297 gr636298 mk636295 (Nat.lt_succ_self _)
        · have r639293 : 4000 < o636279.toInt := gj_nle hc636280 (show Int32.toInt 4000 = 4000 by decide)
          have bo636279' : gB o636279 4001 2147483647 := ⟨by omega, by omega⟩
          refine G_iconst (-1) dr_cX17_giveAll_44 (by decide +kernel) ?_
          exact G_iretA dr_cX17_giveAll_45 rfl (show ((rPh γ el f - rPh γ0 el0 f) / 18) ≤ (((387 * B + 6000) - rPh γ0 el0 f) / 18) by omega) (show (rPh γ el f - rPh γ0 el0 f) ≤ ((387 * B + 6000) - rPh γ0 el0 f) by omega) ⟨P636177, F636178, γ, el, (-1), rfl, rfl, hs636180, ⟨by omega, by omega⟩, hB636182, (gB_w (gBl (show Int32.toInt (-1) = (-1) by decide)) (by decide) (by decide)), (by have qa0 : Int32.toInt (-1) = (-1) := (by decide); omega), x636188⟩
  have ac639294 : (fI (F614096 q613986) 11).toInt = p614118.toInt := by rw [he614113]; rfl
  have ac639295 : (fI (F614096 q613986) 14).toInt = p614121.toInt := by rw [he614113]; rfl
  exact hlp28_636188 (((42 : Int) - 1).toNat + 1) P614095 F614096 γ el 1 (gB_w (gBl (show Int32.toInt 1 = 1 by decide)) (by decide) (by decide)) hT614101 hs614102 hph614107 hB614100 (by have qa0 : Int32.toInt 1 = 1 := (by decide); omega) (by have qa0 : Int32.toInt 1 = 1 := (by decide); omega) (by have qa0 : Int32.toInt 1 = 1 := (by decide); omega) (by have qa0 : Int32.toInt 1 = 1 := (by decide); omega) ni614161 mk614106 (Nat.lt_succ_self _)
