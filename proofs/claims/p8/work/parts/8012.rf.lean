theorem dr_cX17_giveAll_0 : decode cX17_giveAll 0 = .ok (.aload_n 0, 1) := by decide +kernel
theorem dr_cX17_giveAll_1 : decode cX17_giveAll 1 = .ok (.iconst 0, 1) := by decide +kernel
theorem dr_cX17_giveAll_2 : decode cX17_giveAll 2 = .ok (.putfield 224, 3) := by decide +kernel
theorem dr_cX17_giveAll_5 : decode cX17_giveAll 5 = .ok (.aload_n 0, 1) := by decide +kernel
theorem dr_cX17_giveAll_6 : decode cX17_giveAll 6 = .ok (.iconst 0, 1) := by decide +kernel
theorem dr_cX17_giveAll_7 : decode cX17_giveAll 7 = .ok (.putfield 237, 3) := by decide +kernel
theorem dr_cX17_giveAll_10 : decode cX17_giveAll 10 = .ok (.aload_n 0, 1) := by decide +kernel
theorem dr_cX17_giveAll_11 : decode cX17_giveAll 11 = .ok (.iconst 0, 1) := by decide +kernel
theorem dr_cX17_giveAll_12 : decode cX17_giveAll 12 = .ok (.putfield 195, 3) := by decide +kernel
theorem dr_cX17_giveAll_15 : decode cX17_giveAll 15 = .ok (.aload_n 0, 1) := by decide +kernel
theorem dr_cX17_giveAll_16 : decode cX17_giveAll 16 = .ok (.bipush 100, 2) := by decide +kernel
theorem dr_cX17_giveAll_18 : decode cX17_giveAll 18 = .ok (.putfield 231, 3) := by decide +kernel
theorem dr_cX17_giveAll_21 : decode cX17_giveAll 21 = .ok (.aload_n 0, 1) := by decide +kernel
theorem dr_cX17_giveAll_22 : decode cX17_giveAll 22 = .ok (.aload_n 1, 1) := by decide +kernel
theorem dr_cX17_giveAll_23 : decode cX17_giveAll 23 = .ok (.invokevirtual 240, 3) := by decide +kernel
theorem dr_cX17_giveAll_26 : decode cX17_giveAll 26 = .ok (.iconst 1, 1) := by decide +kernel
theorem dr_cX17_giveAll_27 : decode cX17_giveAll 27 = .ok (.istore_n 3, 1) := by decide +kernel
theorem dr_cX17_giveAll_28 : decode cX17_giveAll 28 = .ok (.iload_n 3, 1) := by decide +kernel
theorem dr_cX17_giveAll_29 : decode cX17_giveAll 29 = .ok (.bipush 40, 2) := by decide +kernel
theorem dr_cX17_giveAll_31 : decode cX17_giveAll 31 = .ok (.if_icmp .gt 176, 3) := by decide +kernel
theorem dr_cX17_giveAll_207 : decode cX17_giveAll 207 = .ok (.iconst (-1), 1) := by decide +kernel
theorem dr_cX17_giveAll_208 : decode cX17_giveAll 208 = .ok (.ireturn, 1) := by decide +kernel
theorem dr_cX17_giveAll_34 : decode cX17_giveAll 34 = .ok (.aload_n 1, 1) := by decide +kernel
theorem dr_cX17_giveAll_35 : decode cX17_giveAll 35 = .ok (.invokevirtual 234, 3) := by decide +kernel
theorem dr_cX17_giveAll_38 : decode cX17_giveAll 38 = .ok (.sipush 4000, 3) := by decide +kernel
theorem dr_cX17_giveAll_41 : decode cX17_giveAll 41 = .ok (.if_icmp .le 5, 3) := by decide +kernel
theorem dr_cX17_giveAll_46 : decode cX17_giveAll 46 = .ok (.aload_n 0, 1) := by decide +kernel
theorem dr_cX17_giveAll_47 : decode cX17_giveAll 47 = .ok (.aload_n 1, 1) := by decide +kernel
theorem dr_cX17_giveAll_48 : decode cX17_giveAll 48 = .ok (.iconst 0, 1) := by decide +kernel
theorem dr_cX17_giveAll_49 : decode cX17_giveAll 49 = .ok (.invokevirtual 243, 3) := by decide +kernel
theorem dr_cX17_giveAll_52 : decode cX17_giveAll 52 = .ok (.aload_n 0, 1) := by decide +kernel
theorem dr_cX17_giveAll_53 : decode cX17_giveAll 53 = .ok (.aload_n 1, 1) := by decide +kernel
theorem dr_cX17_giveAll_54 : decode cX17_giveAll 54 = .ok (.iload_n 2, 1) := by decide +kernel
theorem dr_cX17_giveAll_55 : decode cX17_giveAll 55 = .ok (.invokevirtual 246, 3) := by decide +kernel
theorem wr_11_8 : (Jvm.Cond.methodLink "SpillForgeModel" (246 : Nat) ({ cls := "SpillForgeModel", name := "merge", desc := "(LSpillForgeModel$Code;I)Z" } : Jvm.MethodName)) ∈ gw := gw_11 8 rfl rfl
theorem wr_11_11 : (Jvm.Cond.code ({ cls := "SpillForgeModel", name := "merge", desc := "(LSpillForgeModel$Code;I)Z" } : Jvm.MethodName) prog_14_method_17_code (9 : Nat) (Option.some Jvm.ClassFile.FieldType.boolean)) ∈ gw := gw_11 11 rfl rfl
theorem wr_11_10 : (Jvm.Cond.instanceMethod ({ cls := "SpillForgeModel", name := "merge", desc := "(LSpillForgeModel$Code;I)Z" } : Jvm.MethodName)) ∈ gw := gw_11 10 rfl rfl
theorem wr_p_101 : Cond.selects "SpillForgeModel" ⟨"SpillForgeModel", "merge", "(LSpillForgeModel$Code;I)Z"⟩ ⟨"SpillForgeModel", "merge", "(LSpillForgeModel$Code;I)Z"⟩ ∈ gw := gw_p _ 101 rfl rfl rfl
theorem dr_cX17_giveAll_58 : decode cX17_giveAll 58 = .ok (.ifCond .eq 12, 3) := by decide +kernel
theorem dr_cX17_giveAll_70 : decode cX17_giveAll 70 = .ok (.aload_n 0, 1) := by decide +kernel
theorem dr_cX17_giveAll_71 : decode cX17_giveAll 71 = .ok (.aload_n 1, 1) := by decide +kernel
theorem dr_cX17_giveAll_72 : decode cX17_giveAll 72 = .ok (.invokevirtual 250, 3) := by decide +kernel
theorem dr_cX17_giveAll_75 : decode cX17_giveAll 75 = .ok (.aload_n 0, 1) := by decide +kernel
theorem dr_cX17_giveAll_76 : decode cX17_giveAll 76 = .ok (.iload_n 2, 1) := by decide +kernel
theorem dr_cX17_giveAll_77 : decode cX17_giveAll 77 = .ok (.invokevirtual 253, 3) := by decide +kernel
theorem wr_11_47 : (Jvm.Cond.methodLink "SpillForgeModel" (253 : Nat) ({ cls := "SpillForgeModel", name := "colours", desc := "(I)I" } : Jvm.MethodName)) ∈ gw := gw_11 47 rfl rfl
theorem wr_11_50 : (Jvm.Cond.code ({ cls := "SpillForgeModel", name := "colours", desc := "(I)I" } : Jvm.MethodName) prog_14_method_21_code (8 : Nat) (Option.some Jvm.ClassFile.FieldType.int)) ∈ gw := gw_11 50 rfl rfl
theorem wr_11_49 : (Jvm.Cond.instanceMethod ({ cls := "SpillForgeModel", name := "colours", desc := "(I)I" } : Jvm.MethodName)) ∈ gw := gw_11 49 rfl rfl
theorem wr_p_106 : Cond.selects "SpillForgeModel" ⟨"SpillForgeModel", "colours", "(I)I"⟩ ⟨"SpillForgeModel", "colours", "(I)I"⟩ ∈ gw := gw_p _ 106 rfl rfl rfl
theorem dr_cX17_giveAll_80 : decode cX17_giveAll 80 = .ok (.istore 4, 2) := by decide +kernel
theorem dr_cX17_giveAll_82 : decode cX17_giveAll 82 = .ok (.iload 4, 2) := by decide +kernel
theorem dr_cX17_giveAll_84 : decode cX17_giveAll 84 = .ok (.ifCond .ne 96, 3) := by decide +kernel
theorem dr_cX17_giveAll_180 : decode cX17_giveAll 180 = .ok (.aload_n 0, 1) := by decide +kernel
theorem dr_cX17_giveAll_181 : decode cX17_giveAll 181 = .ok (.dup, 1) := by decide +kernel
theorem dr_cX17_giveAll_182 : decode cX17_giveAll 182 = .ok (.getfield 237, 3) := by decide +kernel
theorem dr_cX17_giveAll_185 : decode cX17_giveAll 185 = .ok (.iload 4, 2) := by decide +kernel
theorem dr_cX17_giveAll_187 : decode cX17_giveAll 187 = .ok (.iadd, 1) := by decide +kernel
theorem dr_cX17_giveAll_188 : decode cX17_giveAll 188 = .ok (.putfield 237, 3) := by decide +kernel
theorem dr_cX17_giveAll_191 : decode cX17_giveAll 191 = .ok (.aload_n 0, 1) := by decide +kernel
theorem dr_cX17_giveAll_192 : decode cX17_giveAll 192 = .ok (.aload_n 1, 1) := by decide +kernel
theorem dr_cX17_giveAll_193 : decode cX17_giveAll 193 = .ok (.invokevirtual 263, 3) := by decide +kernel
theorem wr_11_63 : (Jvm.Cond.methodLink "SpillForgeModel" (263 : Nat) ({ cls := "SpillForgeModel", name := "spill", desc := "(LSpillForgeModel$Code;)Z" } : Jvm.MethodName)) ∈ gw := gw_11 63 rfl rfl
theorem wr_11_66 : (Jvm.Cond.code ({ cls := "SpillForgeModel", name := "spill", desc := "(LSpillForgeModel$Code;)Z" } : Jvm.MethodName) prog_14_method_22_code (10 : Nat) (Option.some Jvm.ClassFile.FieldType.boolean)) ∈ gw := gw_11 66 rfl rfl
theorem wr_11_65 : (Jvm.Cond.instanceMethod ({ cls := "SpillForgeModel", name := "spill", desc := "(LSpillForgeModel$Code;)Z" } : Jvm.MethodName)) ∈ gw := gw_11 65 rfl rfl
theorem wr_p_110 : Cond.selects "SpillForgeModel" ⟨"SpillForgeModel", "spill", "(LSpillForgeModel$Code;)Z"⟩ ⟨"SpillForgeModel", "spill", "(LSpillForgeModel$Code;)Z"⟩ ∈ gw := gw_p _ 110 rfl rfl rfl
theorem dr_cX17_giveAll_196 : decode cX17_giveAll 196 = .ok (.ifCond .ne 5, 3) := by decide +kernel
theorem dr_cX17_giveAll_201 : decode cX17_giveAll 201 = .ok (.iinc 3 1, 3) := by decide +kernel
theorem dr_cX17_giveAll_204 : decode cX17_giveAll 204 = .ok (.goto (-176), 3) := by decide +kernel
theorem dr_cX17_giveAll_199 : decode cX17_giveAll 199 = .ok (.iconst (-1), 1) := by decide +kernel
theorem dr_cX17_giveAll_200 : decode cX17_giveAll 200 = .ok (.ireturn, 1) := by decide +kernel
theorem dr_cX17_giveAll_87 : decode cX17_giveAll 87 = .ok (.iconst 0, 1) := by decide +kernel
theorem dr_cX17_giveAll_88 : decode cX17_giveAll 88 = .ok (.istore 5, 2) := by decide +kernel
theorem dr_cX17_giveAll_90 : decode cX17_giveAll 90 = .ok (.iload 5, 2) := by decide +kernel
theorem dr_cX17_giveAll_92 : decode cX17_giveAll 92 = .ok (.aload_n 1, 1) := by decide +kernel
theorem dr_cX17_giveAll_93 : decode cX17_giveAll 93 = .ok (.invokevirtual 96, 3) := by decide +kernel
theorem dr_cX17_giveAll_96 : decode cX17_giveAll 96 = .ok (.if_icmp .ge 77, 3) := by decide +kernel
theorem dr_cX17_giveAll_173 : decode cX17_giveAll 173 = .ok (.aload_n 0, 1) := by decide +kernel
theorem dr_cX17_giveAll_174 : decode cX17_giveAll 174 = .ok (.aload_n 1, 1) := by decide +kernel
theorem dr_cX17_giveAll_175 : decode cX17_giveAll 175 = .ok (.invokevirtual 260, 3) := by decide +kernel
theorem wr_11_59 : (Jvm.Cond.methodLink "SpillForgeModel" (260 : Nat) ({ cls := "SpillForgeModel", name := "share", desc := "(LSpillForgeModel$Code;)V" } : Jvm.MethodName)) ∈ gw := gw_11 59 rfl rfl
theorem wr_11_62 : (Jvm.Cond.code ({ cls := "SpillForgeModel", name := "share", desc := "(LSpillForgeModel$Code;)V" } : Jvm.MethodName) prog_14_method_26_code (7 : Nat) (Option.none : Option Jvm.ClassFile.FieldType)) ∈ gw := gw_11 62 rfl rfl
theorem wr_11_61 : (Jvm.Cond.instanceMethod ({ cls := "SpillForgeModel", name := "share", desc := "(LSpillForgeModel$Code;)V" } : Jvm.MethodName)) ∈ gw := gw_11 61 rfl rfl
theorem wr_p_109 : Cond.selects "SpillForgeModel" ⟨"SpillForgeModel", "share", "(LSpillForgeModel$Code;)V"⟩ ⟨"SpillForgeModel", "share", "(LSpillForgeModel$Code;)V"⟩ ∈ gw := gw_p _ 109 rfl rfl rfl
theorem dr_cX17_giveAll_178 : decode cX17_giveAll 178 = .ok (.iload_n 3, 1) := by decide +kernel
theorem dr_cX17_giveAll_179 : decode cX17_giveAll 179 = .ok (.ireturn, 1) := by decide +kernel
theorem dr_cX17_giveAll_99 : decode cX17_giveAll 99 = .ok (.aload_n 1, 1) := by decide +kernel
theorem dr_cX17_giveAll_100 : decode cX17_giveAll 100 = .ok (.iload 5, 2) := by decide +kernel
theorem dr_cX17_giveAll_102 : decode cX17_giveAll 102 = .ok (.invokevirtual 101, 3) := by decide +kernel
theorem dr_cX17_giveAll_105 : decode cX17_giveAll 105 = .ok (.astore 6, 2) := by decide +kernel
theorem dr_cX17_giveAll_107 : decode cX17_giveAll 107 = .ok (.iconst 0, 1) := by decide +kernel
theorem dr_cX17_giveAll_108 : decode cX17_giveAll 108 = .ok (.istore 7, 2) := by decide +kernel
theorem dr_cX17_giveAll_110 : decode cX17_giveAll 110 = .ok (.iload 7, 2) := by decide +kernel
theorem dr_cX17_giveAll_112 : decode cX17_giveAll 112 = .ok (.aload 6, 2) := by decide +kernel
theorem dr_cX17_giveAll_114 : decode cX17_giveAll 114 = .ok (.getfield 117, 3) := by decide +kernel
theorem dr_cX17_giveAll_117 : decode cX17_giveAll 117 = .ok (.invokevirtual 121, 3) := by decide +kernel
theorem dr_cX17_giveAll_120 : decode cX17_giveAll 120 = .ok (.if_icmp .gt 47, 3) := by decide +kernel
theorem dr_cX17_giveAll_167 : decode cX17_giveAll 167 = .ok (.iinc 5 1, 3) := by decide +kernel
theorem dr_cX17_giveAll_170 : decode cX17_giveAll 170 = .ok (.goto (-80), 3) := by decide +kernel
theorem dr_cX17_giveAll_123 : decode cX17_giveAll 123 = .ok (.aload_n 0, 1) := by decide +kernel
theorem dr_cX17_giveAll_124 : decode cX17_giveAll 124 = .ok (.iload 7, 2) := by decide +kernel
theorem dr_cX17_giveAll_126 : decode cX17_giveAll 126 = .ok (.aload 6, 2) := by decide +kernel
theorem dr_cX17_giveAll_128 : decode cX17_giveAll 128 = .ok (.getfield 117, 3) := by decide +kernel
theorem dr_cX17_giveAll_131 : decode cX17_giveAll 131 = .ok (.invokevirtual 121, 3) := by decide +kernel
theorem dr_cX17_giveAll_134 : decode cX17_giveAll 134 = .ok (.if_icmp .ge 19, 3) := by decide +kernel
theorem dr_cX17_giveAll_153 : decode cX17_giveAll 153 = .ok (.aload 6, 2) := by decide +kernel
theorem dr_cX17_giveAll_155 : decode cX17_giveAll 155 = .ok (.getfield 109, 3) := by decide +kernel
theorem dr_cX17_giveAll_158 : decode cX17_giveAll 158 = .ok (.invokevirtual 256, 3) := by decide +kernel
theorem wr_11_55 : (Jvm.Cond.methodLink "SpillForgeModel" (256 : Nat) ({ cls := "SpillForgeModel", name := "coloured", desc := "(LSpillForgeModel$Row;)V" } : Jvm.MethodName)) ∈ gw := gw_11 55 rfl rfl
theorem wr_11_58 : (Jvm.Cond.code ({ cls := "SpillForgeModel", name := "coloured", desc := "(LSpillForgeModel$Row;)V" } : Jvm.MethodName) prog_14_method_25_code (2 : Nat) (Option.none : Option Jvm.ClassFile.FieldType)) ∈ gw := gw_11 58 rfl rfl
theorem wr_11_57 : (Jvm.Cond.instanceMethod ({ cls := "SpillForgeModel", name := "coloured", desc := "(LSpillForgeModel$Row;)V" } : Jvm.MethodName)) ∈ gw := gw_11 57 rfl rfl
theorem wr_p_108 : Cond.selects "SpillForgeModel" ⟨"SpillForgeModel", "coloured", "(LSpillForgeModel$Row;)V"⟩ ⟨"SpillForgeModel", "coloured", "(LSpillForgeModel$Row;)V"⟩ ∈ gw := gw_p _ 108 rfl rfl rfl
theorem dr_cX17_giveAll_161 : decode cX17_giveAll 161 = .ok (.iinc 7 1, 3) := by decide +kernel
theorem dr_cX17_giveAll_164 : decode cX17_giveAll 164 = .ok (.goto (-54), 3) := by decide +kernel
theorem dr_cX17_giveAll_137 : decode cX17_giveAll 137 = .ok (.aload 6, 2) := by decide +kernel
theorem dr_cX17_giveAll_139 : decode cX17_giveAll 139 = .ok (.getfield 117, 3) := by decide +kernel
theorem dr_cX17_giveAll_142 : decode cX17_giveAll 142 = .ok (.iload 7, 2) := by decide +kernel
theorem dr_cX17_giveAll_144 : decode cX17_giveAll 144 = .ok (.invokevirtual 124, 3) := by decide +kernel
theorem dr_cX17_giveAll_147 : decode cX17_giveAll 147 = .ok (.checkcast 40, 3) := by decide +kernel
theorem dr_cX17_giveAll_150 : decode cX17_giveAll 150 = .ok (.goto 8, 3) := by decide +kernel
theorem dr_cX17_giveAll_61 : decode cX17_giveAll 61 = .ok (.aload_n 0, 1) := by decide +kernel
theorem dr_cX17_giveAll_62 : decode cX17_giveAll 62 = .ok (.aload_n 1, 1) := by decide +kernel
theorem dr_cX17_giveAll_63 : decode cX17_giveAll 63 = .ok (.iconst 0, 1) := by decide +kernel
theorem dr_cX17_giveAll_64 : decode cX17_giveAll 64 = .ok (.invokevirtual 243, 3) := by decide +kernel
theorem dr_cX17_giveAll_67 : decode cX17_giveAll 67 = .ok (.goto (-15), 3) := by decide +kernel
theorem dr_cX17_giveAll_44 : decode cX17_giveAll 44 = .ok (.iconst (-1), 1) := by decide +kernel
theorem dr_cX17_giveAll_45 : decode cX17_giveAll 45 = .ok (.ireturn, 1) := by decide +kernel
abbrev ky_631611_SpillForgeModel_giveAll : gKey := (cX17_giveAll, 8, "SpillForgeModel", (some FieldType.int), [], "giveAll", fun _ _ => True)
def pg_631611_SpillForgeModel_giveAll (D : va_G) (I : FieldType → ClassId) (γ0 el0 : Nat → Nat → Nat) (f : Nat) (B : Nat) (P631603 : List Nat) (F631604 : Nat → va_E) (q631605 : Nat) (q631606 : Nat) (p631607 : Int32) : Option Value → va_W → Nat → Nat → Prop := fun r w dc ds => ∃ (P657091 : List Nat) (F657092 : Nat → va_E) (γ el : Nat → Nat → Nat) (o657090 : Int32), r = some (.int o657090) ∧ w = va_pl P657091 F657092 ∧ rSk f [101] ([1, 3, 5, 6, 8, 9, 101] ++ npk) D I P631603 F631604 γ0 el0 P657091 F657092 γ el ∧ (18 * dc + rPh γ0 el0 f ≤ rPh γ el f ∧ ds + rPh γ0 el0 f ≤ rPh γ el f) ∧ rBd γ el f B ∧ gB o657090 (-1) 40 ∧ γ 6 f = γ0 6 f ∧ mKp (F631604 q631605) (F657092 q631605)
set_option maxRecDepth 100000 in
set_option maxHeartbeats 20000000 in
theorem cg_631611_SpillForgeModel_giveAll (l : Launch) (hl0 : l.stackTraces = false) (D : va_G) (I : FieldType → ClassId) (γ0 el0 : Nat → Nat → Nat) (f : Nat) (B : Nat) (P631603 : List Nat) (F631604 : Nat → va_E) (q631605 : Nat) (q631606 : Nat) (p631607 : Int32) (hT0 : RS D I P631603 F631604 γ0 el0) (hzq631605 : rKd γ0 q631605 10) (hzq631606 : rKd γ0 q631606 9) (hf0 : γ0 1 q631606 = f) (hB0 : rBd γ0 el0 f B) (hBk : B ≤ 100000) (bp631607 : gB p631607 1 32) (x631608 : 0 < γ0 6 f) (x631609 : γ0 7 f = 0) (x631610 : γ0 16 f + 3901 ≤ B) : CtA (gV D I) l yX17_giveAll cX17_giveAll 8 (some FieldType.int) 10 224 (((387 * B + 6000) - rPh γ0 el0 f) / 18) ((387 * B + 6000) - rPh γ0 el0 f) [.ref q631605, .ref q631606, .int p631607] (va_pl P631603 F631604) (pg_631611_SpillForgeModel_giveAll D I γ0 el0 f B P631603 F631604 q631605 q631606 p631607) gNA := by
  refine CtA_of hl0 (by decide) (Nat.le_of_ble_eq_true rfl) ?_
  obtain ⟨γ, hγ0⟩ : ∃ z, z = γ0 := ⟨_, rfl⟩
  obtain ⟨el, hel0⟩ : ∃ z, z = el0 := ⟨_, rfl⟩
  have hT : RS D I P631603 F631604 γ el := by rw [hγ0, hel0]; exact hT0
  have hst : rSk f [101] ([1, 3, 5, 6, 8, 9, 101] ++ npk) D I P631603 F631604 γ0 el0 P631603 F631604 γ el := by rw [hγ0, hel0]; exact rSk_rf hT0
  have hph : rPh γ0 el0 f ≤ rPh γ el f := by rw [hγ0, hel0]; exact Nat.le_refl _
  have hB : rBd γ el f B := by rw [hγ0, hel0]; exact hB0
  have htq631605 : rKd γ q631605 10 := by rw [hγ0]; exact hzq631605
  have htq631606 : rKd γ q631606 9 := by rw [hγ0]; exact hzq631606
  have hf1 : γ 1 q631606 = f := by rw [hγ0]; exact hf0
  have x631608n : 0 < γ 6 f := by rw [hγ0]; exact x631608
  have x631609n : γ 7 f = 0 := by rw [hγ0]; exact x631609
  have x631610n : γ 16 f + 3901 ≤ B := by rw [hγ0]; exact x631610
  have pk631612 : rPh γ el f ≤ 387 * B + 6000 := rm_pk (rM_ge hT htq631606 hf1).1 (rM_bd hB)
  refine G_widen (cs' := ((rPh γ el f - rPh γ0 el0 f) / 18)) (sl' := (rPh γ el f - rPh γ0 el0 f)) (Nat.zero_le _) (Nat.zero_le _) ?_
  have lz0 : Int32.toInt 0 = 0 := by decide
  have r631613 : γ 6 f = γ0 6 f := by rw [hγ0]
  have r631614 : γ 7 f = γ0 7 f := by rw [hγ0]
  have r631615 : γ 16 f = γ0 16 f := by rw [hγ0]
  have r631616 : γ 18 f = γ0 18 f := by rw [hγ0]
  have r631617 : γ 19 f = γ0 19 f := by rw [hγ0]
  have hm631618 : q631605 ∈ P631603 := RS_m hT htq631605 (by decide)
  refine rk10_e (show rk_10 γ (F631604 q631605) from RS_o hT htq631605) (fun q631620 q631621 p631622 p631623 p631624 p631625 p631626 p631627 p631628 p631629 p631630 p631631 p631632 p631633 p631634 p631635 p631636 he631619 hB631663 ht631637 ht631638 ht631639 ht631640 ht631641 ht631642 ht631643 ht631644 ht631645 ht631646 ht631647 ht631648 ht631649 ht631650 ht631651 ht631652 ht631653 ht631654 ht631655 ht631656 ht631657 ht631658 ht631659 ht631660 hB631664 => ?_)
  have k0_3 : rKd γ0 (γ0 9 3) 14 := by rw [← hγ0]; exact ht631642
  have k0_17 : rKd γ0 (γ0 9 17) 20 := by rw [← hγ0]; exact ht631650
  refine G_aload_n 0 dr_cX17_giveAll_0 rfl ?_
  refine G_iconst 0 dr_cX17_giveAll_1 (by decide +kernel) ?_
  refine Gp_put 11 hm631618 he631619 dr_cX17_giveAll_2 (gk_X17 D I) (Nat.le_of_ble_eq_true rfl) wr_7_85 rfl rfl rfl (Nat.le_of_ble_eq_true rfl) (fun F631665 e631666 n631667 => ?_)
  have he631668 : F631665 q631605 = .inr (22, [.ref (γ 9 0), .ref (γ 9 1), .ref (γ 9 2), .ref (γ 9 3), .ref (γ 9 4), .ref (γ 9 5), .ref (γ 9 6), .ref (γ 9 7), .ref (γ 9 8), .int p631622, .int p631623, .int 0, .int p631625, .int p631626, .int p631627, .ref (γ 9 15), .ref (γ 9 16), .ref (γ 9 17), .ref (γ 9 18), .ref (γ 9 19), .ref (γ 9 20), .ref (γ 9 21), .ref (γ 9 22), .int p631628, .int p631629, .int p631630, .int p631631, .int p631632, .ref q631620, .ref (γ 9 29), .int p631633, .ref (γ 9 31), .int p631634, .int p631635, .int p631636, .ref q631621]) := e631666
  have mk631669 : mKp (F631604 q631605) (F631665 q631605) := mKp_tr mKp_rf (by rw [he631619, he631668]; exact ⟨rfl, rfl⟩)
  have kp631670 : F631665 (γ0 9 3) = F631604 (γ0 9 3) := n631667 (γ0 9 3) (rn_ty (rSk_k hst k0_3 (by decide) (by decide)) htq631605 (by decide))
  have kp631671 : F631665 (γ0 9 17) = F631604 (γ0 9 17) := n631667 (γ0 9 17) (rn_ty (rSk_k hst k0_17 (by decide) (by decide)) htq631605 (by decide))
  refine G_aload_n 0 dr_cX17_giveAll_5 rfl ?_
  refine G_iconst 0 dr_cX17_giveAll_6 (by decide +kernel) ?_
  refine Gp_put 12 hm631618 he631668 dr_cX17_giveAll_7 (gk_X17 D I) (Nat.le_of_ble_eq_true rfl) wr_7_86 rfl rfl rfl (Nat.le_of_ble_eq_true rfl) (fun F631672 e631673 n631674 => ?_)
  have he631675 : F631672 q631605 = .inr (22, [.ref (γ 9 0), .ref (γ 9 1), .ref (γ 9 2), .ref (γ 9 3), .ref (γ 9 4), .ref (γ 9 5), .ref (γ 9 6), .ref (γ 9 7), .ref (γ 9 8), .int p631622, .int p631623, .int 0, .int 0, .int p631626, .int p631627, .ref (γ 9 15), .ref (γ 9 16), .ref (γ 9 17), .ref (γ 9 18), .ref (γ 9 19), .ref (γ 9 20), .ref (γ 9 21), .ref (γ 9 22), .int p631628, .int p631629, .int p631630, .int p631631, .int p631632, .ref q631620, .ref (γ 9 29), .int p631633, .ref (γ 9 31), .int p631634, .int p631635, .int p631636, .ref q631621]) := e631673
  have mk631676 : mKp (F631604 q631605) (F631672 q631605) := mKp_tr mk631669 (by rw [he631668, he631675]; exact ⟨rfl, rfl⟩)
  have n631677 : ∀ b, b ≠ q631605 → F631672 b = F631604 b := fun b hb => (n631674 b hb).trans (n631667 b hb)
  have kp631678 : F631672 (γ0 9 3) = F631604 (γ0 9 3) := (n631674 (γ0 9 3) (rn_ty (rSk_k hst k0_3 (by decide) (by decide)) htq631605 (by decide))).trans kp631670
  have kp631679 : F631672 (γ0 9 17) = F631604 (γ0 9 17) := (n631674 (γ0 9 17) (rn_ty (rSk_k hst k0_17 (by decide) (by decide)) htq631605 (by decide))).trans kp631671
  refine G_aload_n 0 dr_cX17_giveAll_10 rfl ?_
  refine G_iconst 0 dr_cX17_giveAll_11 (by decide +kernel) ?_
  refine Gp_put 13 hm631618 he631675 dr_cX17_giveAll_12 (gk_X17 D I) (Nat.le_of_ble_eq_true rfl) wr_7_87 rfl rfl rfl (Nat.le_of_ble_eq_true rfl) (fun F631680 e631681 n631682 => ?_)
  have he631683 : F631680 q631605 = .inr (22, [.ref (γ 9 0), .ref (γ 9 1), .ref (γ 9 2), .ref (γ 9 3), .ref (γ 9 4), .ref (γ 9 5), .ref (γ 9 6), .ref (γ 9 7), .ref (γ 9 8), .int p631622, .int p631623, .int 0, .int 0, .int 0, .int p631627, .ref (γ 9 15), .ref (γ 9 16), .ref (γ 9 17), .ref (γ 9 18), .ref (γ 9 19), .ref (γ 9 20), .ref (γ 9 21), .ref (γ 9 22), .int p631628, .int p631629, .int p631630, .int p631631, .int p631632, .ref q631620, .ref (γ 9 29), .int p631633, .ref (γ 9 31), .int p631634, .int p631635, .int p631636, .ref q631621]) := e631681
  have mk631684 : mKp (F631604 q631605) (F631680 q631605) := mKp_tr mk631676 (by rw [he631675, he631683]; exact ⟨rfl, rfl⟩)
  have n631685 : ∀ b, b ≠ q631605 → F631680 b = F631604 b := fun b hb => (n631682 b hb).trans (n631677 b hb)
  have kp631686 : F631680 (γ0 9 3) = F631604 (γ0 9 3) := (n631682 (γ0 9 3) (rn_ty (rSk_k hst k0_3 (by decide) (by decide)) htq631605 (by decide))).trans kp631678
  have kp631687 : F631680 (γ0 9 17) = F631604 (γ0 9 17) := (n631682 (γ0 9 17) (rn_ty (rSk_k hst k0_17 (by decide) (by decide)) htq631605 (by decide))).trans kp631679
  refine G_aload_n 0 dr_cX17_giveAll_15 rfl ?_
  refine G_bipush 100 dr_cX17_giveAll_16 (by decide +kernel) ?_
  refine Gp_put 14 hm631618 he631683 dr_cX17_giveAll_18 (gk_X17 D I) (Nat.le_of_ble_eq_true rfl) wr_7_88 rfl rfl rfl (Nat.le_of_ble_eq_true rfl) (fun F631688 e631689 n631690 => ?_)
  have he631691 : F631688 q631605 = .inr (22, [.ref (γ 9 0), .ref (γ 9 1), .ref (γ 9 2), .ref (γ 9 3), .ref (γ 9 4), .ref (γ 9 5), .ref (γ 9 6), .ref (γ 9 7), .ref (γ 9 8), .int p631622, .int p631623, .int 0, .int 0, .int 0, .int 100, .ref (γ 9 15), .ref (γ 9 16), .ref (γ 9 17), .ref (γ 9 18), .ref (γ 9 19), .ref (γ 9 20), .ref (γ 9 21), .ref (γ 9 22), .int p631628, .int p631629, .int p631630, .int p631631, .int p631632, .ref q631620, .ref (γ 9 29), .int p631633, .ref (γ 9 31), .int p631634, .int p631635, .int p631636, .ref q631621]) := e631689
  have mk631692 : mKp (F631604 q631605) (F631688 q631605) := mKp_tr mk631684 (by rw [he631683, he631691]; exact ⟨rfl, rfl⟩)
  have n631693 : ∀ b, b ≠ q631605 → F631688 b = F631604 b := fun b hb => (n631690 b hb).trans (n631685 b hb)
  have kp631694 : F631688 (γ0 9 3) = F631604 (γ0 9 3) := (n631690 (γ0 9 3) (rn_ty (rSk_k hst k0_3 (by decide) (by decide)) htq631605 (by decide))).trans kp631686
  have kp631695 : F631688 (γ0 9 17) = F631604 (γ0 9 17) := (n631690 (γ0 9 17) (rn_ty (rSk_k hst k0_17 (by decide) (by decide)) htq631605 (by decide))).trans kp631687
  refine G_aload_n 0 dr_cX17_giveAll_21 rfl ?_
  have hT631696 : RS D I P631603 F631688 γ el := RS_set hT n631693 htq631605 (by decide) ⟨q631620, q631621, p631622, p631623, 0, 0, 0, 100, p631628, p631629, p631630, p631631, p631632, p631633, p631634, p631635, p631636, he631691, ⟨(hB631663.1), (hB631663.2.1), (gB_w (gBl (show Int32.toInt 0 = 0 by decide)) (by decide) (by decide)), (gB_w (gBl (show Int32.toInt 100 = 100 by decide)) (by decide) (by decide)), (hB631663.2.2.2.2.1), (hB631663.2.2.2.2.2.1), (hB631663.2.2.2.2.2.2.1), (hB631663.2.2.2.2.2.2.2.1), (hB631663.2.2.2.2.2.2.2.2)⟩, ht631637, ht631638, ht631639, ht631640, ht631641, ht631642, ht631643, ht631644, ht631645, ht631646, ht631647, ht631648, ht631649, ht631650, ht631651, ht631652, ht631653, ht631654, ht631655, ht631656, ht631657, ht631658, ht631659, ht631660, hB631664⟩
  have hs631697 := rSk_put hst hT631696 n631693 htq631605 (by decide) (by decide) (Or.inr (Or.inr (by decide)))
  have ac631698 : (fI (F631688 q631605) 11).toInt = 0 := by rw [he631691]; show Int32.toInt 0 = 0; decide
  have ac631699 : (fI (F631688 q631605) 14).toInt = 100 := by rw [he631691]; show Int32.toInt 100 = 100; decide
  refine G_aload_n 1 dr_cX17_giveAll_22 rfl ?_
  have rg631700 := rM_ge hT631696 htq631606 hf1
  have rm631701 := rM_bd hB
  have bd631702 := rBd_c hT631696 htq631606 hf1 hB
  have rc631703 := rc_at hT631696 htq631606 hf1
  refine Gw_callV (As := [.ref q631606]) (gV_ok D I) (cg_366456_SpillForgeModel_zeros l hl0 D I γ el f B P631603 F631688 q631605 q631606 hT631696 htq631605 htq631606 hf1 hB hBk (by omega) (by omega)) dr_cX17_giveAll_23 ⟨wr_10_152, wr_1_14, wr_10_155, by decide, rfl, (Nat.le_of_ble_eq_true rfl), (Nat.le_of_ble_eq_true rfl)⟩ wr_10_154 wr_p_93 hm631618 he631691 rfl (rm_gc hph pk631612) (rm_gs hph pk631612) (Nat.le_of_ble_eq_true rfl) (fun r631707 w631708 dc631704 ds631705 hp631706 => ?_) (fun _ _ _ _ _ z => z.elim)
  obtain ⟨P631715, F631716, γ, el, rfl, rfl, hk631717, ⟨hr631718, hr631719⟩, hB631720, x631709, x631710, x631711, x631712, x631713, ht631714⟩ := hp631706
  have hT631721 := hk631717.1
  have hs631722 := rSk_tr hs631697 hk631717 (by decide) (by decide) (by decide)
  have ht631723 : rKd γ q631605 10 := rSk_k hk631717 htq631605 (by decide) (by decide)
  have ht631724 : rKd γ q631606 9 := rSk_k hk631717 htq631606 (by decide) (by decide)
  have hf631725 : γ 1 q631606 = f := rSk_1 hk631717 htq631606 (by decide) hf1
  clear rg631700 rm631701 bd631702 rc631703
  have mk631726 : mKp (F631604 q631605) (F631716 q631605) := mKp_tr mk631692 (mKp_eq x631713)
  have hph631727 : rPh γ0 el0 f ≤ rPh γ el f := rm_ph hph hr631719
  have pk631728 : rPh γ el f ≤ 387 * B + 6000 := rm_pk (rM_ge hT631721 ht631724 hf631725).1 (rM_bd hB631720)
  change G _ _ _ _ _ _ _ _ _ _ _
  refine G_widen (cs' := ((rPh γ el f - rPh γ0 el0 f) / 18)) (sl' := (rPh γ el f - rPh γ0 el0 f)) (rm_wc hph hr631718) (rm_ws hph hr631719) ?_
  have r631729 : 0 < γ 6 (γ 1 q631606) := by rw [hf631725]; omega
  have ac631730 : (fI (F631716 q631605) 11).toInt = (fI (F631688 q631605) 11).toInt := by rw [x631713]
  have ac631731 : (fI (F631716 q631605) 14).toInt = (fI (F631688 q631605) 14).toInt := by rw [x631713]
  have hm631732 : q631605 ∈ P631715 := RS_m hT631721 ht631723 (by decide)
  refine rk10_e (show rk_10 γ (F631716 q631605) from RS_o hT631721 ht631723) (fun q631734 q631735 p631736 p631737 p631738 p631739 p631740 p631741 p631742 p631743 p631744 p631745 p631746 p631747 p631748 p631749 p631750 he631733 hB631777 ht631751 ht631752 ht631753 ht631754 ht631755 ht631756 ht631757 ht631758 ht631759 ht631760 ht631761 ht631762 ht631763 ht631764 ht631765 ht631766 ht631767 ht631768 ht631769 ht631770 ht631771 ht631772 ht631773 ht631774 hB631778 => ?_)
  have ac631779 : (fI (F631716 q631605) 11).toInt = p631738.toInt := by rw [he631733]; rfl
  have bp631738 : gB p631738 0 100 := (hB631777.2.2.1)
  have ac631780 : (fI (F631716 q631605) 14).toInt = p631741.toInt := by rw [he631733]; rfl
  have bp631741 : gB p631741 0 2000 := (hB631777.2.2.2.1)
  have ni631781 : rNI γ el F631716 q631606 (γ 6 f) (fI (F631716 q631605) 11).toInt := rNI_s (rNI_0 hT631721 ht631724 hf631725 (by omega)) (by omega)
  refine G_iconst 1 dr_cX17_giveAll_26 (by decide +kernel) ?_
  refine G_istore_n (L' := [(3, .int 1), (0, .ref q631605), (1, .ref q631606), (2, .int p631607)]) dr_cX17_giveAll_27 (Nat.le_of_ble_eq_true rfl) rfl ?_
  have hlp28_653960 : ∀ (n28_653960 : Nat) (P653949 : List Nat) (F653950 : Nat → va_E) (γ el : Nat → Nat → Nat) (g653948 : Int32), gB g653948 1 41 → RS D I P653949 F653950 γ el → rSk f [101] ([1, 3, 5, 6, 8, 9, 101] ++ npk) D I P631603 F631604 γ0 el0 P653949 F653950 γ el → rPh γ0 el0 f ≤ rPh γ el f → rBd γ el f B → γ 6 f = γ0 6 f → ((γ 7 f : Nat) : Int) = (fI (F653950 q631605) 11).toInt → ((γ 16 f : Nat) : Int) + 2001 ≤ (B : Int) + (fI (F653950 q631605) 14).toInt → 100 ≤ (fI (F653950 q631605) 14).toInt → rNI γ el F653950 q631606 (γ 6 f) (fI (F653950 q631605) 11).toInt → mKp (F631604 q631605) (F653950 q631605) → ((42 : Int) - g653948.toInt).toNat < n28_653960 → G (gV D I) l (gRm 10 224 (((387 * B + 6000) - rPh γ0 el0 f) / 18) ((387 * B + 6000) - rPh γ0 el0 f)) (gMA (gV D I) (pg_631611_SpillForgeModel_giveAll D I γ0 el0 f B P631603 F631604 q631605 q631606 p631607) gNA (((387 * B + 6000) - rPh γ0 el0 f) / 18) ((387 * B + 6000) - rPh γ0 el0 f)) ky_631611_SpillForgeModel_giveAll 28 [(3, .int g653948), (0, .ref q631605), (1, .ref q631606), (2, .int p631607)] [] (va_pl P653949 F653950) ((rPh γ el f - rPh γ0 el0 f) / 18) (rPh γ el f - rPh γ0 el0 f) := by
    intro n28_653960
    induction n28_653960 with
    | zero => intro P653949 F653950 γ el g653948 bg653948 hT653951 hs653952 hph653953 hB653954 x653955 x653956 x653957 x653958 x653959 x653960 hm28_653960; exact absurd hm28_653960 (Nat.not_lt_zero _)
    | succ n28_653960 ih28_653960 =>
      intro P653949 F653950 γ el g653948 bg653948 hT653951 hs653952 hph653953 hB653954 x653955 x653956 x653957 x653958 x653959 x653960 hm28_653960
      clear r631613 r631614 r631615 r631616 r631617 hr631718 hr631719 hph631727 pk631728 r631729
      have ht653962 : rKd γ q631605 10 := rSk_k hs653952 hzq631605 (by decide) (by decide)
      have ht653963 : rKd γ q631606 9 := rSk_k hs653952 hzq631606 (by decide) (by decide)
      have hf653964 : γ 1 q631606 = f := rSk_1 hs653952 hzq631606 (by decide) hf0
      have pk653965 : rPh γ el f ≤ 387 * B + 6000 := rm_pk (rM_ge hT653951 ht653963 hf653964).1 (rM_bd hB653954)
      have r653966 : 0 < γ 6 (γ 1 q631606) := by rw [hf653964]; omega
      have hm653967 : q631605 ∈ P653949 := RS_m hT653951 ht653962 (by decide)
      refine rk10_e (show rk_10 γ (F653950 q631605) from RS_o hT653951 ht653962) (fun q653969 q653970 p653971 p653972 p653973 p653974 p653975 p653976 p653977 p653978 p653979 p653980 p653981 p653982 p653983 p653984 p653985 he653968 hB654012 ht653986 ht653987 ht653988 ht653989 ht653990 ht653991 ht653992 ht653993 ht653994 ht653995 ht653996 ht653997 ht653998 ht653999 ht654000 ht654001 ht654002 ht654003 ht654004 ht654005 ht654006 ht654007 ht654008 ht654009 hB654013 => ?_)
      have ac654014 : (fI (F653950 q631605) 11).toInt = p653973.toInt := by rw [he653968]; rfl
      have bp653973 : gB p653973 0 100 := (hB654012.2.2.1)
      have ac654015 : (fI (F653950 q631605) 14).toInt = p653976.toInt := by rw [he653968]; rfl
      have bp653976 : gB p653976 0 2000 := (hB654012.2.2.2.1)
      refine G_iload_n 0 dr_cX17_giveAll_28 rfl ?_
      refine G_bipush 40 dr_cX17_giveAll_29 (by decide +kernel) ?_
      refine G_icmp_gt 207 dr_cX17_giveAll_31 (by decide +kernel) (fun hc654016 => ?_) (fun hc654016 => ?_)
      · have r654017 : 40 < g653948.toInt := gj_ltL hc654016 (show Int32.toInt 40 = 40 by decide)
        have bg653948' : gB g653948 41 41 := ⟨by omega, by omega⟩
        refine G_iconst (-1) dr_cX17_giveAll_207 (by decide +kernel) ?_
        exact G_iretA dr_cX17_giveAll_208 rfl (show ((rPh γ el f - rPh γ0 el0 f) / 18) ≤ (((387 * B + 6000) - rPh γ0 el0 f) / 18) by omega) (show (rPh γ el f - rPh γ0 el0 f) ≤ ((387 * B + 6000) - rPh γ0 el0 f) by omega) ⟨P653949, F653950, γ, el, (-1), rfl, rfl, hs653952, ⟨by omega, by omega⟩, hB653954, (gB_w (gBl (show Int32.toInt (-1) = (-1) by decide)) (by decide) (by decide)), (by have qa0 : Int32.toInt (-1) = (-1) := (by decide); omega), x653960⟩
      · have r654018 : g653948.toInt ≤ 40 := gj_nltL hc654016 (show Int32.toInt 40 = 40 by decide)
        have bg653948' : gB g653948 1 40 := ⟨by omega, by omega⟩
        refine G_aload_n 2 dr_cX17_giveAll_34 rfl ?_
        have hm654024 : q631606 ∈ P653949 := RS_m hT653951 ht653963 (by decide)
        obtain ⟨q654026, q654027, p654028, p654029, he654025, ht654045, ht654030, ht654031, ht654032, ht654033, r654034, r654035, r654036, r654037, r654038, r654039, r654040, r654041, r654042, r654043, r654044⟩ := show rk_9 γ el q631606 (F653950 q631606) from RS_o hT653951 ht653963
        have bp654028 : gB p654028 0 1000000 := ⟨by omega, by omega⟩
        have bp654029 : gB p654029 0 1000000 := ⟨by omega, by omega⟩
        have hf654046 : γ 1 q654026 = f := (show γ 1 q654026 = γ 1 q631606 from ht654031).trans hf653964
        have hf654047 : γ 1 q654027 = f := (show γ 1 q654027 = γ 1 q631606 from ht654033).trans hf653964
        have r654048 : γ 6 (γ 1 q631606) = γ 6 f := by rw [hf653964]
        have r654049 : γ 16 (γ 1 q631606) = γ 16 f := by rw [hf653964]
        have r654050 : p654029.toInt = γ 6 f ∧ p654029.toInt ≤ 40 := by omega
        clear r654040
        refine Gw_callV (As := []) (gV_ok D I) (ct_7810_Code_countRows l hl0 D I γ el P653949 F653950 q631606 hT653951 ht653963 (by omega)) dr_cX17_giveAll_35 ⟨wr_10_229, wr_1_15, wr_10_232, by decide, rfl, (Nat.le_of_ble_eq_true rfl), (Nat.le_of_ble_eq_true rfl)⟩ wr_10_230 wr_10_231 hm654024 he654025 rfl (rm_zc pk653965) (rm_zs pk653965) (Nat.le_of_ble_eq_true rfl) (fun r654022 w654023 dc654019 ds654020 hp654021 => ?_) (fun _ _ _ _ _ z => z.elim)
        obtain ⟨o654051, rfl, rfl, hdc, hds, ht654052⟩ := hp654021
        have bo654051 := gB_any o654051
        change G _ _ _ _ _ _ _ (.int o654051 :: _) _ _ _
        refine G_widen (cs' := ((rPh γ el f - rPh γ0 el0 f) / 18)) (sl' := (rPh γ el f - rPh γ0 el0 f)) (rm_d0 hdc) (rm_d0 hds) ?_
        refine G_sipush 4000 dr_cX17_giveAll_38 (by decide +kernel) ?_
        refine G_icmp_le 46 dr_cX17_giveAll_41 (by decide +kernel) (fun hc654053 => ?_) (fun hc654053 => ?_)
        · have r654054 : o654051.toInt ≤ 4000 := gj_le hc654053 (show Int32.toInt 4000 = 4000 by decide)
          have bo654051' : gB o654051 (-2147483648) 4000 := ⟨by omega, by omega⟩
          refine G_aload_n 1 dr_cX17_giveAll_46 rfl ?_
          refine G_aload_n 2 dr_cX17_giveAll_47 rfl ?_
          refine G_iconst 0 dr_cX17_giveAll_48 (by decide +kernel) ?_
          refine Gw_callV (As := [.ref q631606, .int 0]) (gV_ok D I) (ct_277516_SpillForgeModel_graph l hl0 D I γ el P653949 F653950 q631605 q631606 0 hT653951 ht653962 ht653963 (gB_w (gBl (show Int32.toInt 0 = 0 by decide)) (by decide) (by decide)) (by omega)) dr_cX17_giveAll_49 ⟨wr_10_233, wr_1_14, wr_10_236, by decide, rfl, (Nat.le_of_ble_eq_true rfl), (Nat.le_of_ble_eq_true rfl)⟩ wr_10_235 wr_p_99 hm653967 he653968 rfl (rm_zc pk653965) (rm_zs pk653965) (Nat.le_of_ble_eq_true rfl) (fun r654058 w654059 dc654055 ds654056 hp654057 => ?_) (fun _ _ _ _ _ z => z.elim)
          obtain ⟨F654063, rfl, rfl, hT654064, hs654065, hdc, hds, x654060, x654061, ht654062⟩ := hp654057
          have he654066 : F654063 q631606 = .inr (18, [.ref q654026, .ref q654027, .int p654028, .int p654029]) := (hs654065 q631606 (rT0 ht653963 (by decide)) (rT1 ht653963 (by decide)) (rT2 ht653963 (by decide))).trans he654025
          have hs654067 := rSk_str hs653952 hT654064 hs654065 (by decide) (by decide) (by decide)
          have kp654068 : F654063 q631605 = F653950 q631605 := x654061
          have mk654069 : mKp (F631604 q631605) (F654063 q631605) := mKp_tr x653960 (mKp_eq x654061)
          have he654070 : F654063 q631605 = .inr (22, [.ref (γ 9 0), .ref (γ 9 1), .ref (γ 9 2), .ref (γ 9 3), .ref (γ 9 4), .ref (γ 9 5), .ref (γ 9 6), .ref (γ 9 7), .ref (γ 9 8), .int p653971, .int p653972, .int p653973, .int p653974, .int p653975, .int p653976, .ref (γ 9 15), .ref (γ 9 16), .ref (γ 9 17), .ref (γ 9 18), .ref (γ 9 19), .ref (γ 9 20), .ref (γ 9 21), .ref (γ 9 22), .int p653977, .int p653978, .int p653979, .int p653980, .int p653981, .ref q653969, .ref (γ 9 29), .int p653982, .ref (γ 9 31), .int p653983, .int p653984, .int p653985, .ref q653970]) := (x654061).trans he653968
          rw [show Int32.toInt 0 = 0 from by decide] at x654060
          change G _ _ _ _ _ _ _ _ _ _ _
          refine G_widen (cs' := ((rPh γ el f - rPh γ0 el0 f) / 18)) (sl' := (rPh γ el f - rPh γ0 el0 f)) (rm_d0 hdc) (rm_d0 hds) ?_
          have ni654071 : rNI γ el F654063 q631606 (γ 6 f) (fI (F654063 q631605) 11).toInt := rNI_s (rNI_str hT653951 ht653963 hf653964 hs654065 (by decide) x653959) (by rw [x654061])
          have gr654072 : rGr γ el F654063 q631606 (γ 6 f) (cB (F654063 (γ0 9 3))) (vA (γ 6 f)) := by have z := x654060 (by decide); rw [hf653964] at z; rw [← congrFun (rSk_9 hs654067) 3]; exact gq_str hT653951 ht653963 hf653964 hs654065 (by decide) z
          have ac654073 : (fI (F654063 q631605) 11).toInt = (fI (F653950 q631605) 11).toInt := by rw [kp654068]
          have ac654074 : (fI (F654063 q631605) 14).toInt = (fI (F653950 q631605) 14).toInt := by rw [kp654068]
          have hlp52_655569 : ∀ (n52_655569 : Nat) (P655557 : List Nat) (F655558 : Nat → va_E) (γ el : Nat → Nat → Nat) , RS D I P655557 F655558 γ el → rSk f [101] ([1, 3, 5, 6, 8, 9, 101] ++ npk) D I P631603 F631604 γ0 el0 P655557 F655558 γ el → rPh γ0 el0 f ≤ rPh γ el f → rBd γ el f B → γ 6 f = γ0 6 f → ((γ 7 f : Nat) : Int) = (fI (F655558 q631605) 11).toInt → ((γ 16 f : Nat) : Int) + 2001 ≤ (B : Int) + (fI (F655558 q631605) 14).toInt → 100 ≤ (fI (F655558 q631605) 14).toInt → rNI γ el F655558 q631606 (γ 6 f) (fI (F655558 q631605) 11).toInt → rGr γ el F655558 q631606 (γ 6 f) (cB (F655558 (γ0 9 3))) (vA (γ 6 f)) → mKp (F631604 q631605) (F655558 q631605) → rsum (fun i => γ 2 (γ 14 (el (γ 14 q631606) i))) (γ 6 f) < n52_655569 → G (gV D I) l (gRm 10 224 (((387 * B + 6000) - rPh γ0 el0 f) / 18) ((387 * B + 6000) - rPh γ0 el0 f)) (gMA (gV D I) (pg_631611_SpillForgeModel_giveAll D I γ0 el0 f B P631603 F631604 q631605 q631606 p631607) gNA (((387 * B + 6000) - rPh γ0 el0 f) / 18) ((387 * B + 6000) - rPh γ0 el0 f)) ky_631611_SpillForgeModel_giveAll 52 [(3, .int g653948), (0, .ref q631605), (1, .ref q631606), (2, .int p631607)] [] (va_pl P655557 F655558) ((rPh γ el f - rPh γ0 el0 f) / 18) (rPh γ el f - rPh γ0 el0 f) := by
            intro n52_655569
            induction n52_655569 with
            | zero => intro P655557 F655558 γ el hT655559 hs655560 hph655561 hB655562 x655563 x655564 x655565 x655566 x655567 x655568 x655569 hm52_655569; exact absurd hm52_655569 (Nat.not_lt_zero _)
            | succ n52_655569 ih52_655569 =>
              intro P655557 F655558 γ el hT655559 hs655560 hph655561 hB655562 x655563 x655564 x655565 x655566 x655567 x655568 x655569 hm52_655569
              clear r654034 r654035 r654036 r654037 r654038 r654039 r654041 r654042 r654043 r654044 bp654028 bp654029 r654048 r654049 r654050
              have ht655571 : rKd γ q631605 10 := rSk_k hs655560 hzq631605 (by decide) (by decide)
              have ht655572 : rKd γ q631606 9 := rSk_k hs655560 hzq631606 (by decide) (by decide)
              have hf655573 : γ 1 q631606 = f := rSk_1 hs655560 hzq631606 (by decide) hf0
              have pk655574 : rPh γ el f ≤ 387 * B + 6000 := rm_pk (rM_ge hT655559 ht655572 hf655573).1 (rM_bd hB655562)
              have r655575 : 0 < γ 6 (γ 1 q631606) := by rw [hf655573]; omega
              have hm655576 : q631605 ∈ P655557 := RS_m hT655559 ht655571 (by decide)
              refine rk10_e (show rk_10 γ (F655558 q631605) from RS_o hT655559 ht655571) (fun q655578 q655579 p655580 p655581 p655582 p655583 p655584 p655585 p655586 p655587 p655588 p655589 p655590 p655591 p655592 p655593 p655594 he655577 hB655621 ht655595 ht655596 ht655597 ht655598 ht655599 ht655600 ht655601 ht655602 ht655603 ht655604 ht655605 ht655606 ht655607 ht655608 ht655609 ht655610 ht655611 ht655612 ht655613 ht655614 ht655615 ht655616 ht655617 ht655618 hB655622 => ?_)
              have ac655623 : (fI (F655558 q631605) 11).toInt = p655582.toInt := by rw [he655577]; rfl
              have bp655582 : gB p655582 0 100 := (hB655621.2.2.1)
              have ac655624 : (fI (F655558 q631605) 14).toInt = p655585.toInt := by rw [he655577]; rfl
              have bp655585 : gB p655585 0 2000 := (hB655621.2.2.2.1)
              refine G_aload_n 1 dr_cX17_giveAll_52 rfl ?_
              refine G_aload_n 2 dr_cX17_giveAll_53 rfl ?_
              refine G_iload_n 3 dr_cX17_giveAll_54 rfl ?_
              have rg655625 := rM_ge hT655559 ht655572 hf655573
              have rm655626 := rM_bd hB655562
              have bd655627 := rBd_c hT655559 ht655572 hf655573 hB655562
              have rc655628 := rc_at hT655559 ht655572 hf655573
              refine Gw_callV (As := [.ref q631606, .int p631607]) (gV_ok D I) (cg_398809_SpillForgeModel_merge l hl0 D I γ el f B P655557 F655558 q631605 q631606 p631607 hT655559 ht655571 ht655572 hf655573 hB655562 hBk (by omega)) dr_cX17_giveAll_55 ⟨wr_11_8, wr_1_14, wr_11_11, by decide, rfl, (Nat.le_of_ble_eq_true rfl), (Nat.le_of_ble_eq_true rfl)⟩ wr_11_10 wr_p_101 hm655576 he655577 rfl (rm_gc hph655561 pk655574) (rm_gs hph655561 pk655574) (Nat.le_of_ble_eq_true rfl) (fun r655632 w655633 dc655629 ds655630 hp655631 => ?_) (fun _ _ _ _ _ z => z.elim)
              obtain ⟨P655645, F655646, γ, el, o655634, rfl, rfl, hk655647, ⟨hr655648, hr655649⟩, hB655650, bo655634, x655635, x655636, x655637, x655638, x655639, x655640, x655641, x655642, x655643, x655644⟩ := hp655631
              have hT655651 := hk655647.1
              have hs655652 := rSk_tr hs655560 hk655647 (by decide) (by decide) (by decide)
              have ht655653 : rKd γ q631605 10 := rSk_k hk655647 ht655571 (by decide) (by decide)
              have ht655654 : rKd γ q631606 9 := rSk_k hk655647 ht655572 (by decide) (by decide)
              have hf655655 : γ 1 q631606 = f := rSk_1 hk655647 ht655572 (by decide) hf655573
              clear rg655625 rm655626 bd655627 rc655628
              have mk655656 : mKp (F631604 q631605) (F655646 q631605) := mKp_tr x655569 x655644
              have hph655657 : rPh γ0 el0 f ≤ rPh γ el f := rm_ph hph655561 hr655649
              have pk655658 : rPh γ el f ≤ 387 * B + 6000 := rm_pk (rM_ge hT655651 ht655654 hf655655).1 (rM_bd hB655650)
              change G _ _ _ _ _ _ _ (.int o655634 :: _) _ _ _
              refine G_widen (cs' := ((rPh γ el f - rPh γ0 el0 f) / 18)) (sl' := (rPh γ el f - rPh γ0 el0 f)) (rm_wc hph655561 hr655648) (rm_ws hph655561 hr655649) ?_
              have r655659 : 0 < γ 6 (γ 1 q631606) := by rw [hf655655]; omega
              have hm655660 : q631605 ∈ P655645 := RS_m hT655651 ht655653 (by decide)
              refine rk10_e (show rk_10 γ (F655646 q631605) from RS_o hT655651 ht655653) (fun q655662 q655663 p655664 p655665 p655666 p655667 p655668 p655669 p655670 p655671 p655672 p655673 p655674 p655675 p655676 p655677 p655678 he655661 hB655705 ht655679 ht655680 ht655681 ht655682 ht655683 ht655684 ht655685 ht655686 ht655687 ht655688 ht655689 ht655690 ht655691 ht655692 ht655693 ht655694 ht655695 ht655696 ht655697 ht655698 ht655699 ht655700 ht655701 ht655702 hB655706 => ?_)
              have ac655707 : (fI (F655646 q631605) 11).toInt = p655666.toInt := by rw [he655661]; rfl
              have bp655666 : gB p655666 0 100 := (hB655705.2.2.1)
              have ac655708 : (fI (F655646 q631605) 14).toInt = p655669.toInt := by rw [he655661]; rfl
              have bp655669 : gB p655669 0 2000 := (hB655705.2.2.2.1)
              have ni655709 : rNI γ el F655646 q631606 (γ 6 f) (fI (F655646 q631605) 11).toInt := rNI_s (rNI_mg x655640 x655567) x655641
              refine G_if_eq 70 dr_cX17_giveAll_58 (by decide +kernel) (fun hc655710 => ?_) (fun hc655710 => ?_)
              · have r655711 : o655634.toInt = 0 := gj_eq hc655710 (show Int32.toInt 0 = 0 by decide)
                have bo655634' : gB o655634 0 0 := gB_t0 r655711
                have r655712 := x655643 (by omega)
                have gr655713 : rGr γ el F655646 q631606 (γ 6 f) (cB (F655646 (γ0 9 3))) (vA (γ 6 f)) := by rw [r655712.1, r655712.2.1, r655712.2.2]; exact x655568
                refine G_aload_n 1 dr_cX17_giveAll_70 rfl ?_
                refine G_aload_n 2 dr_cX17_giveAll_71 rfl ?_
                refine Gw_callV (As := [.ref q631606]) (gV_ok D I) (ct_409908_SpillForgeModel_weigh l hl0 D I γ el P655645 F655646 q631605 q631606 hT655651 ht655653 ht655654 (by omega)) dr_cX17_giveAll_72 ⟨wr_11_33, wr_1_14, wr_11_36, by decide, rfl, (Nat.le_of_ble_eq_true rfl), (Nat.le_of_ble_eq_true rfl)⟩ wr_11_35 wr_p_104 hm655660 he655661 rfl (rm_zc pk655658) (rm_zs pk655658) (Nat.le_of_ble_eq_true rfl) (fun r655717 w655718 dc655714 ds655715 hp655716 => ?_) (fun _ _ _ _ _ z => z.elim)
                obtain ⟨F655722, rfl, rfl, hT655723, hs655724, hdc, hds, x655719, x655720, ht655721⟩ := hp655716
                have hs655725 := rSk_str hs655652 hT655723 hs655724 (by decide) (by decide) (by decide)
                have kp655726 : F655722 q631605 = F655646 q631605 := x655719
                have kp655727 : F655722 (γ0 9 3) = F655646 (γ0 9 3) := (show F655722 (γ0 9 3) = F655646 (γ0 9 3) by rw [← congrFun (rSk_9 hs655725) 3]; exact x655720)
                have mk655728 : mKp (F631604 q631605) (F655722 q631605) := mKp_tr mk655656 (mKp_eq x655719)
                have he655729 : F655722 q631605 = .inr (22, [.ref (γ 9 0), .ref (γ 9 1), .ref (γ 9 2), .ref (γ 9 3), .ref (γ 9 4), .ref (γ 9 5), .ref (γ 9 6), .ref (γ 9 7), .ref (γ 9 8), .int p655664, .int p655665, .int p655666, .int p655667, .int p655668, .int p655669, .ref (γ 9 15), .ref (γ 9 16), .ref (γ 9 17), .ref (γ 9 18), .ref (γ 9 19), .ref (γ 9 20), .ref (γ 9 21), .ref (γ 9 22), .int p655670, .int p655671, .int p655672, .int p655673, .int p655674, .ref q655662, .ref (γ 9 29), .int p655675, .ref (γ 9 31), .int p655676, .int p655677, .int p655678, .ref q655663]) := (x655719).trans he655661
                change G _ _ _ _ _ _ _ _ _ _ _
                refine G_widen (cs' := ((rPh γ el f - rPh γ0 el0 f) / 18)) (sl' := (rPh γ el f - rPh γ0 el0 f)) (rm_d0 hdc) (rm_d0 hds) ?_
                have ni655730 : rNI γ el F655722 q631606 (γ 6 f) (fI (F655722 q631605) 11).toInt := rNI_s (rNI_str hT655651 ht655654 hf655655 hs655724 (by decide) ni655709) (by rw [x655719])
                have gr655731 : rGr γ el F655722 q631606 (γ 6 f) (cB (F655722 (γ0 9 3))) (vA (γ 6 f)) := by rw [← congrFun (rSk_9 hs655725) 3, x655720, congrFun (rSk_9 hs655725) 3]; exact gq_str hT655651 ht655654 hf655655 hs655724 (by decide) gr655713
                have ac655732 : (fI (F655722 q631605) 11).toInt = (fI (F655646 q631605) 11).toInt := by rw [kp655726]
                have ac655733 : (fI (F655722 q631605) 14).toInt = (fI (F655646 q631605) 14).toInt := by rw [kp655726]
                refine G_aload_n 1 dr_cX17_giveAll_75 rfl ?_
                refine G_iload_n 3 dr_cX17_giveAll_76 rfl ?_
                refine Gw_callV (As := [.int p631607]) (gV_ok D I) (ct_335943_SpillForgeModel_colours l hl0 D I γ el P655645 F655722 q631605 p631607 hT655723 ht655653 bp631607) dr_cX17_giveAll_77 ⟨wr_11_47, wr_1_14, wr_11_50, by decide, rfl, (Nat.le_of_ble_eq_true rfl), (Nat.le_of_ble_eq_true rfl)⟩ wr_11_49 wr_p_106 hm655660 he655729 rfl (rm_zc pk655658) (rm_zs pk655658) (Nat.le_of_ble_eq_true rfl) (fun r655737 w655738 dc655734 ds655735 hp655736 => ?_) (fun _ _ _ _ _ z => z.elim)
                obtain ⟨F655743, o655739, rfl, rfl, hT655744, hs655745, hdc, hds, bo655739, x655740, x655741, x655742⟩ := hp655736
                have hs655746 := rSk_str hs655725 hT655744 hs655745 (by decide) (by decide) (by decide)
                have kp655747 : F655743 q631605 = F655646 q631605 := (x655741).trans kp655726
                have kp655748 : F655743 (γ0 9 3) = F655646 (γ0 9 3) := ((show F655743 (γ0 9 3) = F655722 (γ0 9 3) by rw [← congrFun (rSk_9 hs655746) 3]; exact x655742)).trans kp655727
                have mk655749 : mKp (F631604 q631605) (F655743 q631605) := mKp_tr mk655728 (mKp_eq x655741)
                have he655750 : F655743 q631605 = .inr (22, [.ref (γ 9 0), .ref (γ 9 1), .ref (γ 9 2), .ref (γ 9 3), .ref (γ 9 4), .ref (γ 9 5), .ref (γ 9 6), .ref (γ 9 7), .ref (γ 9 8), .int p655664, .int p655665, .int p655666, .int p655667, .int p655668, .int p655669, .ref (γ 9 15), .ref (γ 9 16), .ref (γ 9 17), .ref (γ 9 18), .ref (γ 9 19), .ref (γ 9 20), .ref (γ 9 21), .ref (γ 9 22), .int p655670, .int p655671, .int p655672, .int p655673, .int p655674, .ref q655662, .ref (γ 9 29), .int p655675, .ref (γ 9 31), .int p655676, .int p655677, .int p655678, .ref q655663]) := (x655741).trans he655729
                change G _ _ _ _ _ _ _ (.int o655739 :: _) _ _ _
                refine G_widen (cs' := ((rPh γ el f - rPh γ0 el0 f) / 18)) (sl' := (rPh γ el f - rPh γ0 el0 f)) (rm_d0 hdc) (rm_d0 hds) ?_
                have ni655751 : rNI γ el F655743 q631606 (γ 6 f) (fI (F655743 q631605) 11).toInt := rNI_s (rNI_str hT655723 ht655654 hf655655 hs655745 (by decide) ni655730) (by rw [x655741])
                have gr655752 : rGr γ el F655743 q631606 (γ 6 f) (cB (F655743 (γ0 9 3))) (vA (γ 6 f)) := by rw [← congrFun (rSk_9 hs655746) 3, x655742, congrFun (rSk_9 hs655746) 3]; exact gq_str hT655723 ht655654 hf655655 hs655745 (by decide) gr655731
                have ac655753 : (fI (F655743 q631605) 11).toInt = (fI (F655646 q631605) 11).toInt := by rw [kp655747]
                have ac655754 : (fI (F655743 q631605) 14).toInt = (fI (F655646 q631605) 14).toInt := by rw [kp655747]
                refine G_istore (L' := [(4, .int o655739), (3, .int g653948), (0, .ref q631605), (1, .ref q631606), (2, .int p631607)]) dr_cX17_giveAll_80 (Nat.le_of_ble_eq_true rfl) rfl ?_
                refine G_iload 0 dr_cX17_giveAll_82 rfl ?_
                refine G_if_ne 180 dr_cX17_giveAll_84 (by decide +kernel) (fun hc655755 => ?_) (fun hc655755 => ?_)
                · have r655756 : o655739.toInt ≠ 0 := gj_neq hc655755 (show Int32.toInt 0 = 0 by decide)
                  have bo655739' : gB o655739 1 2000 := ⟨by omega, by omega⟩
                  have ac655757 : (fI (F655743 q631605) 11).toInt = p655666.toInt := by rw [he655750]; rfl
                  have ac655758 : (fI (F655743 q631605) 14).toInt = p655669.toInt := by rw [he655750]; rfl
                  refine G_aload_n 2 dr_cX17_giveAll_180 rfl ?_
                  refine G_dup dr_cX17_giveAll_181 rfl ?_
                  refine Gp_get 12 hm655660 he655750 dr_cX17_giveAll_182 (gk_X17 D I) (Nat.le_of_ble_eq_true rfl) wr_7_86 rfl ?_
                  have bp655667 : gB p655667 (-2147483648) 2147483647 := (gB_any p655667)
                  refine G_iload 0 dr_cX17_giveAll_185 rfl ?_
                  refine G_iadd dr_cX17_giveAll_187 (G_nam fun z655759 hz655759 => ?_)
                  have bz655759 : gB z655759 (-2147483648) 2147483647 := gB_any z655759
                  refine Gp_put 12 hm655660 he655750 dr_cX17_giveAll_188 (gk_X17 D I) (Nat.le_of_ble_eq_true rfl) wr_7_86 rfl rfl rfl (Nat.le_of_ble_eq_true rfl) (fun F655760 e655761 n655762 => ?_)
                  have he655763 : F655760 q631605 = .inr (22, [.ref (γ 9 0), .ref (γ 9 1), .ref (γ 9 2), .ref (γ 9 3), .ref (γ 9 4), .ref (γ 9 5), .ref (γ 9 6), .ref (γ 9 7), .ref (γ 9 8), .int p655664, .int p655665, .int p655666, .int z655759, .int p655668, .int p655669, .ref (γ 9 15), .ref (γ 9 16), .ref (γ 9 17), .ref (γ 9 18), .ref (γ 9 19), .ref (γ 9 20), .ref (γ 9 21), .ref (γ 9 22), .int p655670, .int p655671, .int p655672, .int p655673, .int p655674, .ref q655662, .ref (γ 9 29), .int p655675, .ref (γ 9 31), .int p655676, .int p655677, .int p655678, .ref q655663]) := e655761
                  have mk655764 : mKp (F631604 q631605) (F655760 q631605) := mKp_tr mk655749 (by rw [he655750, he655763]; exact ⟨rfl, rfl⟩)
                  have kp655765 : F655760 (γ0 9 3) = F655646 (γ0 9 3) := (n655762 (γ0 9 3) (rn_ty (rSk_k hs655746 k0_3 (by decide) (by decide)) ht655653 (by decide))).trans kp655748
                  have kp655766 : F655760 (γ0 9 17) = F655743 (γ0 9 17) := n655762 (γ0 9 17) (rn_ty (rSk_k hs655746 k0_17 (by decide) (by decide)) ht655653 (by decide))
                  have hT655767 : RS D I P655645 F655760 γ el := RS_set hT655744 n655762 ht655653 (by decide) ⟨q655662, q655663, p655664, p655665, p655666, z655759, p655668, p655669, p655670, p655671, p655672, p655673, p655674, p655675, p655676, p655677, p655678, he655763, ⟨(hB655705.1), (hB655705.2.1), bp655666, bp655669, (hB655705.2.2.2.2.1), (hB655705.2.2.2.2.2.1), (hB655705.2.2.2.2.2.2.1), (hB655705.2.2.2.2.2.2.2.1), (hB655705.2.2.2.2.2.2.2.2)⟩, ht655679, ht655680, ht655681, ht655682, ht655683, ht655684, ht655685, ht655686, ht655687, ht655688, ht655689, ht655690, ht655691, ht655692, ht655693, ht655694, ht655695, ht655696, ht655697, ht655698, ht655699, ht655700, ht655701, ht655702, hB655706⟩
                  have hs655768 := rSk_put hs655746 hT655767 n655762 ht655653 (by decide) (by decide) (Or.inr (Or.inr (by decide)))
                  have ac655769 : (fI (F655760 q631605) 11).toInt = p655666.toInt := by rw [he655763]; rfl
                  have ac655770 : (fI (F655760 q631605) 14).toInt = p655669.toInt := by rw [he655763]; rfl
                  have gr655772 := rNI_gr ni655751 gr655752
                  have p3655773 : (fI (F655760 q631605) 11).toInt + (rcn (cB (F655760 (γ0 9 3))) 100 : Nat) ≤ 100 := by rw [(n655762 (γ0 9 3) (rn_ty (rSk_k hs655768 k0_3 (by decide) (by decide)) ht655653 (by decide)))]; have z := gr655772.1; omega
                  have p4655774 : rPl γ el F655760 q631606 (γ 6 f) (fun _ _ => rNx (rSd (cB (F655760 (γ0 9 3))))) := by rw [(n655762 (γ0 9 3) (rn_ty (rSk_k hs655768 k0_3 (by decide) (by decide)) ht655653 (by decide)))]; exact rPl_fr hT655744 ht655654 hf655655 gr655772.2 (fun b hb _ => n655762 b (rn_ty (show rKd γ b 1 from hb) ht655653 (by decide)))
                  refine G_aload_n 2 dr_cX17_giveAll_191 rfl ?_
                  refine G_aload_n 3 dr_cX17_giveAll_192 rfl ?_
                  have rg655775 := rM_ge hT655767 ht655654 hf655655
                  have rm655776 := rM_bd hB655650
                  have bd655777 := rBd_c hT655767 ht655654 hf655655 hB655650
                  have rc655778 := rc_at hT655767 ht655654 hf655655
                  refine Gw_callV (As := [.ref q631606]) (gV_ok D I) (cg_589779_SpillForgeModel_spill l hl0 D I γ el f B P655645 F655760 q631605 q631606 hT655767 ht655653 ht655654 hf655655 hB655650 hBk (by omega) (by omega) (by omega) (by rw [congrFun (rSk_9 hs655768) 3]; exact p3655773) (by rw [congrFun (rSk_9 hs655768) 3]; exact p4655774) (by omega)) dr_cX17_giveAll_193 ⟨wr_11_63, wr_1_14, wr_11_66, by decide, rfl, (Nat.le_of_ble_eq_true rfl), (Nat.le_of_ble_eq_true rfl)⟩ wr_11_65 wr_p_110 hm655660 he655763 rfl (rm_gc hph655657 pk655658) (rm_gs hph655657 pk655658) (Nat.le_of_ble_eq_true rfl) (fun r655782 w655783 dc655779 ds655780 hp655781 => ?_) (fun _ _ _ _ _ z => z.elim)
                  obtain ⟨P655789, F655790, γ, el, o655784, rfl, rfl, hk655791, ⟨hr655792, hr655793⟩, hB655794, bo655784, x655785, x655786, x655787, x655788⟩ := hp655781
                  have hT655795 := hk655791.1
                  have hs655796 := rSk_tr hs655768 hk655791 (by decide) (by decide) (by decide)
                  have ht655797 : rKd γ q631605 10 := rSk_k hk655791 ht655653 (by decide) (by decide)
                  have ht655798 : rKd γ q631606 9 := rSk_k hk655791 ht655654 (by decide) (by decide)
                  have hf655799 : γ 1 q631606 = f := rSk_1 hk655791 ht655654 (by decide) hf655655
                  clear rg655775 rm655776 bd655777 rc655778
                  have mk655800 : mKp (F631604 q631605) (F655790 q631605) := mKp_tr mk655764 x655788
                  have hph655801 : rPh γ0 el0 f ≤ rPh γ el f := rm_ph hph655657 hr655793
                  have pk655802 : rPh γ el f ≤ 387 * B + 6000 := rm_pk (rM_ge hT655795 ht655798 hf655799).1 (rM_bd hB655794)
                  change G _ _ _ _ _ _ _ (.int o655784 :: _) _ _ _
                  refine G_widen (cs' := ((rPh γ el f - rPh γ0 el0 f) / 18)) (sl' := (rPh γ el f - rPh γ0 el0 f)) (rm_wc hph655657 hr655792) (rm_ws hph655657 hr655793) ?_
                  have r655803 : 0 < γ 6 (γ 1 q631606) := by rw [hf655799]; omega
                  have hm655804 : q631605 ∈ P655789 := RS_m hT655795 ht655797 (by decide)
                  refine rk10_e (show rk_10 γ (F655790 q631605) from RS_o hT655795 ht655797) (fun q655806 q655807 p655808 p655809 p655810 p655811 p655812 p655813 p655814 p655815 p655816 p655817 p655818 p655819 p655820 p655821 p655822 he655805 hB655849 ht655823 ht655824 ht655825 ht655826 ht655827 ht655828 ht655829 ht655830 ht655831 ht655832 ht655833 ht655834 ht655835 ht655836 ht655837 ht655838 ht655839 ht655840 ht655841 ht655842 ht655843 ht655844 ht655845 ht655846 hB655850 => ?_)
                  have ac655851 : (fI (F655790 q631605) 11).toInt = p655810.toInt := by rw [he655805]; rfl
                  have bp655810 : gB p655810 0 100 := (hB655849.2.2.1)
                  have ac655852 : (fI (F655790 q631605) 14).toInt = p655813.toInt := by rw [he655805]; rfl
                  have bp655813 : gB p655813 0 2000 := (hB655849.2.2.2.1)
                  refine G_if_ne 201 dr_cX17_giveAll_196 (by decide +kernel) (fun hc655853 => ?_) (fun hc655853 => ?_)
                  · have r655854 : o655784.toInt ≠ 0 := gj_neq hc655853 (show Int32.toInt 0 = 0 by decide)
                    have bo655784' : gB o655784 1 1 := gB_t1 bo655784 r655854
                    have ni655855 := x655786.resolve_left (by omega)
                    clear x655786
                    obtain ⟨rni655855a, rni655855b, rni655855c, rni655855d, rni655855e, rni655855f⟩ := ni655855
                    obtain ⟨z655856, hz655856⟩ : ∃ z : Int32, z = g653948 + Int32.ofInt 1 := ⟨_, rfl⟩
                    have ez655856 : z655856.toInt = g653948.toInt + 1 := gI_inc hz655856 (by decide) bg653948' (by decide) (by decide)
                    have bz655856 : gB z655856 2 41 := ⟨by omega, by omega⟩
                    refine G_iinc (L' := [(3, .int z655856), (4, .int o655739), (0, .ref q631605), (1, .ref q631606), (2, .int p631607)]) z655856 1 dr_cX17_giveAll_201 rfl hz655856.symm (Nat.le_of_ble_eq_true rfl) rfl ?_
                    refine G_goto 28 dr_cX17_giveAll_204 (by decide +kernel) ?_
                    refine G_lv (L' := [(3, .int z655856), (0, .ref q631605), (1, .ref q631606), (2, .int p631607)]) [0, 2, 3, 4] rfl ?_
                    have ac655857 : (fI (F655790 q631605) 11).toInt = p655810.toInt := by rw [he655805]; rfl
                    have ac655858 : (fI (F655790 q631605) 14).toInt = p655813.toInt := by rw [he655805]; rfl
                    exact ih28_653960 P655789 F655790 γ el z655856 (gB_w bz655856 (by decide) (by decide)) hT655795 hs655796 hph655801 hB655794 (by omega) (by omega) (by omega) (by omega) rni655855f mk655800 (by omega)
                  · have r655859 : o655784.toInt = 0 := gj_eq hc655853 (show Int32.toInt 0 = 0 by decide)
                    have bo655784' : gB o655784 0 0 := gB_t0 r655859
                    refine G_iconst (-1) dr_cX17_giveAll_199 (by decide +kernel) ?_
                    exact G_iretA dr_cX17_giveAll_200 rfl (show ((rPh γ el f - rPh γ0 el0 f) / 18) ≤ (((387 * B + 6000) - rPh γ0 el0 f) / 18) by omega) (show (rPh γ el f - rPh γ0 el0 f) ≤ ((387 * B + 6000) - rPh γ0 el0 f) by omega) ⟨P655789, F655790, γ, el, (-1), rfl, rfl, hs655796, ⟨by omega, by omega⟩, hB655794, (gB_w (gBl (show Int32.toInt (-1) = (-1) by decide)) (by decide) (by decide)), (by have qa0 : Int32.toInt (-1) = (-1) := (by decide); omega), mk655800⟩
                · have r655860 : o655739.toInt = 0 := gj_eq hc655755 (show Int32.toInt 0 = 0 by decide)
                  have bo655739' : gB o655739 0 0 := ⟨by omega, by omega⟩
                  have cq655861 : rPl γ el F655743 q631606 (γ 6 f) (cqR (cB (F655743 (γ0 9 17))) 0 0) := cq_0 gr655752 (fun m hm => by have z := x655740 (by omega); rw [congrFun (rSk_9 hs655746) 3, congrFun (rSk_9 hs655746) 17] at z; exact z m hm)
                  refine G_iconst 0 dr_cX17_giveAll_87 (by decide +kernel) ?_
                  refine G_istore (L' := [(5, .int 0), (4, .int o655739), (3, .int g653948), (0, .ref q631605), (1, .ref q631606), (2, .int p631607)]) dr_cX17_giveAll_88 (Nat.le_of_ble_eq_true rfl) rfl ?_
                  have hlp90_656464 : ∀ (n90_656464 : Nat) (P656452 : List Nat) (F656453 : Nat → va_E) (γ el : Nat → Nat → Nat) (g656451 : Int32), gB g656451 0 1000000 → RS D I P656452 F656453 γ el → rSk f [101] ([1, 3, 5, 6, 8, 9, 101] ++ npk) D I P631603 F631604 γ0 el0 P656452 F656453 γ el → rPh γ0 el0 f ≤ rPh γ el f → rBd γ el f B → γ 6 f = γ0 6 f → ((γ 7 f : Nat) : Int) = (fI (F656453 q631605) 11).toInt → ((γ 16 f : Nat) : Int) + 2001 ≤ (B : Int) + (fI (F656453 q631605) 14).toInt → 100 ≤ (fI (F656453 q631605) 14).toInt → (F656453 (γ0 9 17) = F655743 (γ0 9 17)) → rPl γ el F656453 q631606 (γ 6 f) (cqR (cB (F655743 (γ0 9 17))) (g656451.toInt : Int).toNat 0) → mKp (F631604 q631605) (F656453 q631605) → ((1000001 : Int) - g656451.toInt).toNat < n90_656464 → G (gV D I) l (gRm 10 224 (((387 * B + 6000) - rPh γ0 el0 f) / 18) ((387 * B + 6000) - rPh γ0 el0 f)) (gMA (gV D I) (pg_631611_SpillForgeModel_giveAll D I γ0 el0 f B P631603 F631604 q631605 q631606 p631607) gNA (((387 * B + 6000) - rPh γ0 el0 f) / 18) ((387 * B + 6000) - rPh γ0 el0 f)) ky_631611_SpillForgeModel_giveAll 90 [(5, .int g656451), (4, .int o655739), (3, .int g653948), (0, .ref q631605), (1, .ref q631606), (2, .int p631607)] [] (va_pl P656452 F656453) ((rPh γ el f - rPh γ0 el0 f) / 18) (rPh γ el f - rPh γ0 el0 f) := by
                    intro n90_656464
                    induction n90_656464 with
                    | zero => intro P656452 F656453 γ el g656451 bg656451 hT656454 hs656455 hph656456 hB656457 x656458 x656459 x656460 x656461 x656462 x656463 x656464 hm90_656464; exact absurd hm90_656464 (Nat.not_lt_zero _)
                    | succ n90_656464 ih90_656464 =>
                      intro P656452 F656453 γ el g656451 bg656451 hT656454 hs656455 hph656456 hB656457 x656458 x656459 x656460 x656461 x656462 x656463 x656464 hm90_656464
                      clear hr655648 hr655649 hph655657 pk655658 r655659 r655712
                      have ht656466 : rKd γ q631605 10 := rSk_k hs656455 hzq631605 (by decide) (by decide)
                      have ht656467 : rKd γ q631606 9 := rSk_k hs656455 hzq631606 (by decide) (by decide)
                      have hf656468 : γ 1 q631606 = f := rSk_1 hs656455 hzq631606 (by decide) hf0
                      have pk656469 : rPh γ el f ≤ 387 * B + 6000 := rm_pk (rM_ge hT656454 ht656467 hf656468).1 (rM_bd hB656457)
                      have r656470 : 0 < γ 6 (γ 1 q631606) := by rw [hf656468]; omega
                      have hm656471 : q631605 ∈ P656452 := RS_m hT656454 ht656466 (by decide)
                      refine rk10_e (show rk_10 γ (F656453 q631605) from RS_o hT656454 ht656466) (fun q656473 q656474 p656475 p656476 p656477 p656478 p656479 p656480 p656481 p656482 p656483 p656484 p656485 p656486 p656487 p656488 p656489 he656472 hB656516 ht656490 ht656491 ht656492 ht656493 ht656494 ht656495 ht656496 ht656497 ht656498 ht656499 ht656500 ht656501 ht656502 ht656503 ht656504 ht656505 ht656506 ht656507 ht656508 ht656509 ht656510 ht656511 ht656512 ht656513 hB656517 => ?_)
                      have ac656518 : (fI (F656453 q631605) 11).toInt = p656477.toInt := by rw [he656472]; rfl
                      have bp656477 : gB p656477 0 100 := (hB656516.2.2.1)
                      have ac656519 : (fI (F656453 q631605) 14).toInt = p656480.toInt := by rw [he656472]; rfl
                      have bp656480 : gB p656480 0 2000 := (hB656516.2.2.2.1)
                      refine G_iload 0 dr_cX17_giveAll_90 rfl ?_
                      refine G_aload_n 4 dr_cX17_giveAll_92 rfl ?_
                      have hm656520 : q631606 ∈ P656452 := RS_m hT656454 ht656467 (by decide)
                      obtain ⟨q656522, q656523, p656524, p656525, he656521, ht656541, ht656526, ht656527, ht656528, ht656529, r656530, r656531, r656532, r656533, r656534, r656535, r656536, r656537, r656538, r656539, r656540⟩ := show rk_9 γ el q631606 (F656453 q631606) from RS_o hT656454 ht656467
                      have bp656524 : gB p656524 0 1000000 := ⟨by omega, by omega⟩
                      have bp656525 : gB p656525 0 1000000 := ⟨by omega, by omega⟩
                      have hf656542 : γ 1 q656522 = f := (show γ 1 q656522 = γ 1 q631606 from ht656527).trans hf656468
                      have hf656543 : γ 1 q656523 = f := (show γ 1 q656523 = γ 1 q631606 from ht656529).trans hf656468
                      have r656544 : γ 6 (γ 1 q631606) = γ 6 f := by rw [hf656468]
                      have r656545 : γ 16 (γ 1 q631606) = γ 16 f := by rw [hf656468]
                      have r656546 : p656525.toInt = γ 6 f ∧ p656525.toInt ≤ 40 := by omega
                      clear r656536
                      refine Gw_callV (As := []) (gV_ok D I) (cp_12780_Code_size l hl0 D I P656452 F656453 q631606 q656522 q656523 p656524 p656525 hm656520 he656521) dr_cX17_giveAll_93 ⟨wr_10_160, wr_1_15, wr_9_131, by decide, rfl, (Nat.le_of_ble_eq_true rfl), (Nat.le_of_ble_eq_true rfl)⟩ wr_9_129 wr_9_130 hm656520 he656521 rfl (rm_zc pk656469) (rm_zs pk656469) (Nat.le_of_ble_eq_true rfl) (fun r656550 w656551 dc656547 ds656548 hp656549 => ?_) (fun _ _ _ _ _ z => z.elim)
                      obtain ⟨rfl, rfl, hdc, hds⟩ := hp656549
                      change G _ _ _ _ _ _ _ (.int p656525 :: _) _ _ _
                      refine G_widen (cs' := ((rPh γ el f - rPh γ0 el0 f) / 18)) (sl' := (rPh γ el f - rPh γ0 el0 f)) (rm_d0 hdc) (rm_d0 hds) ?_
                      refine G_icmp_ge 173 dr_cX17_giveAll_96 (by decide +kernel) (fun hc656552 => ?_) (fun hc656552 => ?_)
                      · have r656553 : p656525.toInt ≤ g656451.toInt := gC_le hc656552
                        have r656554 : γ 7 (γ 1 q631606) = γ 7 f := by rw [hf656468]
                        have ac656555 : (fI (F656453 q631605) 11).toInt = p656477.toInt := by rw [he656472]; rfl
                        have ac656556 : (fI (F656453 q631605) 14).toInt = p656480.toInt := by rw [he656472]; rfl
                        refine G_aload_n 3 dr_cX17_giveAll_173 rfl ?_
                        refine G_aload_n 4 dr_cX17_giveAll_174 rfl ?_
                        refine Gw_callV (As := [.ref q631606]) (gV_ok D I) (ct_344832_SpillForgeModel_share l hl0 D I γ el P656452 F656453 q631605 q631606 hT656454 ht656466 ht656467 (by omega) (by omega)) dr_cX17_giveAll_175 ⟨wr_11_59, wr_1_14, wr_11_62, by decide, rfl, (Nat.le_of_ble_eq_true rfl), (Nat.le_of_ble_eq_true rfl)⟩ wr_11_61 wr_p_109 hm656471 he656472 rfl (rm_zc pk656469) (rm_zs pk656469) (Nat.le_of_ble_eq_true rfl) (fun r656560 w656561 dc656557 ds656558 hp656559 => ?_) (fun _ _ _ _ _ z => z.elim)
                        obtain ⟨F656564, rfl, rfl, hT656565, hs656566, hdc, hds, x656562, x656563⟩ := hp656559
                        have he656567 : F656564 q631606 = .inr (18, [.ref q656522, .ref q656523, .int p656524, .int p656525]) := (hs656566 q631606 (rT0 ht656467 (by decide)) (rT1 ht656467 (by decide)) (rT2 ht656467 (by decide))).trans he656521
                        have hs656568 := rSk_str hs656455 hT656565 hs656566 (by decide) (by decide) (by decide) (Or.inr (rFs_e x656562 hf656468))
                        have mk656569 : mKp (F631604 q631605) (F656564 q631605) := mKp_tr x656464 x656563
                        change G _ _ _ _ _ _ _ _ _ _ _
                        refine G_widen (cs' := ((rPh γ el f - rPh γ0 el0 f) / 18)) (sl' := (rPh γ el f - rPh γ0 el0 f)) (rm_d0 hdc) (rm_d0 hds) ?_
                        refine G_iload_n 2 dr_cX17_giveAll_178 rfl ?_
                        exact G_iretA dr_cX17_giveAll_179 rfl (show ((rPh γ el f - rPh γ0 el0 f) / 18) ≤ (((387 * B + 6000) - rPh γ0 el0 f) / 18) by omega) (show (rPh γ el f - rPh γ0 el0 f) ≤ ((387 * B + 6000) - rPh γ0 el0 f) by omega) ⟨P656452, F656564, γ, el, g653948, rfl, rfl, hs656568, ⟨by omega, by omega⟩, hB656457, (gB_w bg653948' (by decide) (by decide)), (by omega), mk656569⟩
                      · have r656570 : g656451.toInt < p656525.toInt := gC_nle hc656552
                        have bg656451' : gB g656451 0 999999 := ⟨by omega, by omega⟩
                        have bp656525' : gB p656525 1 1000000 := ⟨by omega, by omega⟩
                        refine G_aload_n 4 dr_cX17_giveAll_99 rfl ?_
                        refine G_iload 0 dr_cX17_giveAll_100 rfl ?_
                        have hm656571 : q656522 ∈ P656452 := RS_m hT656454 ht656526 (by decide)
                        obtain ⟨⟨p656573, p656574, q656575, he656572, r656576, r656577, r656578, r656580⟩, r656579⟩ := show rk_4 D I γ el F656453 q656522 from RS_o hT656454 ht656526
                        have bp656573 := gB_any p656573
                        have bp656574 : gB p656574 0 1000000 := ⟨by omega, by omega⟩
                        obtain ⟨r656581, r656582, n656589, f656590, r656583, r656584, r656585, r656586, r656587, r656588⟩ := rLC_n r656578 (by omega)
                        have hm656591 : q656575 ∈ P656452 := RS_m hT656454 r656581 (by decide)
                        obtain ⟨q656592, hx656593⟩ : ∃ x, x = el q656522 g656451.toInt.toNat := ⟨_, rfl⟩
                        have hx656594 : f656590 g656451.toNatClampNeg = some q656592 := (r656587 _ (show g656451.toInt.toNat < γ 2 q656522 by first | assumption | omega)).trans (by rw [hx656593])
                        have ht656597 : rKd γ q656592 2 := by rw [hx656593]; exact (r656537 _ (by omega)).resolve_right (fun z => absurd z.1 (by omega))
                        have ht656598 : rFm γ q656592 q656522 := by rw [hx656593]; exact (r656579 _ (show g656451.toInt.toNat < γ 2 q656522 by omega)).2.1
                        have hm656599 : q656592 ∈ P656452 := RS_m hT656454 ht656597 (by decide)
                        obtain ⟨q656601, q656602, p656603, p656604, he656600, ht656611, ht656605, ht656606, ht656607, ht656608, ht656609, bp656603, bp656604, r656610, r656612, r656613⟩ := show rk_2 γ q656592 (F656453 q656592) from RS_o hT656454 ht656597
                        refine Gw_callV (As := [.int g656451]) (gV_ok D I) (cp_7901_Code_get l hl0 D I P656452 F656453 q631606 q656522 q656575 g656451 q656523 p656524 p656525 p656573 p656574 f656590 n656589 q656592 q656601 q656602 p656603 p656604 hm656520 hm656571 hm656591 hm656599 he656521 he656572 r656583 he656600 (gB_w bg656451' (by decide) (by decide)) (gB_w bp656574 (by decide) (by decide)) (by omega) (by omega) (by assumption) (by omega)) dr_cX17_giveAll_102 ⟨wr_10_161, wr_1_15, wr_10_141, by decide, rfl, (Nat.le_of_ble_eq_true rfl), (Nat.le_of_ble_eq_true rfl)⟩ wr_10_139 wr_10_140 hm656520 he656521 rfl (rm_zc pk656469) (rm_zs pk656469) (Nat.le_of_ble_eq_true rfl) (fun r656617 w656618 dc656614 ds656615 hp656616 => ?_) (fun _ _ _ _ _ z => z.elim)
                        obtain ⟨rfl, rfl, hdc, hds, ht656619⟩ := hp656616
                        change G _ _ _ _ _ _ _ (.ref q656592 :: _) _ _ _
                        refine G_widen (cs' := ((rPh γ el f - rPh γ0 el0 f) / 18)) (sl' := (rPh γ el f - rPh γ0 el0 f)) (rm_d0 hdc) (rm_d0 hds) ?_
                        have hf656620 : γ 1 q656592 = f := (show γ 1 q656592 = γ 1 q656522 from ht656598).trans ((show γ 1 q656522 = γ 1 q631606 from ht656527).trans hf656468)
                        have hf656621 : γ 1 q656601 = f := (show γ 1 q656601 = γ 1 q656592 from ht656606).trans hf656620
                        have hf656622 : γ 1 q656602 = f := (show γ 1 q656602 = γ 1 q656592 from ht656608).trans hf656620
                        have r656623 : γ 6 (γ 1 q656592) = γ 6 f := by rw [hf656620]
                        have r656624 : γ 7 (γ 1 q656592) = γ 7 f := by rw [hf656620]
                        have r656625 : γ 19 (γ 1 q656592) = γ 19 f := by rw [hf656620]
                        have r656626 := r656610.resolve_left (by omega)
                        clear r656610
                        have r656627 : γ 2 (γ 14 q656592) = γ 2 q656601 := by rw [ht656611.1]
                        have r656628 : g656451.toInt.toNat < γ 2 (γ 14 q631606) := by rw [ht656541.1]; omega
                        have r656629 : el (γ 14 q631606) g656451.toInt.toNat = q656592 := by rw [ht656541.1, hx656593]
                        refine G_astore (L' := [(6, .ref q656592), (5, .int g656451), (4, .int o655739), (3, .int g653948), (0, .ref q631605), (1, .ref q631606), (2, .int p631607)]) dr_cX17_giveAll_105 (Nat.le_of_ble_eq_true rfl) rfl ?_
                        refine G_iconst 0 dr_cX17_giveAll_107 (by decide +kernel) ?_
                        refine G_istore (L' := [(7, .int 0), (6, .ref q656592), (5, .int g656451), (4, .int o655739), (3, .int g653948), (0, .ref q631605), (1, .ref q631606), (2, .int p631607)]) dr_cX17_giveAll_108 (Nat.le_of_ble_eq_true rfl) rfl ?_
                        have hlp110_656853 : ∀ (n110_656853 : Nat) (P656835 : List Nat) (F656836 : Nat → va_E) (γ el : Nat → Nat → Nat) (g656834 : Int32), gB g656834 0 1000001 → RS D I P656835 F656836 γ el → rSk f [101] ([1, 3, 5, 6, 8, 9, 101] ++ npk) D I P631603 F631604 γ0 el0 P656835 F656836 γ el → rPh γ0 el0 f ≤ rPh γ el f → rBd γ el f B → rKd γ q656592 2 → γ 1 q656592 = f → g656451.toInt.toNat < γ 2 (γ 14 q631606) → el (γ 14 q631606) g656451.toInt.toNat = q656592 → γ 6 f = γ0 6 f → ((γ 7 f : Nat) : Int) = (fI (F656836 q631605) 11).toInt → ((γ 16 f : Nat) : Int) + 2001 ≤ (B : Int) + (fI (F656836 q631605) 14).toInt → 100 ≤ (fI (F656836 q631605) 14).toInt → (F656836 (γ0 9 17) = F655743 (γ0 9 17)) → rPl γ el F656836 q631606 (γ 6 f) (cqR (cB (F655743 (γ0 9 17))) (g656451.toInt : Int).toNat (g656834.toInt : Int).toNat) → (g656834.toInt : Int) ≤ γ 2 (γ 14 q656592) + 1 → (g656451.toInt : Int) < γ 6 f → mKp (F631604 q631605) (F656836 q631605) → ((1000002 : Int) - g656834.toInt).toNat < n110_656853 → G (gV D I) l (gRm 10 224 (((387 * B + 6000) - rPh γ0 el0 f) / 18) ((387 * B + 6000) - rPh γ0 el0 f)) (gMA (gV D I) (pg_631611_SpillForgeModel_giveAll D I γ0 el0 f B P631603 F631604 q631605 q631606 p631607) gNA (((387 * B + 6000) - rPh γ0 el0 f) / 18) ((387 * B + 6000) - rPh γ0 el0 f)) ky_631611_SpillForgeModel_giveAll 110 [(7, .int g656834), (6, .ref q656592), (5, .int g656451), (4, .int o655739), (3, .int g653948), (0, .ref q631605), (1, .ref q631606), (2, .int p631607)] [] (va_pl P656835 F656836) ((rPh γ el f - rPh γ0 el0 f) / 18) (rPh γ el f - rPh γ0 el0 f) := by
                          intro n110_656853
                          induction n110_656853 with
                          | zero => intro P656835 F656836 γ el g656834 bg656834 hT656837 hs656838 hph656839 hB656840 ht656841 hf656842 r656843 r656844 x656845 x656846 x656847 x656848 x656849 x656850 x656851 x656852 x656853 hm110_656853; exact absurd hm110_656853 (Nat.not_lt_zero _)
                          | succ n110_656853 ih110_656853 =>
                            intro P656835 F656836 γ el g656834 bg656834 hT656837 hs656838 hph656839 hB656840 ht656841 hf656842 r656843 r656844 x656845 x656846 x656847 x656848 x656849 x656850 x656851 x656852 x656853 hm110_656853
                            clear r656530 r656531 r656532 r656533 r656534 r656535 r656537 r656538 r656539 r656540 bp656524 bp656525 bp656603 bp656604 r656612 r656613 r656544 r656545 r656546 r656576 r656577 r656578 r656580 r656579 r656581 r656582 r656583 r656584 r656585 r656586 r656587 r656588 r656623 r656624 r656625 r656626 r656627 r656628 r656629
                            have ht656855 : rKd γ q631605 10 := rSk_k hs656838 hzq631605 (by decide) (by decide)
                            have ht656856 : rKd γ q631606 9 := rSk_k hs656838 hzq631606 (by decide) (by decide)
                            have hf656857 : γ 1 q631606 = f := rSk_1 hs656838 hzq631606 (by decide) hf0
                            have pk656858 : rPh γ el f ≤ 387 * B + 6000 := rm_pk (rM_ge hT656837 ht656856 hf656857).1 (rM_bd hB656840)
                            have r656859 : 0 < γ 6 (γ 1 q631606) := by rw [hf656857]; omega
                            have hm656860 : q631605 ∈ P656835 := RS_m hT656837 ht656855 (by decide)
                            refine rk10_e (show rk_10 γ (F656836 q631605) from RS_o hT656837 ht656855) (fun q656862 q656863 p656864 p656865 p656866 p656867 p656868 p656869 p656870 p656871 p656872 p656873 p656874 p656875 p656876 p656877 p656878 he656861 hB656905 ht656879 ht656880 ht656881 ht656882 ht656883 ht656884 ht656885 ht656886 ht656887 ht656888 ht656889 ht656890 ht656891 ht656892 ht656893 ht656894 ht656895 ht656896 ht656897 ht656898 ht656899 ht656900 ht656901 ht656902 hB656906 => ?_)
                            have ac656907 : (fI (F656836 q631605) 11).toInt = p656866.toInt := by rw [he656861]; rfl
                            have bp656866 : gB p656866 0 100 := (hB656905.2.2.1)
                            have ac656908 : (fI (F656836 q631605) 14).toInt = p656869.toInt := by rw [he656861]; rfl
                            have bp656869 : gB p656869 0 2000 := (hB656905.2.2.2.1)
                            refine G_iload 0 dr_cX17_giveAll_110 rfl ?_
                            refine G_aload 1 dr_cX17_giveAll_112 rfl ?_
                            have hm656909 : q656592 ∈ P656835 := RS_m hT656837 ht656841 (by decide)
                            obtain ⟨q656911, q656912, p656913, p656914, he656910, ht656921, ht656915, ht656916, ht656917, ht656918, ht656919, bp656913, bp656914, r656920, r656922, r656923⟩ := show rk_2 γ q656592 (F656836 q656592) from RS_o hT656837 ht656841
                            have hf656924 : γ 1 q656911 = f := (show γ 1 q656911 = γ 1 q656592 from ht656916).trans hf656842
                            have hf656925 : γ 1 q656912 = f := (show γ 1 q656912 = γ 1 q656592 from ht656918).trans hf656842
                            have r656926 : γ 6 (γ 1 q656592) = γ 6 f := by rw [hf656842]
                            have r656927 : γ 7 (γ 1 q656592) = γ 7 f := by rw [hf656842]
                            have r656928 : γ 19 (γ 1 q656592) = γ 19 f := by rw [hf656842]
                            have r656929 := r656920.resolve_left (by omega)
                            clear r656920
                            have r656930 : γ 2 (γ 14 q656592) = γ 2 q656911 := by rw [ht656921.1]
                            refine Gp_get 0 hm656909 he656910 dr_cX17_giveAll_114 (gk_X12 D I) (Nat.le_of_ble_eq_true rfl) wr_9_220 rfl ?_
                            have hm656931 : q656911 ∈ P656835 := RS_m hT656837 ht656915 (by decide)
                            obtain ⟨⟨p656933, p656934, q656935, he656932, r656936, r656937, r656938, r656940⟩, r656939⟩ := show rk_3 D I γ el F656836 q656911 from RS_o hT656837 ht656915
                            have bp656933 := gB_any p656933
                            have bp656934 : gB p656934 0 1000000 := ⟨by omega, by omega⟩
                            refine Gw_callV (As := []) (gV_ok D I) (cp_7_ArrayList_size l hl0 D I P656835 F656836 q656911 p656933 q656935 p656934 hm656931 he656932 (gB_w bp656934 (by decide) (by decide))) dr_cX17_giveAll_117 ⟨wr_10_200, wr_1_18, wr_9_160, by decide, rfl, (Nat.le_of_ble_eq_true rfl), (Nat.le_of_ble_eq_true rfl)⟩ wr_9_158 wr_9_159 hm656931 he656932 rfl (rm_zc pk656858) (rm_zs pk656858) (Nat.le_of_ble_eq_true rfl) (fun r656944 w656945 dc656941 ds656942 hp656943 => ?_) (fun _ _ _ _ _ z => z.elim)
                            obtain ⟨rfl, rfl, hdc, hds⟩ := hp656943
                            change G _ _ _ _ _ _ _ (.int p656934 :: _) _ _ _
                            refine G_widen (cs' := ((rPh γ el f - rPh γ0 el0 f) / 18)) (sl' := (rPh γ el f - rPh γ0 el0 f)) (rm_d0 hdc) (rm_d0 hds) ?_
                            refine G_icmp_gt 167 dr_cX17_giveAll_120 (by decide +kernel) (fun hc656946 => ?_) (fun hc656946 => ?_)
                            · have r656947 : p656934.toInt < g656834.toInt := gC_lt hc656946
                              have bg656834' : gB g656834 1 1000001 := ⟨by omega, by omega⟩
                              obtain ⟨z656948, hz656948⟩ : ∃ z : Int32, z = g656451 + Int32.ofInt 1 := ⟨_, rfl⟩
                              have ez656948 : z656948.toInt = g656451.toInt + 1 := gI_inc hz656948 (by decide) bg656451' (by decide) (by decide)
                              have bz656948 : gB z656948 1 1000000 := ⟨by omega, by omega⟩
                              refine G_iinc (L' := [(5, .int z656948), (7, .int g656834), (6, .ref q656592), (4, .int o655739), (3, .int g653948), (0, .ref q631605), (1, .ref q631606), (2, .int p631607)]) z656948 2 dr_cX17_giveAll_167 rfl hz656948.symm (Nat.le_of_ble_eq_true rfl) rfl ?_
                              refine G_goto 90 dr_cX17_giveAll_170 (by decide +kernel) ?_
                              refine G_lv (L' := [(5, .int z656948), (4, .int o655739), (3, .int g653948), (0, .ref q631605), (1, .ref q631606), (2, .int p631607)]) [0, 3, 4, 5, 6, 7] rfl ?_
                              have ac656949 : (fI (F656836 q631605) 11).toInt = p656866.toInt := by rw [he656861]; rfl
                              have ac656950 : (fI (F656836 q631605) 14).toInt = p656869.toInt := by rw [he656861]; rfl
                              exact ih90_656464 P656835 F656836 γ el z656948 (gB_w bz656948 (by decide) (by decide)) hT656837 hs656838 hph656839 hB656840 (by omega) (by omega) (by omega) (by omega) x656849 (cq_nx x656850 (by omega)) x656853 (by omega)
                            · have r656951 : g656834.toInt ≤ p656934.toInt := gC_nlt hc656946
                              have bg656834' : gB g656834 0 1000000 := ⟨by omega, by omega⟩
                              refine G_aload_n 5 dr_cX17_giveAll_123 rfl ?_
                              refine G_iload 0 dr_cX17_giveAll_124 rfl ?_
                              refine G_aload 1 dr_cX17_giveAll_126 rfl ?_
                              refine Gp_get 0 hm656909 he656910 dr_cX17_giveAll_128 (gk_X12 D I) (Nat.le_of_ble_eq_true rfl) wr_9_220 rfl ?_
                              refine Gw_callV (As := []) (gV_ok D I) (cp_7_ArrayList_size l hl0 D I P656835 F656836 q656911 p656933 q656935 p656934 hm656931 he656932 (gB_w bp656934 (by decide) (by decide))) dr_cX17_giveAll_131 ⟨wr_10_200, wr_1_18, wr_9_160, by decide, rfl, (Nat.le_of_ble_eq_true rfl), (Nat.le_of_ble_eq_true rfl)⟩ wr_9_158 wr_9_159 hm656931 he656932 rfl (rm_zc pk656858) (rm_zs pk656858) (Nat.le_of_ble_eq_true rfl) (fun r656955 w656956 dc656952 ds656953 hp656954 => ?_) (fun _ _ _ _ _ z => z.elim)
                              obtain ⟨rfl, rfl, hdc, hds⟩ := hp656954
                              change G _ _ _ _ _ _ _ (.int p656934 :: _) _ _ _
                              refine G_widen (cs' := ((rPh γ el f - rPh γ0 el0 f) / 18)) (sl' := (rPh γ el f - rPh γ0 el0 f)) (rm_d0 hdc) (rm_d0 hds) ?_
                              refine G_icmp_ge 153 dr_cX17_giveAll_134 (by decide +kernel) (fun hc656957 => ?_) (fun hc656957 => ?_)
                              · have r656958 : p656934.toInt ≤ g656834.toInt := gC_le hc656957
                                refine G_aload 1 dr_cX17_giveAll_153 rfl ?_
                                refine Gp_get 1 hm656909 he656910 dr_cX17_giveAll_155 (gk_X12 D I) (Nat.le_of_ble_eq_true rfl) wr_9_223 rfl ?_
                                have fl656961 : p656934.toInt = γ 2 q656911 := r656936
                                have hp656959 : rAt γ el q631606 (g656451.toInt : Int).toNat (g656834.toInt : Int).toNat = q656912 := (rAt_e r656844 ht656921.1 (by omega)).trans ht656921.2.1
                                have hL656960 : (g656834.toInt : Int).toNat ≤ γ 2 (rwL γ el q631606 (g656451.toInt : Int).toNat) := by unfold rwL; rw [r656844, ht656921.1]; omega
                                have cn656962 : rNm (fun n => 0 ≤ (cB (F656836 (γ 9 17)) n).toInt) (F656836 q656912) := by rw [congrFun (rSk_9 hs656838) 17, x656849]; exact cq_at x656850 hp656959 (show (g656451.toInt : Int).toNat < γ 6 f by omega) hL656960
                                refine Gw_callV (As := [.ref q656912]) (gV_ok D I) (ct_344584_SpillForgeModel_coloured l hl0 D I γ el P656835 F656836 q631605 q656912 hT656837 ht656855 ht656917 (by omega)) dr_cX17_giveAll_158 ⟨wr_11_55, wr_1_14, wr_11_58, by decide, rfl, (Nat.le_of_ble_eq_true rfl), (Nat.le_of_ble_eq_true rfl)⟩ wr_11_57 wr_p_108 hm656860 he656861 rfl (rm_zc pk656858) (rm_zs pk656858) (Nat.le_of_ble_eq_true rfl) (fun r656966 w656967 dc656963 ds656964 hp656965 => ?_) (fun _ _ _ _ _ z => z.elim)
                                obtain ⟨F656972, rfl, rfl, hT656973, hs656974, hdc, hds, x656968, x656969, x656970, x656971⟩ := hp656965
                                have he656975 : F656972 q656592 = .inr (17, [.ref q656911, .ref q656912, .int p656913, .int p656914]) := (hs656974 q656592 (rT0 ht656841 (by decide)) (rT1 ht656841 (by decide)) (rT2 ht656841 (by decide))).trans he656910
                                have he656976 : F656972 q656911 = .inr (4, [.int p656933, .ref q656935, .int p656934]) := (hs656974 q656911 (rT0 ht656915 (by decide)) (rT1 ht656915 (by decide)) (rT2 ht656915 (by decide))).trans he656932
                                have hs656977 := rSk_str hs656838 hT656973 hs656974 (by decide) (by decide) (by decide) (Or.inr (rFs_1 x656968 hf656925))
                                have kp656978 : F656972 q631605 = F656836 q631605 := x656969
                                have kp656979 : F656972 (γ0 9 3) = F656836 (γ0 9 3) := (show F656972 (γ0 9 3) = F656836 (γ0 9 3) by rw [← congrFun (rSk_9 hs656977) 3]; exact x656970)
                                have kp656980 : F656972 (γ0 9 17) = F655743 (γ0 9 17) := ((show F656972 (γ0 9 17) = F656836 (γ0 9 17) by rw [← congrFun (rSk_9 hs656977) 17]; exact x656971)).trans x656849
                                have mk656981 : mKp (F631604 q631605) (F656972 q631605) := mKp_tr x656853 (mKp_eq x656969)
                                have he656982 : F656972 q631605 = .inr (22, [.ref (γ 9 0), .ref (γ 9 1), .ref (γ 9 2), .ref (γ 9 3), .ref (γ 9 4), .ref (γ 9 5), .ref (γ 9 6), .ref (γ 9 7), .ref (γ 9 8), .int p656864, .int p656865, .int p656866, .int p656867, .int p656868, .int p656869, .ref (γ 9 15), .ref (γ 9 16), .ref (γ 9 17), .ref (γ 9 18), .ref (γ 9 19), .ref (γ 9 20), .ref (γ 9 21), .ref (γ 9 22), .int p656870, .int p656871, .int p656872, .int p656873, .int p656874, .ref q656862, .ref (γ 9 29), .int p656875, .ref (γ 9 31), .int p656876, .int p656877, .int p656878, .ref q656863]) := (x656969).trans he656861
                                change G _ _ _ _ _ _ _ _ _ _ _
                                refine G_widen (cs' := ((rPh γ el f - rPh γ0 el0 f) / 18)) (sl' := (rPh γ el f - rPh γ0 el0 f)) (rm_d0 hdc) (rm_d0 hds) ?_
                                have cq656983 := cq_put (j1 := (g656834.toInt : Int).toNat + 1) hT656837 ht656856 hf656857 x656850 x656968 hp656959 (show (g656451.toInt : Int).toNat < γ 6 f by omega) hL656960 rfl
                                have ac656984 : (fI (F656972 q631605) 11).toInt = (fI (F656836 q631605) 11).toInt := by rw [kp656978]
                                have ac656985 : (fI (F656972 q631605) 14).toInt = (fI (F656836 q631605) 14).toInt := by rw [kp656978]
                                obtain ⟨z656986, hz656986⟩ : ∃ z : Int32, z = g656834 + Int32.ofInt 1 := ⟨_, rfl⟩
                                have ez656986 : z656986.toInt = g656834.toInt + 1 := gI_inc hz656986 (by decide) bg656834' (by decide) (by decide)
                                have bz656986 : gB z656986 1 1000001 := ⟨by omega, by omega⟩
                                refine G_iinc (L' := [(7, .int z656986), (6, .ref q656592), (5, .int g656451), (4, .int o655739), (3, .int g653948), (0, .ref q631605), (1, .ref q631606), (2, .int p631607)]) z656986 0 dr_cX17_giveAll_161 rfl hz656986.symm (Nat.le_of_ble_eq_true rfl) rfl ?_
                                refine G_goto 110 dr_cX17_giveAll_164 (by decide +kernel) ?_
                                have ac656987 : (fI (F656972 q631605) 11).toInt = p656866.toInt := by rw [he656982]; rfl
                                have ac656988 : (fI (F656972 q631605) 14).toInt = p656869.toInt := by rw [he656982]; rfl
                                exact ih110_656853 P656835 F656972 γ el z656986 (gB_w bz656986 (by decide) (by decide)) hT656973 hs656977 hph656839 hB656840 ht656841 hf656842 r656843 r656844 (by omega) (by omega) (by omega) (by omega) kp656980 (by rw [show (z656986.toInt : Int).toNat = ((g656834.toInt : Int).toNat + 1) by omega]; exact cq656983) (by omega) (by omega) mk656981 (by omega)
                              · have r656989 : g656834.toInt < p656934.toInt := gC_nle hc656957
                                have bg656834'' : gB g656834 0 999999 := ⟨by omega, by omega⟩
                                have bp656934' : gB p656934 1 1000000 := ⟨by omega, by omega⟩
                                refine G_aload 1 dr_cX17_giveAll_137 rfl ?_
                                refine Gp_get 0 hm656909 he656910 dr_cX17_giveAll_139 (gk_X12 D I) (Nat.le_of_ble_eq_true rfl) wr_9_220 rfl ?_
                                refine G_iload 0 dr_cX17_giveAll_142 rfl ?_
                                obtain ⟨r656990, r656991, n656998, f656999, r656992, r656993, r656994, r656995, r656996, r656997⟩ := rLC_n r656938 (by omega)
                                have hm657000 : q656935 ∈ P656835 := RS_m hT656837 r656990 (by decide)
                                obtain ⟨q657001, hx657002⟩ : ∃ x, x = el q656911 g656834.toInt.toNat := ⟨_, rfl⟩
                                have hx657003 : f656999 g656834.toNatClampNeg = some q657001 := (r656996 _ (show g656834.toInt.toNat < γ 2 q656911 by first | assumption | omega)).trans (by rw [hx657002])
                                have ht657004 : rKd γ q657001 1 := by rw [hx657002]; exact (r656939 _ (show g656834.toInt.toNat < γ 2 q656911 by first | assumption | omega)).1
                                have ht657005 : rFm γ q657001 q656911 := by rw [hx657002]; exact (r656939 _ (show g656834.toInt.toNat < γ 2 q656911 by first | assumption | omega)).2.1
                                have hf657006 : γ 1 q657001 = f := (show γ 1 q657001 = γ 1 q656911 from ht657005).trans hf656924
                                refine Gw_callV (As := [.int g656834]) (gV_ok D I) (cp_22_ArrayList_get l hl0 D I P656835 F656836 q656911 q656935 g656834 p656933 p656934 f656999 n656998 q657001 hm656931 hm657000 he656932 r656992 (gB_w bg656834'' (by decide) (by decide)) (gB_w bp656934' (by decide) (by decide)) (by omega) (by omega) (by assumption) (by omega)) dr_cX17_giveAll_144 ⟨wr_10_201, wr_1_18, wr_10_65, by decide, rfl, (Nat.le_of_ble_eq_true rfl), (Nat.le_of_ble_eq_true rfl)⟩ wr_10_63 wr_10_64 hm656931 he656932 rfl (rm_zc pk656858) (rm_zs pk656858) (Nat.le_of_ble_eq_true rfl) (fun r657010 w657011 dc657007 ds657008 hp657009 => ?_) (fun _ _ _ _ _ z => z.elim)
                                obtain ⟨rfl, rfl, hdc, hds, ht657012⟩ := hp657009
                                change G _ _ _ _ _ _ _ (.ref q657001 :: _) _ _ _
                                refine G_widen (cs' := ((rPh γ el f - rPh γ0 el0 f) / 18)) (sl' := (rPh γ el f - rPh γ0 el0 f)) (rm_d0 hdc) (rm_d0 hds) ?_
                                have hm657013 : q657001 ∈ P656835 := RS_m hT656837 ht657004 (by decide)
                                obtain ⟨p657015, p657016, p657017, p657018, p657019, p657020, p657021, he657014, bp657015, bp657016, bp657019, bp657020, bp657021, r657022, r657023, r657024, r657025, r657026⟩ := show rk_1 γ q657001 (F656836 q657001) from RS_o hT656837 ht657004
                                have bp657017 := gB_any p657017
                                have bp657018 := gB_any p657018
                                have r657027 : γ 7 (γ 1 q657001) = γ 7 f := by rw [hf657006]
                                refine Gp_cast hm657013 he657014 rfl dr_cX17_giveAll_147 wr_10_202 (gr_cast 1 rfl) ?_
                                refine G_goto 158 dr_cX17_giveAll_150 (by decide +kernel) ?_
                                have fl657030 : p656934.toInt = γ 2 q656911 := r656936
                                have hp657028 : rAt γ el q631606 (g656451.toInt : Int).toNat (g656834.toInt : Int).toNat = q657001 := (rAt_r r656844 ht656921.1 (by omega)).trans (by rw [hx657002])
                                have hL657029 : (g656834.toInt : Int).toNat ≤ γ 2 (rwL γ el q631606 (g656451.toInt : Int).toNat) := by unfold rwL; rw [r656844, ht656921.1]; omega
                                have cn657031 : rNm (fun n => 0 ≤ (cB (F656836 (γ 9 17)) n).toInt) (F656836 q657001) := by rw [congrFun (rSk_9 hs656838) 17, x656849]; exact cq_at x656850 hp657028 (show (g656451.toInt : Int).toNat < γ 6 f by omega) hL657029
                                refine Gw_callV (As := [.ref q657001]) (gV_ok D I) (ct_344584_SpillForgeModel_coloured l hl0 D I γ el P656835 F656836 q631605 q657001 hT656837 ht656855 ht657004 (by omega)) dr_cX17_giveAll_158 ⟨wr_11_55, wr_1_14, wr_11_58, by decide, rfl, (Nat.le_of_ble_eq_true rfl), (Nat.le_of_ble_eq_true rfl)⟩ wr_11_57 wr_p_108 hm656860 he656861 rfl (rm_zc pk656858) (rm_zs pk656858) (Nat.le_of_ble_eq_true rfl) (fun r657035 w657036 dc657032 ds657033 hp657034 => ?_) (fun _ _ _ _ _ z => z.elim)
                                obtain ⟨F657041, rfl, rfl, hT657042, hs657043, hdc, hds, x657037, x657038, x657039, x657040⟩ := hp657034
                                have he657044 : F657041 q656592 = .inr (17, [.ref q656911, .ref q656912, .int p656913, .int p656914]) := (hs657043 q656592 (rT0 ht656841 (by decide)) (rT1 ht656841 (by decide)) (rT2 ht656841 (by decide))).trans he656910
                                have he657045 : F657041 q656911 = .inr (4, [.int p656933, .ref q656935, .int p656934]) := (hs657043 q656911 (rT0 ht656915 (by decide)) (rT1 ht656915 (by decide)) (rT2 ht656915 (by decide))).trans he656932
                                have he657046 : F657041 q656935 = .inl (I (.object "java/lang/Object"), n656998, .inr (.inr (.inr (.inr f656999)))) := (hs657043 q656935 (rT0 r656990 (by decide)) (rT1 r656990 (by decide)) (rT2 r656990 (by decide))).trans r656992
                                have hs657047 := rSk_str hs656838 hT657042 hs657043 (by decide) (by decide) (by decide) (Or.inr (rFs_1 x657037 hf657006))
                                have kp657048 : F657041 q631605 = F656836 q631605 := x657038
                                have kp657049 : F657041 (γ0 9 3) = F656836 (γ0 9 3) := (show F657041 (γ0 9 3) = F656836 (γ0 9 3) by rw [← congrFun (rSk_9 hs657047) 3]; exact x657039)
                                have kp657050 : F657041 (γ0 9 17) = F655743 (γ0 9 17) := ((show F657041 (γ0 9 17) = F656836 (γ0 9 17) by rw [← congrFun (rSk_9 hs657047) 17]; exact x657040)).trans x656849
                                have mk657051 : mKp (F631604 q631605) (F657041 q631605) := mKp_tr x656853 (mKp_eq x657038)
                                have he657052 : F657041 q631605 = .inr (22, [.ref (γ 9 0), .ref (γ 9 1), .ref (γ 9 2), .ref (γ 9 3), .ref (γ 9 4), .ref (γ 9 5), .ref (γ 9 6), .ref (γ 9 7), .ref (γ 9 8), .int p656864, .int p656865, .int p656866, .int p656867, .int p656868, .int p656869, .ref (γ 9 15), .ref (γ 9 16), .ref (γ 9 17), .ref (γ 9 18), .ref (γ 9 19), .ref (γ 9 20), .ref (γ 9 21), .ref (γ 9 22), .int p656870, .int p656871, .int p656872, .int p656873, .int p656874, .ref q656862, .ref (γ 9 29), .int p656875, .ref (γ 9 31), .int p656876, .int p656877, .int p656878, .ref q656863]) := (x657038).trans he656861
                                change G _ _ _ _ _ _ _ _ _ _ _
                                refine G_widen (cs' := ((rPh γ el f - rPh γ0 el0 f) / 18)) (sl' := (rPh γ el f - rPh γ0 el0 f)) (rm_d0 hdc) (rm_d0 hds) ?_
                                have cq657053 := cq_put (j1 := (g656834.toInt : Int).toNat + 1) hT656837 ht656856 hf656857 x656850 x657037 hp657028 (show (g656451.toInt : Int).toNat < γ 6 f by omega) hL657029 rfl
                                have ac657054 : (fI (F657041 q631605) 11).toInt = (fI (F656836 q631605) 11).toInt := by rw [kp657048]
                                have ac657055 : (fI (F657041 q631605) 14).toInt = (fI (F656836 q631605) 14).toInt := by rw [kp657048]
                                obtain ⟨z657056, hz657056⟩ : ∃ z : Int32, z = g656834 + Int32.ofInt 1 := ⟨_, rfl⟩
                                have ez657056 : z657056.toInt = g656834.toInt + 1 := gI_inc hz657056 (by decide) bg656834'' (by decide) (by decide)
                                have bz657056 : gB z657056 1 1000000 := ⟨by omega, by omega⟩
                                refine G_iinc (L' := [(7, .int z657056), (6, .ref q656592), (5, .int g656451), (4, .int o655739), (3, .int g653948), (0, .ref q631605), (1, .ref q631606), (2, .int p631607)]) z657056 0 dr_cX17_giveAll_161 rfl hz657056.symm (Nat.le_of_ble_eq_true rfl) rfl ?_
                                refine G_goto 110 dr_cX17_giveAll_164 (by decide +kernel) ?_
                                have ac657057 : (fI (F657041 q631605) 11).toInt = p656866.toInt := by rw [he657052]; rfl
                                have ac657058 : (fI (F657041 q631605) 14).toInt = p656869.toInt := by rw [he657052]; rfl
                                exact ih110_656853 P656835 F657041 γ el z657056 (gB_w bz657056 (by decide) (by decide)) hT657042 hs657047 hph656839 hB656840 ht656841 hf656842 r656843 r656844 (by omega) (by omega) (by omega) (by omega) kp657050 (by rw [show (z657056.toInt : Int).toNat = ((g656834.toInt : Int).toNat + 1) by omega]; exact cq657053) (by omega) (by omega) mk657051 (by omega)
                        have ac657059 : (fI (F656453 q631605) 11).toInt = p656477.toInt := by rw [he656472]; rfl
                        have ac657060 : (fI (F656453 q631605) 14).toInt = p656480.toInt := by rw [he656472]; rfl
                        exact hlp110_656853 (((1000002 : Int) - 0).toNat + 1) P656452 F656453 γ el 0 (gB_w (gBl (show Int32.toInt 0 = 0 by decide)) (by decide) (by decide)) hT656454 hs656455 hph656456 hB656457 ht656597 hf656620 r656628 r656629 (by have qa0 : Int32.toInt 0 = 0 := (by decide); omega) (by have qa0 : Int32.toInt 0 = 0 := (by decide); omega) (by have qa0 : Int32.toInt 0 = 0 := (by decide); omega) (by have qa0 : Int32.toInt 0 = 0 := (by decide); omega) x656462 (by have qa : Int32.toInt 0 = 0 := (by decide); rw [qa]; exact x656463) (by have qa0 : Int32.toInt 0 = 0 := (by decide); omega) (by have qa0 : Int32.toInt 0 = 0 := (by decide); omega) x656464 (Nat.lt_succ_self _)
                  have ac657061 : (fI (F655743 q631605) 11).toInt = p655666.toInt := by rw [he655750]; rfl
                  have ac657062 : (fI (F655743 q631605) 14).toInt = p655669.toInt := by rw [he655750]; rfl
                  exact hlp90_656464 (((1000001 : Int) - 0).toNat + 1) P655645 F655743 γ el 0 (gB_w (gBl (show Int32.toInt 0 = 0 by decide)) (by decide) (by decide)) hT655744 hs655746 hph655657 hB655650 (by have qa0 : Int32.toInt 0 = 0 := (by decide); omega) (by have qa0 : Int32.toInt 0 = 0 := (by decide); omega) (by have qa0 : Int32.toInt 0 = 0 := (by decide); omega) (by have qa0 : Int32.toInt 0 = 0 := (by decide); omega) rfl (by have qa : Int32.toInt 0 = 0 := (by decide); rw [qa]; exact cq655861) mk655749 (Nat.lt_succ_self _)
              · have r657063 : o655634.toInt ≠ 0 := gj_neq hc655710 (show Int32.toInt 0 = 0 by decide)
                have bo655634' : gB o655634 1 1 := gB_t1 bo655634 r657063
                refine G_aload_n 1 dr_cX17_giveAll_61 rfl ?_
                refine G_aload_n 2 dr_cX17_giveAll_62 rfl ?_
                refine G_iconst 0 dr_cX17_giveAll_63 (by decide +kernel) ?_
                refine Gw_callV (As := [.ref q631606, .int 0]) (gV_ok D I) (ct_277516_SpillForgeModel_graph l hl0 D I γ el P655645 F655646 q631605 q631606 0 hT655651 ht655653 ht655654 (gB_w (gBl (show Int32.toInt 0 = 0 by decide)) (by decide) (by decide)) (by omega)) dr_cX17_giveAll_64 ⟨wr_10_233, wr_1_14, wr_10_236, by decide, rfl, (Nat.le_of_ble_eq_true rfl), (Nat.le_of_ble_eq_true rfl)⟩ wr_10_235 wr_p_99 hm655660 he655661 rfl (rm_zc pk655658) (rm_zs pk655658) (Nat.le_of_ble_eq_true rfl) (fun r657067 w657068 dc657064 ds657065 hp657066 => ?_) (fun _ _ _ _ _ z => z.elim)
                obtain ⟨F657072, rfl, rfl, hT657073, hs657074, hdc, hds, x657069, x657070, ht657071⟩ := hp657066
                have hs657075 := rSk_str hs655652 hT657073 hs657074 (by decide) (by decide) (by decide)
                have kp657076 : F657072 q631605 = F655646 q631605 := x657070
                have mk657077 : mKp (F631604 q631605) (F657072 q631605) := mKp_tr mk655656 (mKp_eq x657070)
                have he657078 : F657072 q631605 = .inr (22, [.ref (γ 9 0), .ref (γ 9 1), .ref (γ 9 2), .ref (γ 9 3), .ref (γ 9 4), .ref (γ 9 5), .ref (γ 9 6), .ref (γ 9 7), .ref (γ 9 8), .int p655664, .int p655665, .int p655666, .int p655667, .int p655668, .int p655669, .ref (γ 9 15), .ref (γ 9 16), .ref (γ 9 17), .ref (γ 9 18), .ref (γ 9 19), .ref (γ 9 20), .ref (γ 9 21), .ref (γ 9 22), .int p655670, .int p655671, .int p655672, .int p655673, .int p655674, .ref q655662, .ref (γ 9 29), .int p655675, .ref (γ 9 31), .int p655676, .int p655677, .int p655678, .ref q655663]) := (x657070).trans he655661
                rw [show Int32.toInt 0 = 0 from by decide] at x657069
                change G _ _ _ _ _ _ _ _ _ _ _
                refine G_widen (cs' := ((rPh γ el f - rPh γ0 el0 f) / 18)) (sl' := (rPh γ el f - rPh γ0 el0 f)) (rm_d0 hdc) (rm_d0 hds) ?_
                have ni657079 : rNI γ el F657072 q631606 (γ 6 f) (fI (F657072 q631605) 11).toInt := rNI_s (rNI_str hT655651 ht655654 hf655655 hs657074 (by decide) ni655709) (by rw [x657070])
                have gr657080 : rGr γ el F657072 q631606 (γ 6 f) (cB (F657072 (γ0 9 3))) (vA (γ 6 f)) := by have z := x657069 (by decide); rw [hf655655] at z; rw [← congrFun (rSk_9 hs657075) 3]; exact gq_str hT655651 ht655654 hf655655 hs657074 (by decide) z
                have ac657081 : (fI (F657072 q631605) 11).toInt = (fI (F655646 q631605) 11).toInt := by rw [kp657076]
                have ac657082 : (fI (F657072 q631605) 14).toInt = (fI (F655646 q631605) 14).toInt := by rw [kp657076]
                refine G_goto 52 dr_cX17_giveAll_67 (by decide +kernel) ?_
                have ac657083 : (fI (F657072 q631605) 11).toInt = p655666.toInt := by rw [he657078]; rfl
                have ac657084 : (fI (F657072 q631605) 14).toInt = p655669.toInt := by rw [he657078]; rfl
                exact ih52_655569 P655645 F657072 γ el hT657073 hs657075 hph655657 hB655650 (by omega) (by omega) (by omega) (by omega) ni657079 gr657080 mk657077 (by have z := x655639.resolve_left (by omega); omega)
          have ac657085 : (fI (F654063 q631605) 11).toInt = p653973.toInt := by rw [he654070]; rfl
          have ac657086 : (fI (F654063 q631605) 14).toInt = p653976.toInt := by rw [he654070]; rfl
          exact hlp52_655569 (rsum (fun i => γ 2 (γ 14 (el (γ 14 q631606) i))) (γ 6 f) + 1) P653949 F654063 γ el hT654064 hs654067 hph653953 hB653954 (by omega) (by omega) (by omega) (by omega) ni654071 gr654072 mk654069 (Nat.lt_succ_self _)
        · have r657087 : 4000 < o654051.toInt := gj_nle hc654053 (show Int32.toInt 4000 = 4000 by decide)
          have bo654051' : gB o654051 4001 2147483647 := ⟨by omega, by omega⟩
          refine G_iconst (-1) dr_cX17_giveAll_44 (by decide +kernel) ?_
          exact G_iretA dr_cX17_giveAll_45 rfl (show ((rPh γ el f - rPh γ0 el0 f) / 18) ≤ (((387 * B + 6000) - rPh γ0 el0 f) / 18) by omega) (show (rPh γ el f - rPh γ0 el0 f) ≤ ((387 * B + 6000) - rPh γ0 el0 f) by omega) ⟨P653949, F653950, γ, el, (-1), rfl, rfl, hs653952, ⟨by omega, by omega⟩, hB653954, (gB_w (gBl (show Int32.toInt (-1) = (-1) by decide)) (by decide) (by decide)), (by have qa0 : Int32.toInt (-1) = (-1) := (by decide); omega), x653960⟩
  have ac657088 : (fI (F631716 q631605) 11).toInt = p631738.toInt := by rw [he631733]; rfl
  have ac657089 : (fI (F631716 q631605) 14).toInt = p631741.toInt := by rw [he631733]; rfl
  exact hlp28_653960 (((42 : Int) - 1).toNat + 1) P631715 F631716 γ el 1 (gB_w (gBl (show Int32.toInt 1 = 1 by decide)) (by decide) (by decide)) hT631721 hs631722 hph631727 hB631720 (by have qa0 : Int32.toInt 1 = 1 := (by decide); omega) (by have qa0 : Int32.toInt 1 = 1 := (by decide); omega) (by have qa0 : Int32.toInt 1 = 1 := (by decide); omega) (by have qa0 : Int32.toInt 1 = 1 := (by decide); omega) ni631781 mk631726 (Nat.lt_succ_self _)
