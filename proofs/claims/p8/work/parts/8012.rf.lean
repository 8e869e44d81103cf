theorem dr_cX17_giveAll_0 : decode cX17_giveAll 0 = .ok (.aload_n 0, 1) := by decide +kernel
theorem dr_cX17_giveAll_1 : decode cX17_giveAll 1 = .ok (.iconst 0, 1) := by decide +kernel
theorem dr_cX17_giveAll_2 : decode cX17_giveAll 2 = .ok (.putfield 224, 3) := by decide +kernel
theorem dr_cX17_giveAll_5 : decode cX17_giveAll 5 = .ok (.aload_n 0, 1) := by decide +kernel
theorem dr_cX17_giveAll_6 : decode cX17_giveAll 6 = .ok (.iconst 0, 1) := by decide +kernel
theorem dr_cX17_giveAll_7 : decode cX17_giveAll 7 = .ok (.putfield 237, 3) := by decide +kernel
theorem dr_cX17_giveAll_10 : decode cX17_giveAll 10 = .ok (.aload_n 0, 1) := by decide +kernel
theorem dr_cX17_giveAll_11 : decode cX17_giveAll 11 = .ok (.iconst 0, 1) := by decide +kernel
theorem dr_cX17_giveAll_12 : decode cX17_giveAll 12 = .ok (.putfield 195, 3) := by decide +kernel
theorem dr_cX17_giveAll_15 : decode cX17_giveAll 15 = .ok (.aload_n 0, 1) := by decide +kernel
theorem dr_cX17_giveAll_16 : decode cX17_giveAll 16 = .ok (.bipush 100, 2) := by decide +kernel
theorem dr_cX17_giveAll_18 : decode cX17_giveAll 18 = .ok (.putfield 231, 3) := by decide +kernel
theorem dr_cX17_giveAll_21 : decode cX17_giveAll 21 = .ok (.aload_n 0, 1) := by decide +kernel
theorem dr_cX17_giveAll_22 : decode cX17_giveAll 22 = .ok (.aload_n 1, 1) := by decide +kernel
theorem dr_cX17_giveAll_23 : decode cX17_giveAll 23 = .ok (.invokevirtual 240, 3) := by decide +kernel
theorem dr_cX17_giveAll_26 : decode cX17_giveAll 26 = .ok (.iconst 1, 1) := by decide +kernel
theorem dr_cX17_giveAll_27 : decode cX17_giveAll 27 = .ok (.istore_n 3, 1) := by decide +kernel
theorem dr_cX17_giveAll_28 : decode cX17_giveAll 28 = .ok (.iload_n 3, 1) := by decide +kernel
theorem dr_cX17_giveAll_29 : decode cX17_giveAll 29 = .ok (.bipush 40, 2) := by decide +kernel
theorem dr_cX17_giveAll_31 : decode cX17_giveAll 31 = .ok (.if_icmp .gt 176, 3) := by decide +kernel
theorem dr_cX17_giveAll_207 : decode cX17_giveAll 207 = .ok (.iconst (-1), 1) := by decide +kernel
theorem dr_cX17_giveAll_208 : decode cX17_giveAll 208 = .ok (.ireturn, 1) := by decide +kernel
theorem dr_cX17_giveAll_34 : decode cX17_giveAll 34 = .ok (.aload_n 1, 1) := by decide +kernel
theorem dr_cX17_giveAll_35 : decode cX17_giveAll 35 = .ok (.invokevirtual 234, 3) := by decide +kernel
theorem dr_cX17_giveAll_38 : decode cX17_giveAll 38 = .ok (.sipush 4000, 3) := by decide +kernel
theorem dr_cX17_giveAll_41 : decode cX17_giveAll 41 = .ok (.if_icmp .le 5, 3) := by decide +kernel
theorem dr_cX17_giveAll_46 : decode cX17_giveAll 46 = .ok (.aload_n 0, 1) := by decide +kernel
theorem dr_cX17_giveAll_47 : decode cX17_giveAll 47 = .ok (.aload_n 1, 1) := by decide +kernel
theorem dr_cX17_giveAll_48 : decode cX17_giveAll 48 = .ok (.iconst 0, 1) := by decide +kernel
theorem dr_cX17_giveAll_49 : decode cX17_giveAll 49 = .ok (.invokevirtual 243, 3) := by decide +kernel
theorem dr_cX17_giveAll_52 : decode cX17_giveAll 52 = .ok (.aload_n 0, 1) := by decide +kernel
theorem dr_cX17_giveAll_53 : decode cX17_giveAll 53 = .ok (.aload_n 1, 1) := by decide +kernel
theorem dr_cX17_giveAll_54 : decode cX17_giveAll 54 = .ok (.iload_n 2, 1) := by decide +kernel
theorem dr_cX17_giveAll_55 : decode cX17_giveAll 55 = .ok (.invokevirtual 246, 3) := by decide +kernel
theorem wr_11_8 : (Jvm.Cond.methodLink "SpillForgeModel" (246 : Nat) ({ cls := "SpillForgeModel", name := "merge", desc := "(LSpillForgeModel$Code;I)Z" } : Jvm.MethodName)) ∈ gw := gw_11 8 rfl rfl
theorem wr_11_11 : (Jvm.Cond.code ({ cls := "SpillForgeModel", name := "merge", desc := "(LSpillForgeModel$Code;I)Z" } : Jvm.MethodName) prog_14_method_17_code (9 : Nat) (Option.some Jvm.ClassFile.FieldType.boolean)) ∈ gw := gw_11 11 rfl rfl
theorem wr_11_10 : (Jvm.Cond.instanceMethod ({ cls := "SpillForgeModel", name := "merge", desc := "(LSpillForgeModel$Code;I)Z" } : Jvm.MethodName)) ∈ gw := gw_11 10 rfl rfl
theorem wr_p_101 : Cond.selects "SpillForgeModel" ⟨"SpillForgeModel", "merge", "(LSpillForgeModel$Code;I)Z"⟩ ⟨"SpillForgeModel", "merge", "(LSpillForgeModel$Code;I)Z"⟩ ∈ gw := gw_p _ 101 rfl rfl rfl
theorem dr_cX17_giveAll_58 : decode cX17_giveAll 58 = .ok (.ifCond .eq 12, 3) := by decide +kernel
theorem dr_cX17_giveAll_70 : decode cX17_giveAll 70 = .ok (.aload_n 0, 1) := by decide +kernel
theorem dr_cX17_giveAll_71 : decode cX17_giveAll 71 = .ok (.aload_n 1, 1) := by decide +kernel
theorem dr_cX17_giveAll_72 : decode cX17_giveAll 72 = .ok (.invokevirtual 250, 3) := by decide +kernel
theorem dr_cX17_giveAll_75 : decode cX17_giveAll 75 = .ok (.aload_n 0, 1) := by decide +kernel
theorem dr_cX17_giveAll_76 : decode cX17_giveAll 76 = .ok (.iload_n 2, 1) := by decide +kernel
theorem dr_cX17_giveAll_77 : decode cX17_giveAll 77 = .ok (.invokevirtual 253, 3) := by decide +kernel
theorem wr_11_47 : (Jvm.Cond.methodLink "SpillForgeModel" (253 : Nat) ({ cls := "SpillForgeModel", name := "colours", desc := "(I)I" } : Jvm.MethodName)) ∈ gw := gw_11 47 rfl rfl
theorem wr_11_50 : (Jvm.Cond.code ({ cls := "SpillForgeModel", name := "colours", desc := "(I)I" } : Jvm.MethodName) prog_14_method_21_code (8 : Nat) (Option.some Jvm.ClassFile.FieldType.int)) ∈ gw := gw_11 50 rfl rfl
theorem wr_11_49 : (Jvm.Cond.instanceMethod ({ cls := "SpillForgeModel", name := "colours", desc := "(I)I" } : Jvm.MethodName)) ∈ gw := gw_11 49 rfl rfl
theorem wr_p_106 : Cond.selects "SpillForgeModel" ⟨"SpillForgeModel", "colours", "(I)I"⟩ ⟨"SpillForgeModel", "colours", "(I)I"⟩ ∈ gw := gw_p _ 106 rfl rfl rfl
theorem dr_cX17_giveAll_80 : decode cX17_giveAll 80 = .ok (.istore 4, 2) := by decide +kernel
theorem dr_cX17_giveAll_82 : decode cX17_giveAll 82 = .ok (.iload 4, 2) := by decide +kernel
theorem dr_cX17_giveAll_84 : decode cX17_giveAll 84 = .ok (.ifCond .ne 96, 3) := by decide +kernel
theorem dr_cX17_giveAll_180 : decode cX17_giveAll 180 = .ok (.aload_n 0, 1) := by decide +kernel
theorem dr_cX17_giveAll_181 : decode cX17_giveAll 181 = .ok (.dup, 1) := by decide +kernel
theorem dr_cX17_giveAll_182 : decode cX17_giveAll 182 = .ok (.getfield 237, 3) := by decide +kernel
theorem dr_cX17_giveAll_185 : decode cX17_giveAll 185 = .ok (.iload 4, 2) := by decide +kernel
theorem dr_cX17_giveAll_187 : decode cX17_giveAll 187 = .ok (.iadd, 1) := by decide +kernel
theorem dr_cX17_giveAll_188 : decode cX17_giveAll 188 = .ok (.putfield 237, 3) := by decide +kernel
theorem dr_cX17_giveAll_191 : decode cX17_giveAll 191 = .ok (.aload_n 0, 1) := by decide +kernel
theorem dr_cX17_giveAll_192 : decode cX17_giveAll 192 = .ok (.aload_n 1, 1) := by decide +kernel
theorem dr_cX17_giveAll_193 : decode cX17_giveAll 193 = .ok (.invokevirtual 263, 3) := by decide +kernel
theorem wr_11_63 : (Jvm.Cond.methodLink "SpillForgeModel" (263 : Nat) ({ cls := "SpillForgeModel", name := "spill", desc := "(LSpillForgeModel$Code;)Z" } : Jvm.MethodName)) ∈ gw := gw_11 63 rfl rfl
theorem wr_11_66 : (Jvm.Cond.code ({ cls := "SpillForgeModel", name := "spill", desc := "(LSpillForgeModel$Code;)Z" } : Jvm.MethodName) prog_14_method_22_code (10 : Nat) (Option.some Jvm.ClassFile.FieldType.boolean)) ∈ gw := gw_11 66 rfl rfl
theorem wr_11_65 : (Jvm.Cond.instanceMethod ({ cls := "SpillForgeModel", name := "spill", desc := "(LSpillForgeModel$Code;)Z" } : Jvm.MethodName)) ∈ gw := gw_11 65 rfl rfl
theorem wr_p_110 : Cond.selects "SpillForgeModel" ⟨"SpillForgeModel", "spill", "(LSpillForgeModel$Code;)Z"⟩ ⟨"SpillForgeModel", "spill", "(LSpillForgeModel$Code;)Z"⟩ ∈ gw := gw_p _ 110 rfl rfl rfl
theorem dr_cX17_giveAll_196 : decode cX17_giveAll 196 = .ok (.ifCond .ne 5, 3) := by decide +kernel
theorem dr_cX17_giveAll_201 : decode cX17_giveAll 201 = .ok (.iinc 3 1, 3) := by decide +kernel
theorem dr_cX17_giveAll_204 : decode cX17_giveAll 204 = .ok (.goto (-176), 3) := by decide +kernel
theorem dr_cX17_giveAll_199 : decode cX17_giveAll 199 = .ok (.iconst (-1), 1) := by decide +kernel
theorem dr_cX17_giveAll_200 : decode cX17_giveAll 200 = .ok (.ireturn, 1) := by decide +kernel
theorem dr_cX17_giveAll_87 : decode cX17_giveAll 87 = .ok (.iconst 0, 1) := by decide +kernel
theorem dr_cX17_giveAll_88 : decode cX17_giveAll 88 = .ok (.istore 5, 2) := by decide +kernel
theorem dr_cX17_giveAll_90 : decode cX17_giveAll 90 = .ok (.iload 5, 2) := by decide +kernel
theorem dr_cX17_giveAll_92 : decode cX17_giveAll 92 = .ok (.aload_n 1, 1) := by decide +kernel
theorem dr_cX17_giveAll_93 : decode cX17_giveAll 93 = .ok (.invokevirtual 96, 3) := by decide +kernel
theorem dr_cX17_giveAll_96 : decode cX17_giveAll 96 = .ok (.if_icmp .ge 77, 3) := by decide +kernel
theorem dr_cX17_giveAll_173 : decode cX17_giveAll 173 = .ok (.aload_n 0, 1) := by decide +kernel
theorem dr_cX17_giveAll_174 : decode cX17_giveAll 174 = .ok (.aload_n 1, 1) := by decide +kernel
theorem dr_cX17_giveAll_175 : decode cX17_giveAll 175 = .ok (.invokevirtual 260, 3) := by decide +kernel
theorem wr_11_59 : (Jvm.Cond.methodLink "SpillForgeModel" (260 : Nat) ({ cls := "SpillForgeModel", name := "share", desc := "(LSpillForgeModel$Code;)V" } : Jvm.MethodName)) ∈ gw := gw_11 59 rfl rfl
theorem wr_11_62 : (Jvm.Cond.code ({ cls := "SpillForgeModel", name := "share", desc := "(LSpillForgeModel$Code;)V" } : Jvm.MethodName) prog_14_method_26_code (7 : Nat) (Option.none : Option Jvm.ClassFile.FieldType)) ∈ gw := gw_11 62 rfl rfl
theorem wr_11_61 : (Jvm.Cond.instanceMethod ({ cls := "SpillForgeModel", name := "share", desc := "(LSpillForgeModel$Code;)V" } : Jvm.MethodName)) ∈ gw := gw_11 61 rfl rfl
theorem wr_p_109 : Cond.selects "SpillForgeModel" ⟨"SpillForgeModel", "share", "(LSpillForgeModel$Code;)V"⟩ ⟨"SpillForgeModel", "share", "(LSpillForgeModel$Code;)V"⟩ ∈ gw := gw_p _ 109 rfl rfl rfl
theorem dr_cX17_giveAll_178 : decode cX17_giveAll 178 = .ok (.iload_n 3, 1) := by decide +kernel
theorem dr_cX17_giveAll_179 : decode cX17_giveAll 179 = .ok (.ireturn, 1) := by decide +kernel
theorem dr_cX17_giveAll_99 : decode cX17_giveAll 99 = .ok (.aload_n 1, 1) := by decide +kernel
theorem dr_cX17_giveAll_100 : decode cX17_giveAll 100 = .ok (.iload 5, 2) := by decide +kernel
theorem dr_cX17_giveAll_102 : decode cX17_giveAll 102 = .ok (.invokevirtual 101, 3) := by decide +kernel
theorem dr_cX17_giveAll_105 : decode cX17_giveAll 105 = .ok (.astore 6, 2) := by decide +kernel
theorem dr_cX17_giveAll_107 : decode cX17_giveAll 107 = .ok (.iconst 0, 1) := by decide +kernel
theorem dr_cX17_giveAll_108 : decode cX17_giveAll 108 = .ok (.istore 7, 2) := by decide +kernel
theorem dr_cX17_giveAll_110 : decode cX17_giveAll 110 = .ok (.iload 7, 2) := by decide +kernel
theorem dr_cX17_giveAll_112 : decode cX17_giveAll 112 = .ok (.aload 6, 2) := by decide +kernel
theorem dr_cX17_giveAll_114 : decode cX17_giveAll 114 = .ok (.getfield 117, 3) := by decide +kernel
theorem dr_cX17_giveAll_117 : decode cX17_giveAll 117 = .ok (.invokevirtual 121, 3) := by decide +kernel
theorem dr_cX17_giveAll_120 : decode cX17_giveAll 120 = .ok (.if_icmp .gt 47, 3) := by decide +kernel
theorem dr_cX17_giveAll_167 : decode cX17_giveAll 167 = .ok (.iinc 5 1, 3) := by decide +kernel
theorem dr_cX17_giveAll_170 : decode cX17_giveAll 170 = .ok (.goto (-80), 3) := by decide +kernel
theorem dr_cX17_giveAll_123 : decode cX17_giveAll 123 = .ok (.aload_n 0, 1) := by decide +kernel
theorem dr_cX17_giveAll_124 : decode cX17_giveAll 124 = .ok (.iload 7, 2) := by decide +kernel
theorem dr_cX17_giveAll_126 : decode cX17_giveAll 126 = .ok (.aload 6, 2) := by decide +kernel
theorem dr_cX17_giveAll_128 : decode cX17_giveAll 128 = .ok (.getfield 117, 3) := by decide +kernel
theorem dr_cX17_giveAll_131 : decode cX17_giveAll 131 = .ok (.invokevirtual 121, 3) := by decide +kernel
theorem dr_cX17_giveAll_134 : decode cX17_giveAll 134 = .ok (.if_icmp .ge 19, 3) := by decide +kernel
theorem dr_cX17_giveAll_153 : decode cX17_giveAll 153 = .ok (.aload 6, 2) := by decide +kernel
theorem dr_cX17_giveAll_155 : decode cX17_giveAll 155 = .ok (.getfield 109, 3) := by decide +kernel
theorem dr_cX17_giveAll_158 : decode cX17_giveAll 158 = .ok (.invokevirtual 256, 3) := by decide +kernel
theorem wr_11_55 : (Jvm.Cond.methodLink "SpillForgeModel" (256 : Nat) ({ cls := "SpillForgeModel", name := "coloured", desc := "(LSpillForgeModel$Row;)V" } : Jvm.MethodName)) ∈ gw := gw_11 55 rfl rfl
theorem wr_11_58 : (Jvm.Cond.code ({ cls := "SpillForgeModel", name := "coloured", desc := "(LSpillForgeModel$Row;)V" } : Jvm.MethodName) prog_14_method_25_code (2 : Nat) (Option.none : Option Jvm.ClassFile.FieldType)) ∈ gw := gw_11 58 rfl rfl
theorem wr_11_57 : (Jvm.Cond.instanceMethod ({ cls := "SpillForgeModel", name := "coloured", desc := "(LSpillForgeModel$Row;)V" } : Jvm.MethodName)) ∈ gw := gw_11 57 rfl rfl
theorem wr_p_108 : Cond.selects "SpillForgeModel" ⟨"SpillForgeModel", "coloured", "(LSpillForgeModel$Row;)V"⟩ ⟨"SpillForgeModel", "coloured", "(LSpillForgeModel$Row;)V"⟩ ∈ gw := gw_p _ 108 rfl rfl rfl
theorem dr_cX17_giveAll_161 : decode cX17_giveAll 161 = .ok (.iinc 7 1, 3) := by decide +kernel
theorem dr_cX17_giveAll_164 : decode cX17_giveAll 164 = .ok (.goto (-54), 3) := by decide +kernel
theorem dr_cX17_giveAll_137 : decode cX17_giveAll 137 = .ok (.aload 6, 2) := by decide +kernel
theorem dr_cX17_giveAll_139 : decode cX17_giveAll 139 = .ok (.getfield 117, 3) := by decide +kernel
theorem dr_cX17_giveAll_142 : decode cX17_giveAll 142 = .ok (.iload 7, 2) := by decide +kernel
theorem dr_cX17_giveAll_144 : decode cX17_giveAll 144 = .ok (.invokevirtual 124, 3) := by decide +kernel
theorem dr_cX17_giveAll_147 : decode cX17_giveAll 147 = .ok (.checkcast 40, 3) := by decide +kernel
theorem dr_cX17_giveAll_150 : decode cX17_giveAll 150 = .ok (.goto 8, 3) := by decide +kernel
theorem dr_cX17_giveAll_61 : decode cX17_giveAll 61 = .ok (.aload_n 0, 1) := by decide +kernel
theorem dr_cX17_giveAll_62 : decode cX17_giveAll 62 = .ok (.aload_n 1, 1) := by decide +kernel
theorem dr_cX17_giveAll_63 : decode cX17_giveAll 63 = .ok (.iconst 0, 1) := by decide +kernel
theorem dr_cX17_giveAll_64 : decode cX17_giveAll 64 = .ok (.invokevirtual 243, 3) := by decide +kernel
theorem dr_cX17_giveAll_67 : decode cX17_giveAll 67 = .ok (.goto (-15), 3) := by decide +kernel
theorem dr_cX17_giveAll_44 : decode cX17_giveAll 44 = .ok (.iconst (-1), 1) := by decide +kernel
theorem dr_cX17_giveAll_45 : decode cX17_giveAll 45 = .ok (.ireturn, 1) := by decide +kernel
abbrev ky_629669_SpillForgeModel_giveAll : gKey := (cX17_giveAll, 8, "SpillForgeModel", (some FieldType.int), [], "giveAll", fun _ _ => True)
def pg_629669_SpillForgeModel_giveAll (D : va_G) (I : FieldType → ClassId) (γ0 el0 : Nat → Nat → Nat) (f : Nat) (B : Nat) (P629661 : List Nat) (F629662 : Nat → va_E) (q629663 : Nat) (q629664 : Nat) (p629665 : Int32) : Option Value → va_W → Nat → Nat → Prop := fun r w dc ds => ∃ (P655117 : List Nat) (F655118 : Nat → va_E) (γ el : Nat → Nat → Nat) (o655116 : Int32), r = some (.int o655116) ∧ w = va_pl P655117 F655118 ∧ rSk f [101] ([1, 3, 5, 6, 8, 9, 101] ++ npk) D I P629661 F629662 γ0 el0 P655117 F655118 γ el ∧ (18 * dc + rPh γ0 el0 f ≤ rPh γ el f ∧ ds + rPh γ0 el0 f ≤ rPh γ el f) ∧ rBd γ el f B ∧ gB o655116 (-1) 40 ∧ γ 6 f = γ0 6 f ∧ mKp (F629662 q629663) (F655118 q629663)
set_option maxRecDepth 100000 in
set_option maxHeartbeats 20000000 in
theorem cg_629669_SpillForgeModel_giveAll (l : Launch) (hl0 : l.stackTraces = false) (D : va_G) (I : FieldType → ClassId) (γ0 el0 : Nat → Nat → Nat) (f : Nat) (B : Nat) (P629661 : List Nat) (F629662 : Nat → va_E) (q629663 : Nat) (q629664 : Nat) (p629665 : Int32) (hT0 : RS D I P629661 F629662 γ0 el0) (hzq629663 : rKd γ0 q629663 10) (hzq629664 : rKd γ0 q629664 9) (hf0 : γ0 1 q629664 = f) (hB0 : rBd γ0 el0 f B) (hBk : B ≤ 100000) (bp629665 : gB p629665 1 32) (x629666 : 0 < γ0 6 f) (x629667 : γ0 7 f = 0) (x629668 : γ0 16 f + 3901 ≤ B) : CtA (gV D I) l yX17_giveAll cX17_giveAll 8 (some FieldType.int) 10 224 (((387 * B + 6000) - rPh γ0 el0 f) / 18) ((387 * B + 6000) - rPh γ0 el0 f) [.ref q629663, .ref q629664, .int p629665] (va_pl P629661 F629662) (pg_629669_SpillForgeModel_giveAll D I γ0 el0 f B P629661 F629662 q629663 q629664 p629665) gNA := by
  refine CtA_of hl0 (by decide) (Nat.le_of_ble_eq_true rfl) ?_
  obtain ⟨γ, hγ0⟩ : ∃ z, z = γ0 := ⟨_, rfl⟩
  obtain ⟨el, hel0⟩ : ∃ z, z = el0 := ⟨_, rfl⟩
  have hT : RS D I P629661 F629662 γ el := by rw [hγ0, hel0]; exact hT0
  have hst : rSk f [101] ([1, 3, 5, 6, 8, 9, 101] ++ npk) D I P629661 F629662 γ0 el0 P629661 F629662 γ el := by rw [hγ0, hel0]; exact rSk_rf hT0
  have hph : rPh γ0 el0 f ≤ rPh γ el f := by rw [hγ0, hel0]; exact Nat.le_refl _
  have hB : rBd γ el f B := by rw [hγ0, hel0]; exact hB0
  have htq629663 : rKd γ q629663 10 := by rw [hγ0]; exact hzq629663
  have htq629664 : rKd γ q629664 9 := by rw [hγ0]; exact hzq629664
  have hf1 : γ 1 q629664 = f := by rw [hγ0]; exact hf0
  have x629666n : 0 < γ 6 f := by rw [hγ0]; exact x629666
  have x629667n : γ 7 f = 0 := by rw [hγ0]; exact x629667
  have x629668n : γ 16 f + 3901 ≤ B := by rw [hγ0]; exact x629668
  have pk629670 : rPh γ el f ≤ 387 * B + 6000 := rm_pk (rM_ge hT htq629664 hf1).1 (rM_bd hB)
  refine G_widen (cs' := ((rPh γ el f - rPh γ0 el0 f) / 18)) (sl' := (rPh γ el f - rPh γ0 el0 f)) (Nat.zero_le _) (Nat.zero_le _) ?_
  have lz0 : Int32.toInt 0 = 0 := by decide
  have r629671 : γ 6 f = γ0 6 f := by rw [hγ0]
  have r629672 : γ 7 f = γ0 7 f := by rw [hγ0]
  have r629673 : γ 16 f = γ0 16 f := by rw [hγ0]
  have r629674 : γ 18 f = γ0 18 f := by rw [hγ0]
  have r629675 : γ 19 f = γ0 19 f := by rw [hγ0]
  have hm629676 : q629663 ∈ P629661 := RS_m hT htq629663 (by decide)
  refine rk10_e (show rk_10 γ (F629662 q629663) from RS_o hT htq629663) (fun q629678 q629679 p629680 p629681 p629682 p629683 p629684 p629685 p629686 p629687 p629688 p629689 p629690 p629691 p629692 p629693 p629694 he629677 hB629721 ht629695 ht629696 ht629697 ht629698 ht629699 ht629700 ht629701 ht629702 ht629703 ht629704 ht629705 ht629706 ht629707 ht629708 ht629709 ht629710 ht629711 ht629712 ht629713 ht629714 ht629715 ht629716 ht629717 ht629718 hB629722 => ?_)
  have k0_3 : rKd γ0 (γ0 9 3) 14 := by rw [← hγ0]; exact ht629700
  have k0_17 : rKd γ0 (γ0 9 17) 20 := by rw [← hγ0]; exact ht629708
  refine G_aload_n 0 dr_cX17_giveAll_0 rfl ?_
  refine G_iconst 0 dr_cX17_giveAll_1 (by decide +kernel) ?_
  refine Gp_put 11 hm629676 he629677 dr_cX17_giveAll_2 (gk_X17 D I) (Nat.le_of_ble_eq_true rfl) wr_7_85 rfl rfl rfl (Nat.le_of_ble_eq_true rfl) (fun F629723 e629724 n629725 => ?_)
  have he629726 : F629723 q629663 = .inr (22, [.ref (γ 9 0), .ref (γ 9 1), .ref (γ 9 2), .ref (γ 9 3), .ref (γ 9 4), .ref (γ 9 5), .ref (γ 9 6), .ref (γ 9 7), .ref (γ 9 8), .int p629680, .int p629681, .int 0, .int p629683, .int p629684, .int p629685, .ref (γ 9 15), .ref (γ 9 16), .ref (γ 9 17), .ref (γ 9 18), .ref (γ 9 19), .ref (γ 9 20), .ref (γ 9 21), .ref (γ 9 22), .int p629686, .int p629687, .int p629688, .int p629689, .int p629690, .ref q629678, .ref (γ 9 29), .int p629691, .ref (γ 9 31), .int p629692, .int p629693, .int p629694, .ref q629679]) := e629724
  have mk629727 : mKp (F629662 q629663) (F629723 q629663) := mKp_tr mKp_rf (by rw [he629677, he629726]; exact ⟨rfl, rfl⟩)
  have kp629728 : F629723 (γ0 9 3) = F629662 (γ0 9 3) := n629725 (γ0 9 3) (rn_ty (rSk_k hst k0_3 (by decide) (by decide)) htq629663 (by decide))
  have kp629729 : F629723 (γ0 9 17) = F629662 (γ0 9 17) := n629725 (γ0 9 17) (rn_ty (rSk_k hst k0_17 (by decide) (by decide)) htq629663 (by decide))
  refine G_aload_n 0 dr_cX17_giveAll_5 rfl ?_
  refine G_iconst 0 dr_cX17_giveAll_6 (by decide +kernel) ?_
  refine Gp_put 12 hm629676 he629726 dr_cX17_giveAll_7 (gk_X17 D I) (Nat.le_of_ble_eq_true rfl) wr_7_86 rfl rfl rfl (Nat.le_of_ble_eq_true rfl) (fun F629730 e629731 n629732 => ?_)
  have he629733 : F629730 q629663 = .inr (22, [.ref (γ 9 0), .ref (γ 9 1), .ref (γ 9 2), .ref (γ 9 3), .ref (γ 9 4), .ref (γ 9 5), .ref (γ 9 6), .ref (γ 9 7), .ref (γ 9 8), .int p629680, .int p629681, .int 0, .int 0, .int p629684, .int p629685, .ref (γ 9 15), .ref (γ 9 16), .ref (γ 9 17), .ref (γ 9 18), .ref (γ 9 19), .ref (γ 9 20), .ref (γ 9 21), .ref (γ 9 22), .int p629686, .int p629687, .int p629688, .int p629689, .int p629690, .ref q629678, .ref (γ 9 29), .int p629691, .ref (γ 9 31), .int p629692, .int p629693, .int p629694, .ref q629679]) := e629731
  have mk629734 : mKp (F629662 q629663) (F629730 q629663) := mKp_tr mk629727 (by rw [he629726, he629733]; exact ⟨rfl, rfl⟩)
  have n629735 : ∀ b, b ≠ q629663 → F629730 b = F629662 b := fun b hb => (n629732 b hb).trans (n629725 b hb)
  have kp629736 : F629730 (γ0 9 3) = F629662 (γ0 9 3) := (n629732 (γ0 9 3) (rn_ty (rSk_k hst k0_3 (by decide) (by decide)) htq629663 (by decide))).trans kp629728
  have kp629737 : F629730 (γ0 9 17) = F629662 (γ0 9 17) := (n629732 (γ0 9 17) (rn_ty (rSk_k hst k0_17 (by decide) (by decide)) htq629663 (by decide))).trans kp629729
  refine G_aload_n 0 dr_cX17_giveAll_10 rfl ?_
  refine G_iconst 0 dr_cX17_giveAll_11 (by decide +kernel) ?_
  refine Gp_put 13 hm629676 he629733 dr_cX17_giveAll_12 (gk_X17 D I) (Nat.le_of_ble_eq_true rfl) wr_7_87 rfl rfl rfl (Nat.le_of_ble_eq_true rfl) (fun F629738 e629739 n629740 => ?_)
  have he629741 : F629738 q629663 = .inr (22, [.ref (γ 9 0), .ref (γ 9 1), .ref (γ 9 2), .ref (γ 9 3), .ref (γ 9 4), .ref (γ 9 5), .ref (γ 9 6), .ref (γ 9 7), .ref (γ 9 8), .int p629680, .int p629681, .int 0, .int 0, .int 0, .int p629685, .ref (γ 9 15), .ref (γ 9 16), .ref (γ 9 17), .ref (γ 9 18), .ref (γ 9 19), .ref (γ 9 20), .ref (γ 9 21), .ref (γ 9 22), .int p629686, .int p629687, .int p629688, .int p629689, .int p629690, .ref q629678, .ref (γ 9 29), .int p629691, .ref (γ 9 31), .int p629692, .int p629693, .int p629694, .ref q629679]) := e629739
  have mk629742 : mKp (F629662 q629663) (F629738 q629663) := mKp_tr mk629734 (by rw [he629733, he629741]; exact ⟨rfl, rfl⟩)
  have n629743 : ∀ b, b ≠ q629663 → F629738 b = F629662 b := fun b hb => (n629740 b hb).trans (n629735 b hb)
  have kp629744 : F629738 (γ0 9 3) = F629662 (γ0 9 3) := (n629740 (γ0 9 3) (rn_ty (rSk_k hst k0_3 (by decide) (by decide)) htq629663 (by decide))).trans kp629736
  have kp629745 : F629738 (γ0 9 17) = F629662 (γ0 9 17) := (n629740 (γ0 9 17) (rn_ty (rSk_k hst k0_17 (by decide) (by decide)) htq629663 (by decide))).trans kp629737
  refine G_aload_n 0 dr_cX17_giveAll_15 rfl ?_
  refine G_bipush 100 dr_cX17_giveAll_16 (by decide +kernel) ?_
  refine Gp_put 14 hm629676 he629741 dr_cX17_giveAll_18 (gk_X17 D I) (Nat.le_of_ble_eq_true rfl) wr_7_88 rfl rfl rfl (Nat.le_of_ble_eq_true rfl) (fun F629746 e629747 n629748 => ?_)
  have he629749 : F629746 q629663 = .inr (22, [.ref (γ 9 0), .ref (γ 9 1), .ref (γ 9 2), .ref (γ 9 3), .ref (γ 9 4), .ref (γ 9 5), .ref (γ 9 6), .ref (γ 9 7), .ref (γ 9 8), .int p629680, .int p629681, .int 0, .int 0, .int 0, .int 100, .ref (γ 9 15), .ref (γ 9 16), .ref (γ 9 17), .ref (γ 9 18), .ref (γ 9 19), .ref (γ 9 20), .ref (γ 9 21), .ref (γ 9 22), .int p629686, .int p629687, .int p629688, .int p629689, .int p629690, .ref q629678, .ref (γ 9 29), .int p629691, .ref (γ 9 31), .int p629692, .int p629693, .int p629694, .ref q629679]) := e629747
  have mk629750 : mKp (F629662 q629663) (F629746 q629663) := mKp_tr mk629742 (by rw [he629741, he629749]; exact ⟨rfl, rfl⟩)
  have n629751 : ∀ b, b ≠ q629663 → F629746 b = F629662 b := fun b hb => (n629748 b hb).trans (n629743 b hb)
  have kp629752 : F629746 (γ0 9 3) = F629662 (γ0 9 3) := (n629748 (γ0 9 3) (rn_ty (rSk_k hst k0_3 (by decide) (by decide)) htq629663 (by decide))).trans kp629744
  have kp629753 : F629746 (γ0 9 17) = F629662 (γ0 9 17) := (n629748 (γ0 9 17) (rn_ty (rSk_k hst k0_17 (by decide) (by decide)) htq629663 (by decide))).trans kp629745
  refine G_aload_n 0 dr_cX17_giveAll_21 rfl ?_
  have hT629754 : RS D I P629661 F629746 γ el := RS_set hT n629751 htq629663 (by decide) ⟨q629678, q629679, p629680, p629681, 0, 0, 0, 100, p629686, p629687, p629688, p629689, p629690, p629691, p629692, p629693, p629694, he629749, ⟨(hB629721.1), (hB629721.2.1), (gB_w (gBl (show Int32.toInt 0 = 0 by decide)) (by decide) (by decide)), (gB_w (gBl (show Int32.toInt 100 = 100 by decide)) (by decide) (by decide)), (hB629721.2.2.2.2.1), (hB629721.2.2.2.2.2.1), (hB629721.2.2.2.2.2.2.1), (hB629721.2.2.2.2.2.2.2.1), (hB629721.2.2.2.2.2.2.2.2)⟩, ht629695, ht629696, ht629697, ht629698, ht629699, ht629700, ht629701, ht629702, ht629703, ht629704, ht629705, ht629706, ht629707, ht629708, ht629709, ht629710, ht629711, ht629712, ht629713, ht629714, ht629715, ht629716, ht629717, ht629718, hB629722⟩
  have hs629755 := rSk_put hst hT629754 n629751 htq629663 (by decide) (by decide)
  have ac629756 : (fI (F629746 q629663) 11).toInt = 0 := by rw [he629749]; show Int32.toInt 0 = 0; decide
  have ac629757 : (fI (F629746 q629663) 14).toInt = 100 := by rw [he629749]; show Int32.toInt 100 = 100; decide
  refine G_aload_n 1 dr_cX17_giveAll_22 rfl ?_
  have rg629758 := rM_ge hT629754 htq629664 hf1
  have rm629759 := rM_bd hB
  have bd629760 := rBd_c hT629754 htq629664 hf1 hB
  have rc629761 := rc_at hT629754 htq629664 hf1
  refine Gw_callV (As := [.ref q629664]) (gV_ok D I) (cg_365405_SpillForgeModel_zeros l hl0 D I γ el f B P629661 F629746 q629663 q629664 hT629754 htq629663 htq629664 hf1 hB hBk (by omega) (by omega)) dr_cX17_giveAll_23 ⟨wr_10_152, wr_1_14, wr_10_155, by decide, rfl, (Nat.le_of_ble_eq_true rfl), (Nat.le_of_ble_eq_true rfl)⟩ wr_10_154 wr_p_93 hm629676 he629749 rfl (rm_gc hph pk629670) (rm_gs hph pk629670) (Nat.le_of_ble_eq_true rfl) (fun r629765 w629766 dc629762 ds629763 hp629764 => ?_) (fun _ _ _ _ _ z => z.elim)
  obtain ⟨P629773, F629774, γ, el, rfl, rfl, hk629775, ⟨hr629776, hr629777⟩, hB629778, x629767, x629768, x629769, x629770, x629771, ht629772⟩ := hp629764
  have hT629779 := hk629775.1
  have hs629780 := rSk_tr hs629755 hk629775 (by decide) (by decide) (by decide)
  have ht629781 : rKd γ q629663 10 := rSk_k hk629775 htq629663 (by decide) (by decide)
  have ht629782 : rKd γ q629664 9 := rSk_k hk629775 htq629664 (by decide) (by decide)
  have hf629783 : γ 1 q629664 = f := rSk_1 hk629775 htq629664 (by decide) hf1
  clear rg629758 rm629759 bd629760 rc629761
  have mk629784 : mKp (F629662 q629663) (F629774 q629663) := mKp_tr mk629750 (mKp_eq x629771)
  have hph629785 : rPh γ0 el0 f ≤ rPh γ el f := rm_ph hph hr629777
  have pk629786 : rPh γ el f ≤ 387 * B + 6000 := rm_pk (rM_ge hT629779 ht629782 hf629783).1 (rM_bd hB629778)
  change G _ _ _ _ _ _ _ _ _ _ _
  refine G_widen (cs' := ((rPh γ el f - rPh γ0 el0 f) / 18)) (sl' := (rPh γ el f - rPh γ0 el0 f)) (rm_wc hph hr629776) (rm_ws hph hr629777) ?_
  have r629787 : 0 < γ 6 (γ 1 q629664) := by rw [hf629783]; omega
  have ac629788 : (fI (F629774 q629663) 11).toInt = (fI (F629746 q629663) 11).toInt := by rw [x629771]
  have ac629789 : (fI (F629774 q629663) 14).toInt = (fI (F629746 q629663) 14).toInt := by rw [x629771]
  have hm629790 : q629663 ∈ P629773 := RS_m hT629779 ht629781 (by decide)
  refine rk10_e (show rk_10 γ (F629774 q629663) from RS_o hT629779 ht629781) (fun q629792 q629793 p629794 p629795 p629796 p629797 p629798 p629799 p629800 p629801 p629802 p629803 p629804 p629805 p629806 p629807 p629808 he629791 hB629835 ht629809 ht629810 ht629811 ht629812 ht629813 ht629814 ht629815 ht629816 ht629817 ht629818 ht629819 ht629820 ht629821 ht629822 ht629823 ht629824 ht629825 ht629826 ht629827 ht629828 ht629829 ht629830 ht629831 ht629832 hB629836 => ?_)
  have ac629837 : (fI (F629774 q629663) 11).toInt = p629796.toInt := by rw [he629791]; rfl
  have bp629796 : gB p629796 0 100 := (hB629835.2.2.1)
  have ac629838 : (fI (F629774 q629663) 14).toInt = p629799.toInt := by rw [he629791]; rfl
  have bp629799 : gB p629799 0 2000 := (hB629835.2.2.2.1)
  have ni629839 : rNI γ el F629774 q629664 (γ 6 f) (fI (F629774 q629663) 11).toInt := rNI_s (rNI_0 hT629779 ht629782 hf629783 (by omega)) (by omega)
  refine G_iconst 1 dr_cX17_giveAll_26 (by decide +kernel) ?_
  refine G_istore_n (L' := [(3, .int 1), (0, .ref q629663), (1, .ref q629664), (2, .int p629665)]) dr_cX17_giveAll_27 (Nat.le_of_ble_eq_true rfl) rfl ?_
  have hlp28_651990 : ∀ (n28_651990 : Nat) (P651979 : List Nat) (F651980 : Nat → va_E) (γ el : Nat → Nat → Nat) (g651978 : Int32), gB g651978 1 41 → RS D I P651979 F651980 γ el → rSk f [101] ([1, 3, 5, 6, 8, 9, 101] ++ npk) D I P629661 F629662 γ0 el0 P651979 F651980 γ el → rPh γ0 el0 f ≤ rPh γ el f → rBd γ el f B → γ 6 f = γ0 6 f → ((γ 7 f : Nat) : Int) = (fI (F651980 q629663) 11).toInt → ((γ 16 f : Nat) : Int) + 2001 ≤ (B : Int) + (fI (F651980 q629663) 14).toInt → 100 ≤ (fI (F651980 q629663) 14).toInt → rNI γ el F651980 q629664 (γ 6 f) (fI (F651980 q629663) 11).toInt → mKp (F629662 q629663) (F651980 q629663) → ((42 : Int) - g651978.toInt).toNat < n28_651990 → G (gV D I) l (gRm 10 224 (((387 * B + 6000) - rPh γ0 el0 f) / 18) ((387 * B + 6000) - rPh γ0 el0 f)) (gMA (gV D I) (pg_629669_SpillForgeModel_giveAll D I γ0 el0 f B P629661 F629662 q629663 q629664 p629665) gNA (((387 * B + 6000) - rPh γ0 el0 f) / 18) ((387 * B + 6000) - rPh γ0 el0 f)) ky_629669_SpillForgeModel_giveAll 28 [(3, .int g651978), (0, .ref q629663), (1, .ref q629664), (2, .int p629665)] [] (va_pl P651979 F651980) ((rPh γ el f - rPh γ0 el0 f) / 18) (rPh γ el f - rPh γ0 el0 f) := by
    intro n28_651990
    induction n28_651990 with
    | zero => intro P651979 F651980 γ el g651978 bg651978 hT651981 hs651982 hph651983 hB651984 x651985 x651986 x651987 x651988 x651989 x651990 hm28_651990; exact absurd hm28_651990 (Nat.not_lt_zero _)
    | succ n28_651990 ih28_651990 =>
      intro P651979 F651980 γ el g651978 bg651978 hT651981 hs651982 hph651983 hB651984 x651985 x651986 x651987 x651988 x651989 x651990 hm28_651990
      clear r629671 r629672 r629673 r629674 r629675 hr629776 hr629777 hph629785 pk629786 r629787
      have ht651992 : rKd γ q629663 10 := rSk_k hs651982 hzq629663 (by decide) (by decide)
      have ht651993 : rKd γ q629664 9 := rSk_k hs651982 hzq629664 (by decide) (by decide)
      have hf651994 : γ 1 q629664 = f := rSk_1 hs651982 hzq629664 (by decide) hf0
      have pk651995 : rPh γ el f ≤ 387 * B + 6000 := rm_pk (rM_ge hT651981 ht651993 hf651994).1 (rM_bd hB651984)
      have r651996 : 0 < γ 6 (γ 1 q629664) := by rw [hf651994]; omega
      have hm651997 : q629663 ∈ P651979 := RS_m hT651981 ht651992 (by decide)
      refine rk10_e (show rk_10 γ (F651980 q629663) from RS_o hT651981 ht651992) (fun q651999 q652000 p652001 p652002 p652003 p652004 p652005 p652006 p652007 p652008 p652009 p652010 p652011 p652012 p652013 p652014 p652015 he651998 hB652042 ht652016 ht652017 ht652018 ht652019 ht652020 ht652021 ht652022 ht652023 ht652024 ht652025 ht652026 ht652027 ht652028 ht652029 ht652030 ht652031 ht652032 ht652033 ht652034 ht652035 ht652036 ht652037 ht652038 ht652039 hB652043 => ?_)
      have ac652044 : (fI (F651980 q629663) 11).toInt = p652003.toInt := by rw [he651998]; rfl
      have bp652003 : gB p652003 0 100 := (hB652042.2.2.1)
      have ac652045 : (fI (F651980 q629663) 14).toInt = p652006.toInt := by rw [he651998]; rfl
      have bp652006 : gB p652006 0 2000 := (hB652042.2.2.2.1)
      refine G_iload_n 0 dr_cX17_giveAll_28 rfl ?_
      refine G_bipush 40 dr_cX17_giveAll_29 (by decide +kernel) ?_
      refine G_icmp_gt 207 dr_cX17_giveAll_31 (by decide +kernel) (fun hc652046 => ?_) (fun hc652046 => ?_)
      · have r652047 : 40 < g651978.toInt := gj_ltL hc652046 (show Int32.toInt 40 = 40 by decide)
        have bg651978' : gB g651978 41 41 := ⟨by omega, by omega⟩
        refine G_iconst (-1) dr_cX17_giveAll_207 (by decide +kernel) ?_
        exact G_iretA dr_cX17_giveAll_208 rfl (show ((rPh γ el f - rPh γ0 el0 f) / 18) ≤ (((387 * B + 6000) - rPh γ0 el0 f) / 18) by omega) (show (rPh γ el f - rPh γ0 el0 f) ≤ ((387 * B + 6000) - rPh γ0 el0 f) by omega) ⟨P651979, F651980, γ, el, (-1), rfl, rfl, hs651982, ⟨by omega, by omega⟩, hB651984, (gB_w (gBl (show Int32.toInt (-1) = (-1) by decide)) (by decide) (by decide)), (by have qa0 : Int32.toInt (-1) = (-1) := (by decide); omega), x651990⟩
      · have r652048 : g651978.toInt ≤ 40 := gj_nltL hc652046 (show Int32.toInt 40 = 40 by decide)
        have bg651978' : gB g651978 1 40 := ⟨by omega, by omega⟩
        refine G_aload_n 2 dr_cX17_giveAll_34 rfl ?_
        have hm652054 : q629664 ∈ P651979 := RS_m hT651981 ht651993 (by decide)
        obtain ⟨q652056, q652057, p652058, p652059, he652055, ht652075, ht652060, ht652061, ht652062, ht652063, r652064, r652065, r652066, r652067, r652068, r652069, r652070, r652071, r652072, r652073, r652074⟩ := show rk_9 γ el q629664 (F651980 q629664) from RS_o hT651981 ht651993
        have bp652058 : gB p652058 0 1000000 := ⟨by omega, by omega⟩
        have bp652059 : gB p652059 0 1000000 := ⟨by omega, by omega⟩
        have hf652076 : γ 1 q652056 = f := (show γ 1 q652056 = γ 1 q629664 from ht652061).trans hf651994
        have hf652077 : γ 1 q652057 = f := (show γ 1 q652057 = γ 1 q629664 from ht652063).trans hf651994
        have r652078 : γ 6 (γ 1 q629664) = γ 6 f := by rw [hf651994]
        have r652079 : γ 16 (γ 1 q629664) = γ 16 f := by rw [hf651994]
        have r652080 : p652059.toInt = γ 6 f ∧ p652059.toInt ≤ 40 := by omega
        clear r652070
        refine Gw_callV (As := []) (gV_ok D I) (ct_7810_Code_countRows l hl0 D I γ el P651979 F651980 q629664 hT651981 ht651993 (by omega)) dr_cX17_giveAll_35 ⟨wr_10_229, wr_1_15, wr_10_232, by decide, rfl, (Nat.le_of_ble_eq_true rfl), (Nat.le_of_ble_eq_true rfl)⟩ wr_10_230 wr_10_231 hm652054 he652055 rfl (rm_zc pk651995) (rm_zs pk651995) (Nat.le_of_ble_eq_true rfl) (fun r652052 w652053 dc652049 ds652050 hp652051 => ?_) (fun _ _ _ _ _ z => z.elim)
        obtain ⟨o652081, rfl, rfl, hdc, hds, ht652082⟩ := hp652051
        have bo652081 := gB_any o652081
        change G _ _ _ _ _ _ _ (.int o652081 :: _) _ _ _
        refine G_widen (cs' := ((rPh γ el f - rPh γ0 el0 f) / 18)) (sl' := (rPh γ el f - rPh γ0 el0 f)) (rm_d0 hdc) (rm_d0 hds) ?_
        refine G_sipush 4000 dr_cX17_giveAll_38 (by decide +kernel) ?_
        refine G_icmp_le 46 dr_cX17_giveAll_41 (by decide +kernel) (fun hc652083 => ?_) (fun hc652083 => ?_)
        · have r652084 : o652081.toInt ≤ 4000 := gj_le hc652083 (show Int32.toInt 4000 = 4000 by decide)
          have bo652081' : gB o652081 (-2147483648) 4000 := ⟨by omega, by omega⟩
          refine G_aload_n 1 dr_cX17_giveAll_46 rfl ?_
          refine G_aload_n 2 dr_cX17_giveAll_47 rfl ?_
          refine G_iconst 0 dr_cX17_giveAll_48 (by decide +kernel) ?_
          refine Gw_callV (As := [.ref q629664, .int 0]) (gV_ok D I) (ct_276998_SpillForgeModel_graph l hl0 D I γ el P651979 F651980 q629663 q629664 0 hT651981 ht651992 ht651993 (gB_w (gBl (show Int32.toInt 0 = 0 by decide)) (by decide) (by decide)) (by omega)) dr_cX17_giveAll_49 ⟨wr_10_233, wr_1_14, wr_10_236, by decide, rfl, (Nat.le_of_ble_eq_true rfl), (Nat.le_of_ble_eq_true rfl)⟩ wr_10_235 wr_p_99 hm651997 he651998 rfl (rm_zc pk651995) (rm_zs pk651995) (Nat.le_of_ble_eq_true rfl) (fun r652088 w652089 dc652085 ds652086 hp652087 => ?_) (fun _ _ _ _ _ z => z.elim)
          obtain ⟨F652093, rfl, rfl, hT652094, hs652095, hdc, hds, x652090, x652091, ht652092⟩ := hp652087
          have he652096 : F652093 q629664 = .inr (18, [.ref q652056, .ref q652057, .int p652058, .int p652059]) := (hs652095 q629664 (rT0 ht651993 (by decide)) (rT1 ht651993 (by decide)) (rT2 ht651993 (by decide))).trans he652055
          have hs652097 := rSk_str hs651982 hT652094 hs652095 (by decide) (by decide) (by decide)
          have kp652098 : F652093 q629663 = F651980 q629663 := x652091
          have mk652099 : mKp (F629662 q629663) (F652093 q629663) := mKp_tr x651990 (mKp_eq x652091)
          have he652100 : F652093 q629663 = .inr (22, [.ref (γ 9 0), .ref (γ 9 1), .ref (γ 9 2), .ref (γ 9 3), .ref (γ 9 4), .ref (γ 9 5), .ref (γ 9 6), .ref (γ 9 7), .ref (γ 9 8), .int p652001, .int p652002, .int p652003, .int p652004, .int p652005, .int p652006, .ref (γ 9 15), .ref (γ 9 16), .ref (γ 9 17), .ref (γ 9 18), .ref (γ 9 19), .ref (γ 9 20), .ref (γ 9 21), .ref (γ 9 22), .int p652007, .int p652008, .int p652009, .int p652010, .int p652011, .ref q651999, .ref (γ 9 29), .int p652012, .ref (γ 9 31), .int p652013, .int p652014, .int p652015, .ref q652000]) := (x652091).trans he651998
          rw [show Int32.toInt 0 = 0 from by decide] at x652090
          change G _ _ _ _ _ _ _ _ _ _ _
          refine G_widen (cs' := ((rPh γ el f - rPh γ0 el0 f) / 18)) (sl' := (rPh γ el f - rPh γ0 el0 f)) (rm_d0 hdc) (rm_d0 hds) ?_
          have ni652101 : rNI γ el F652093 q629664 (γ 6 f) (fI (F652093 q629663) 11).toInt := rNI_s (rNI_str hT651981 ht651993 hf651994 hs652095 (by decide) x651989) (by rw [x652091])
          have gr652102 : rGr γ el F652093 q629664 (γ 6 f) (cB (F652093 (γ0 9 3))) (vA (γ 6 f)) := by have z := x652090 (by decide); rw [hf651994] at z; rw [← congrFun (rSk_9 hs652097) 3]; exact gq_str hT651981 ht651993 hf651994 hs652095 (by decide) z
          have ac652103 : (fI (F652093 q629663) 11).toInt = (fI (F651980 q629663) 11).toInt := by rw [kp652098]
          have ac652104 : (fI (F652093 q629663) 14).toInt = (fI (F651980 q629663) 14).toInt := by rw [kp652098]
          have hlp52_653597 : ∀ (n52_653597 : Nat) (P653585 : List Nat) (F653586 : Nat → va_E) (γ el : Nat → Nat → Nat) , RS D I P653585 F653586 γ el → rSk f [101] ([1, 3, 5, 6, 8, 9, 101] ++ npk) D I P629661 F629662 γ0 el0 P653585 F653586 γ el → rPh γ0 el0 f ≤ rPh γ el f → rBd γ el f B → γ 6 f = γ0 6 f → ((γ 7 f : Nat) : Int) = (fI (F653586 q629663) 11).toInt → ((γ 16 f : Nat) : Int) + 2001 ≤ (B : Int) + (fI (F653586 q629663) 14).toInt → 100 ≤ (fI (F653586 q629663) 14).toInt → rNI γ el F653586 q629664 (γ 6 f) (fI (F653586 q629663) 11).toInt → rGr γ el F653586 q629664 (γ 6 f) (cB (F653586 (γ0 9 3))) (vA (γ 6 f)) → mKp (F629662 q629663) (F653586 q629663) → rsum (fun i => γ 2 (γ 14 (el (γ 14 q629664) i))) (γ 6 f) < n52_653597 → G (gV D I) l (gRm 10 224 (((387 * B + 6000) - rPh γ0 el0 f) / 18) ((387 * B + 6000) - rPh γ0 el0 f)) (gMA (gV D I) (pg_629669_SpillForgeModel_giveAll D I γ0 el0 f B P629661 F629662 q629663 q629664 p629665) gNA (((387 * B + 6000) - rPh γ0 el0 f) / 18) ((387 * B + 6000) - rPh γ0 el0 f)) ky_629669_SpillForgeModel_giveAll 52 [(3, .int g651978), (0, .ref q629663), (1, .ref q629664), (2, .int p629665)] [] (va_pl P653585 F653586) ((rPh γ el f - rPh γ0 el0 f) / 18) (rPh γ el f - rPh γ0 el0 f) := by
            intro n52_653597
            induction n52_653597 with
            | zero => intro P653585 F653586 γ el hT653587 hs653588 hph653589 hB653590 x653591 x653592 x653593 x653594 x653595 x653596 x653597 hm52_653597; exact absurd hm52_653597 (Nat.not_lt_zero _)
            | succ n52_653597 ih52_653597 =>
              intro P653585 F653586 γ el hT653587 hs653588 hph653589 hB653590 x653591 x653592 x653593 x653594 x653595 x653596 x653597 hm52_653597
              clear r652064 r652065 r652066 r652067 r652068 r652069 r652071 r652072 r652073 r652074 bp652058 bp652059 r652078 r652079 r652080
              have ht653599 : rKd γ q629663 10 := rSk_k hs653588 hzq629663 (by decide) (by decide)
              have ht653600 : rKd γ q629664 9 := rSk_k hs653588 hzq629664 (by decide) (by decide)
              have hf653601 : γ 1 q629664 = f := rSk_1 hs653588 hzq629664 (by decide) hf0
              have pk653602 : rPh γ el f ≤ 387 * B + 6000 := rm_pk (rM_ge hT653587 ht653600 hf653601).1 (rM_bd hB653590)
              have r653603 : 0 < γ 6 (γ 1 q629664) := by rw [hf653601]; omega
              have hm653604 : q629663 ∈ P653585 := RS_m hT653587 ht653599 (by decide)
              refine rk10_e (show rk_10 γ (F653586 q629663) from RS_o hT653587 ht653599) (fun q653606 q653607 p653608 p653609 p653610 p653611 p653612 p653613 p653614 p653615 p653616 p653617 p653618 p653619 p653620 p653621 p653622 he653605 hB653649 ht653623 ht653624 ht653625 ht653626 ht653627 ht653628 ht653629 ht653630 ht653631 ht653632 ht653633 ht653634 ht653635 ht653636 ht653637 ht653638 ht653639 ht653640 ht653641 ht653642 ht653643 ht653644 ht653645 ht653646 hB653650 => ?_)
              have ac653651 : (fI (F653586 q629663) 11).toInt = p653610.toInt := by rw [he653605]; rfl
              have bp653610 : gB p653610 0 100 := (hB653649.2.2.1)
              have ac653652 : (fI (F653586 q629663) 14).toInt = p653613.toInt := by rw [he653605]; rfl
              have bp653613 : gB p653613 0 2000 := (hB653649.2.2.2.1)
              refine G_aload_n 1 dr_cX17_giveAll_52 rfl ?_
              refine G_aload_n 2 dr_cX17_giveAll_53 rfl ?_
              refine G_iload_n 3 dr_cX17_giveAll_54 rfl ?_
              have rg653653 := rM_ge hT653587 ht653600 hf653601
              have rm653654 := rM_bd hB653590
              have bd653655 := rBd_c hT653587 ht653600 hf653601 hB653590
              have rc653656 := rc_at hT653587 ht653600 hf653601
              refine Gw_callV (As := [.ref q629664, .int p629665]) (gV_ok D I) (cg_396967_SpillForgeModel_merge l hl0 D I γ el f B P653585 F653586 q629663 q629664 p629665 hT653587 ht653599 ht653600 hf653601 hB653590 hBk (by omega)) dr_cX17_giveAll_55 ⟨wr_11_8, wr_1_14, wr_11_11, by decide, rfl, (Nat.le_of_ble_eq_true rfl), (Nat.le_of_ble_eq_true rfl)⟩ wr_11_10 wr_p_101 hm653604 he653605 rfl (rm_gc hph653589 pk653602) (rm_gs hph653589 pk653602) (Nat.le_of_ble_eq_true rfl) (fun r653660 w653661 dc653657 ds653658 hp653659 => ?_) (fun _ _ _ _ _ z => z.elim)
              obtain ⟨P653673, F653674, γ, el, o653662, rfl, rfl, hk653675, ⟨hr653676, hr653677⟩, hB653678, bo653662, x653663, x653664, x653665, x653666, x653667, x653668, x653669, x653670, x653671, x653672⟩ := hp653659
              have hT653679 := hk653675.1
              have hs653680 := rSk_tr hs653588 hk653675 (by decide) (by decide) (by decide)
              have ht653681 : rKd γ q629663 10 := rSk_k hk653675 ht653599 (by decide) (by decide)
              have ht653682 : rKd γ q629664 9 := rSk_k hk653675 ht653600 (by decide) (by decide)
              have hf653683 : γ 1 q629664 = f := rSk_1 hk653675 ht653600 (by decide) hf653601
              clear rg653653 rm653654 bd653655 rc653656
              have mk653684 : mKp (F629662 q629663) (F653674 q629663) := mKp_tr x653597 x653672
              have hph653685 : rPh γ0 el0 f ≤ rPh γ el f := rm_ph hph653589 hr653677
              have pk653686 : rPh γ el f ≤ 387 * B + 6000 := rm_pk (rM_ge hT653679 ht653682 hf653683).1 (rM_bd hB653678)
              change G _ _ _ _ _ _ _ (.int o653662 :: _) _ _ _
              refine G_widen (cs' := ((rPh γ el f - rPh γ0 el0 f) / 18)) (sl' := (rPh γ el f - rPh γ0 el0 f)) (rm_wc hph653589 hr653676) (rm_ws hph653589 hr653677) ?_
              have r653687 : 0 < γ 6 (γ 1 q629664) := by rw [hf653683]; omega
              have hm653688 : q629663 ∈ P653673 := RS_m hT653679 ht653681 (by decide)
              refine rk10_e (show rk_10 γ (F653674 q629663) from RS_o hT653679 ht653681) (fun q653690 q653691 p653692 p653693 p653694 p653695 p653696 p653697 p653698 p653699 p653700 p653701 p653702 p653703 p653704 p653705 p653706 he653689 hB653733 ht653707 ht653708 ht653709 ht653710 ht653711 ht653712 ht653713 ht653714 ht653715 ht653716 ht653717 ht653718 ht653719 ht653720 ht653721 ht653722 ht653723 ht653724 ht653725 ht653726 ht653727 ht653728 ht653729 ht653730 hB653734 => ?_)
              have ac653735 : (fI (F653674 q629663) 11).toInt = p653694.toInt := by rw [he653689]; rfl
              have bp653694 : gB p653694 0 100 := (hB653733.2.2.1)
              have ac653736 : (fI (F653674 q629663) 14).toInt = p653697.toInt := by rw [he653689]; rfl
              have bp653697 : gB p653697 0 2000 := (hB653733.2.2.2.1)
              have ni653737 : rNI γ el F653674 q629664 (γ 6 f) (fI (F653674 q629663) 11).toInt := rNI_s (rNI_mg x653668 x653595) x653669
              refine G_if_eq 70 dr_cX17_giveAll_58 (by decide +kernel) (fun hc653738 => ?_) (fun hc653738 => ?_)
              · have r653739 : o653662.toInt = 0 := gj_eq hc653738 (show Int32.toInt 0 = 0 by decide)
                have bo653662' : gB o653662 0 0 := gB_t0 r653739
                have r653740 := x653671 (by omega)
                have gr653741 : rGr γ el F653674 q629664 (γ 6 f) (cB (F653674 (γ0 9 3))) (vA (γ 6 f)) := by rw [r653740.1, r653740.2.1, r653740.2.2]; exact x653596
                refine G_aload_n 1 dr_cX17_giveAll_70 rfl ?_
                refine G_aload_n 2 dr_cX17_giveAll_71 rfl ?_
                refine Gw_callV (As := [.ref q629664]) (gV_ok D I) (ct_408010_SpillForgeModel_weigh l hl0 D I γ el P653673 F653674 q629663 q629664 hT653679 ht653681 ht653682 (by omega)) dr_cX17_giveAll_72 ⟨wr_11_33, wr_1_14, wr_11_36, by decide, rfl, (Nat.le_of_ble_eq_true rfl), (Nat.le_of_ble_eq_true rfl)⟩ wr_11_35 wr_p_104 hm653688 he653689 rfl (rm_zc pk653686) (rm_zs pk653686) (Nat.le_of_ble_eq_true rfl) (fun r653745 w653746 dc653742 ds653743 hp653744 => ?_) (fun _ _ _ _ _ z => z.elim)
                obtain ⟨F653750, rfl, rfl, hT653751, hs653752, hdc, hds, x653747, x653748, ht653749⟩ := hp653744
                have hs653753 := rSk_str hs653680 hT653751 hs653752 (by decide) (by decide) (by decide)
                have kp653754 : F653750 q629663 = F653674 q629663 := x653747
                have kp653755 : F653750 (γ0 9 3) = F653674 (γ0 9 3) := (show F653750 (γ0 9 3) = F653674 (γ0 9 3) by rw [← congrFun (rSk_9 hs653753) 3]; exact x653748)
                have mk653756 : mKp (F629662 q629663) (F653750 q629663) := mKp_tr mk653684 (mKp_eq x653747)
                have he653757 : F653750 q629663 = .inr (22, [.ref (γ 9 0), .ref (γ 9 1), .ref (γ 9 2), .ref (γ 9 3), .ref (γ 9 4), .ref (γ 9 5), .ref (γ 9 6), .ref (γ 9 7), .ref (γ 9 8), .int p653692, .int p653693, .int p653694, .int p653695, .int p653696, .int p653697, .ref (γ 9 15), .ref (γ 9 16), .ref (γ 9 17), .ref (γ 9 18), .ref (γ 9 19), .ref (γ 9 20), .ref (γ 9 21), .ref (γ 9 22), .int p653698, .int p653699, .int p653700, .int p653701, .int p653702, .ref q653690, .ref (γ 9 29), .int p653703, .ref (γ 9 31), .int p653704, .int p653705, .int p653706, .ref q653691]) := (x653747).trans he653689
                change G _ _ _ _ _ _ _ _ _ _ _
                refine G_widen (cs' := ((rPh γ el f - rPh γ0 el0 f) / 18)) (sl' := (rPh γ el f - rPh γ0 el0 f)) (rm_d0 hdc) (rm_d0 hds) ?_
                have ni653758 : rNI γ el F653750 q629664 (γ 6 f) (fI (F653750 q629663) 11).toInt := rNI_s (rNI_str hT653679 ht653682 hf653683 hs653752 (by decide) ni653737) (by rw [x653747])
                have gr653759 : rGr γ el F653750 q629664 (γ 6 f) (cB (F653750 (γ0 9 3))) (vA (γ 6 f)) := by rw [← congrFun (rSk_9 hs653753) 3, x653748, congrFun (rSk_9 hs653753) 3]; exact gq_str hT653679 ht653682 hf653683 hs653752 (by decide) gr653741
                have ac653760 : (fI (F653750 q629663) 11).toInt = (fI (F653674 q629663) 11).toInt := by rw [kp653754]
                have ac653761 : (fI (F653750 q629663) 14).toInt = (fI (F653674 q629663) 14).toInt := by rw [kp653754]
                refine G_aload_n 1 dr_cX17_giveAll_75 rfl ?_
                refine G_iload_n 3 dr_cX17_giveAll_76 rfl ?_
                refine Gw_callV (As := [.int p629665]) (gV_ok D I) (ct_335425_SpillForgeModel_colours l hl0 D I γ el P653673 F653750 q629663 p629665 hT653751 ht653681 bp629665) dr_cX17_giveAll_77 ⟨wr_11_47, wr_1_14, wr_11_50, by decide, rfl, (Nat.le_of_ble_eq_true rfl), (Nat.le_of_ble_eq_true rfl)⟩ wr_11_49 wr_p_106 hm653688 he653757 rfl (rm_zc pk653686) (rm_zs pk653686) (Nat.le_of_ble_eq_true rfl) (fun r653765 w653766 dc653762 ds653763 hp653764 => ?_) (fun _ _ _ _ _ z => z.elim)
                obtain ⟨F653771, o653767, rfl, rfl, hT653772, hs653773, hdc, hds, bo653767, x653768, x653769, x653770⟩ := hp653764
                have hs653774 := rSk_str hs653753 hT653772 hs653773 (by decide) (by decide) (by decide)
                have kp653775 : F653771 q629663 = F653674 q629663 := (x653769).trans kp653754
                have kp653776 : F653771 (γ0 9 3) = F653674 (γ0 9 3) := ((show F653771 (γ0 9 3) = F653750 (γ0 9 3) by rw [← congrFun (rSk_9 hs653774) 3]; exact x653770)).trans kp653755
                have mk653777 : mKp (F629662 q629663) (F653771 q629663) := mKp_tr mk653756 (mKp_eq x653769)
                have he653778 : F653771 q629663 = .inr (22, [.ref (γ 9 0), .ref (γ 9 1), .ref (γ 9 2), .ref (γ 9 3), .ref (γ 9 4), .ref (γ 9 5), .ref (γ 9 6), .ref (γ 9 7), .ref (γ 9 8), .int p653692, .int p653693, .int p653694, .int p653695, .int p653696, .int p653697, .ref (γ 9 15), .ref (γ 9 16), .ref (γ 9 17), .ref (γ 9 18), .ref (γ 9 19), .ref (γ 9 20), .ref (γ 9 21), .ref (γ 9 22), .int p653698, .int p653699, .int p653700, .int p653701, .int p653702, .ref q653690, .ref (γ 9 29), .int p653703, .ref (γ 9 31), .int p653704, .int p653705, .int p653706, .ref q653691]) := (x653769).trans he653757
                change G _ _ _ _ _ _ _ (.int o653767 :: _) _ _ _
                refine G_widen (cs' := ((rPh γ el f - rPh γ0 el0 f) / 18)) (sl' := (rPh γ el f - rPh γ0 el0 f)) (rm_d0 hdc) (rm_d0 hds) ?_
                have ni653779 : rNI γ el F653771 q629664 (γ 6 f) (fI (F653771 q629663) 11).toInt := rNI_s (rNI_str hT653751 ht653682 hf653683 hs653773 (by decide) ni653758) (by rw [x653769])
                have gr653780 : rGr γ el F653771 q629664 (γ 6 f) (cB (F653771 (γ0 9 3))) (vA (γ 6 f)) := by rw [← congrFun (rSk_9 hs653774) 3, x653770, congrFun (rSk_9 hs653774) 3]; exact gq_str hT653751 ht653682 hf653683 hs653773 (by decide) gr653759
                have ac653781 : (fI (F653771 q629663) 11).toInt = (fI (F653674 q629663) 11).toInt := by rw [kp653775]
                have ac653782 : (fI (F653771 q629663) 14).toInt = (fI (F653674 q629663) 14).toInt := by rw [kp653775]
                refine G_istore (L' := [(4, .int o653767), (3, .int g651978), (0, .ref q629663), (1, .ref q629664), (2, .int p629665)]) dr_cX17_giveAll_80 (Nat.le_of_ble_eq_true rfl) rfl ?_
                refine G_iload 0 dr_cX17_giveAll_82 rfl ?_
                refine G_if_ne 180 dr_cX17_giveAll_84 (by decide +kernel) (fun hc653783 => ?_) (fun hc653783 => ?_)
                · have r653784 : o653767.toInt ≠ 0 := gj_neq hc653783 (show Int32.toInt 0 = 0 by decide)
                  have bo653767' : gB o653767 1 2000 := ⟨by omega, by omega⟩
                  have ac653785 : (fI (F653771 q629663) 11).toInt = p653694.toInt := by rw [he653778]; rfl
                  have ac653786 : (fI (F653771 q629663) 14).toInt = p653697.toInt := by rw [he653778]; rfl
                  refine G_aload_n 2 dr_cX17_giveAll_180 rfl ?_
                  refine G_dup dr_cX17_giveAll_181 rfl ?_
                  refine Gp_get 12 hm653688 he653778 dr_cX17_giveAll_182 (gk_X17 D I) (Nat.le_of_ble_eq_true rfl) wr_7_86 rfl ?_
                  have bp653695 : gB p653695 (-2147483648) 2147483647 := (gB_any p653695)
                  refine G_iload 0 dr_cX17_giveAll_185 rfl ?_
                  refine G_iadd dr_cX17_giveAll_187 (G_nam fun z653787 hz653787 => ?_)
                  have bz653787 : gB z653787 (-2147483648) 2147483647 := gB_any z653787
                  refine Gp_put 12 hm653688 he653778 dr_cX17_giveAll_188 (gk_X17 D I) (Nat.le_of_ble_eq_true rfl) wr_7_86 rfl rfl rfl (Nat.le_of_ble_eq_true rfl) (fun F653788 e653789 n653790 => ?_)
                  have he653791 : F653788 q629663 = .inr (22, [.ref (γ 9 0), .ref (γ 9 1), .ref (γ 9 2), .ref (γ 9 3), .ref (γ 9 4), .ref (γ 9 5), .ref (γ 9 6), .ref (γ 9 7), .ref (γ 9 8), .int p653692, .int p653693, .int p653694, .int z653787, .int p653696, .int p653697, .ref (γ 9 15), .ref (γ 9 16), .ref (γ 9 17), .ref (γ 9 18), .ref (γ 9 19), .ref (γ 9 20), .ref (γ 9 21), .ref (γ 9 22), .int p653698, .int p653699, .int p653700, .int p653701, .int p653702, .ref q653690, .ref (γ 9 29), .int p653703, .ref (γ 9 31), .int p653704, .int p653705, .int p653706, .ref q653691]) := e653789
                  have mk653792 : mKp (F629662 q629663) (F653788 q629663) := mKp_tr mk653777 (by rw [he653778, he653791]; exact ⟨rfl, rfl⟩)
                  have kp653793 : F653788 (γ0 9 3) = F653674 (γ0 9 3) := (n653790 (γ0 9 3) (rn_ty (rSk_k hs653774 k0_3 (by decide) (by decide)) ht653681 (by decide))).trans kp653776
                  have kp653794 : F653788 (γ0 9 17) = F653771 (γ0 9 17) := n653790 (γ0 9 17) (rn_ty (rSk_k hs653774 k0_17 (by decide) (by decide)) ht653681 (by decide))
                  have hT653795 : RS D I P653673 F653788 γ el := RS_set hT653772 n653790 ht653681 (by decide) ⟨q653690, q653691, p653692, p653693, p653694, z653787, p653696, p653697, p653698, p653699, p653700, p653701, p653702, p653703, p653704, p653705, p653706, he653791, ⟨(hB653733.1), (hB653733.2.1), bp653694, bp653697, (hB653733.2.2.2.2.1), (hB653733.2.2.2.2.2.1), (hB653733.2.2.2.2.2.2.1), (hB653733.2.2.2.2.2.2.2.1), (hB653733.2.2.2.2.2.2.2.2)⟩, ht653707, ht653708, ht653709, ht653710, ht653711, ht653712, ht653713, ht653714, ht653715, ht653716, ht653717, ht653718, ht653719, ht653720, ht653721, ht653722, ht653723, ht653724, ht653725, ht653726, ht653727, ht653728, ht653729, ht653730, hB653734⟩
                  have hs653796 := rSk_put hs653774 hT653795 n653790 ht653681 (by decide) (by decide)
                  have ac653797 : (fI (F653788 q629663) 11).toInt = p653694.toInt := by rw [he653791]; rfl
                  have ac653798 : (fI (F653788 q629663) 14).toInt = p653697.toInt := by rw [he653791]; rfl
                  have gr653800 := rNI_gr ni653779 gr653780
                  have p3653801 : (fI (F653788 q629663) 11).toInt + (rcn (cB (F653788 (γ0 9 3))) 100 : Nat) ≤ 100 := by rw [(n653790 (γ0 9 3) (rn_ty (rSk_k hs653796 k0_3 (by decide) (by decide)) ht653681 (by decide)))]; have z := gr653800.1; omega
                  have p4653802 : rPl γ el F653788 q629664 (γ 6 f) (fun _ _ => rNx (rSd (cB (F653788 (γ0 9 3))))) := by rw [(n653790 (γ0 9 3) (rn_ty (rSk_k hs653796 k0_3 (by decide) (by decide)) ht653681 (by decide)))]; exact rPl_fr hT653772 ht653682 hf653683 gr653800.2 (fun b hb _ => n653790 b (rn_ty (show rKd γ b 1 from hb) ht653681 (by decide)))
                  refine G_aload_n 2 dr_cX17_giveAll_191 rfl ?_
                  refine G_aload_n 3 dr_cX17_giveAll_192 rfl ?_
                  have rg653803 := rM_ge hT653795 ht653682 hf653683
                  have rm653804 := rM_bd hB653678
                  have bd653805 := rBd_c hT653795 ht653682 hf653683 hB653678
                  have rc653806 := rc_at hT653795 ht653682 hf653683
                  refine Gw_callV (As := [.ref q629664]) (gV_ok D I) (cg_587837_SpillForgeModel_spill l hl0 D I γ el f B P653673 F653788 q629663 q629664 hT653795 ht653681 ht653682 hf653683 hB653678 hBk (by omega) (by omega) (by omega) (by rw [congrFun (rSk_9 hs653796) 3]; exact p3653801) (by rw [congrFun (rSk_9 hs653796) 3]; exact p4653802) (by omega)) dr_cX17_giveAll_193 ⟨wr_11_63, wr_1_14, wr_11_66, by decide, rfl, (Nat.le_of_ble_eq_true rfl), (Nat.le_of_ble_eq_true rfl)⟩ wr_11_65 wr_p_110 hm653688 he653791 rfl (rm_gc hph653685 pk653686) (rm_gs hph653685 pk653686) (Nat.le_of_ble_eq_true rfl) (fun r653810 w653811 dc653807 ds653808 hp653809 => ?_) (fun _ _ _ _ _ z => z.elim)
                  obtain ⟨P653817, F653818, γ, el, o653812, rfl, rfl, hk653819, ⟨hr653820, hr653821⟩, hB653822, bo653812, x653813, x653814, x653815, x653816⟩ := hp653809
                  have hT653823 := hk653819.1
                  have hs653824 := rSk_tr hs653796 hk653819 (by decide) (by decide) (by decide)
                  have ht653825 : rKd γ q629663 10 := rSk_k hk653819 ht653681 (by decide) (by decide)
                  have ht653826 : rKd γ q629664 9 := rSk_k hk653819 ht653682 (by decide) (by decide)
                  have hf653827 : γ 1 q629664 = f := rSk_1 hk653819 ht653682 (by decide) hf653683
                  clear rg653803 rm653804 bd653805 rc653806
                  have mk653828 : mKp (F629662 q629663) (F653818 q629663) := mKp_tr mk653792 x653816
                  have hph653829 : rPh γ0 el0 f ≤ rPh γ el f := rm_ph hph653685 hr653821
                  have pk653830 : rPh γ el f ≤ 387 * B + 6000 := rm_pk (rM_ge hT653823 ht653826 hf653827).1 (rM_bd hB653822)
                  change G _ _ _ _ _ _ _ (.int o653812 :: _) _ _ _
                  refine G_widen (cs' := ((rPh γ el f - rPh γ0 el0 f) / 18)) (sl' := (rPh γ el f - rPh γ0 el0 f)) (rm_wc hph653685 hr653820) (rm_ws hph653685 hr653821) ?_
                  have r653831 : 0 < γ 6 (γ 1 q629664) := by rw [hf653827]; omega
                  have hm653832 : q629663 ∈ P653817 := RS_m hT653823 ht653825 (by decide)
                  refine rk10_e (show rk_10 γ (F653818 q629663) from RS_o hT653823 ht653825) (fun q653834 q653835 p653836 p653837 p653838 p653839 p653840 p653841 p653842 p653843 p653844 p653845 p653846 p653847 p653848 p653849 p653850 he653833 hB653877 ht653851 ht653852 ht653853 ht653854 ht653855 ht653856 ht653857 ht653858 ht653859 ht653860 ht653861 ht653862 ht653863 ht653864 ht653865 ht653866 ht653867 ht653868 ht653869 ht653870 ht653871 ht653872 ht653873 ht653874 hB653878 => ?_)
                  have ac653879 : (fI (F653818 q629663) 11).toInt = p653838.toInt := by rw [he653833]; rfl
                  have bp653838 : gB p653838 0 100 := (hB653877.2.2.1)
                  have ac653880 : (fI (F653818 q629663) 14).toInt = p653841.toInt := by rw [he653833]; rfl
                  have bp653841 : gB p653841 0 2000 := (hB653877.2.2.2.1)
                  refine G_if_ne 201 dr_cX17_giveAll_196 (by decide +kernel) (fun hc653881 => ?_) (fun hc653881 => ?_)
                  · have r653882 : o653812.toInt ≠ 0 := gj_neq hc653881 (show Int32.toInt 0 = 0 by decide)
                    have bo653812' : gB o653812 1 1 := gB_t1 bo653812 r653882
                    have ni653883 := x653814.resolve_left (by omega)
                    clear x653814
                    obtain ⟨rni653883a, rni653883b, rni653883c, rni653883d, rni653883e, rni653883f⟩ := ni653883
                    obtain ⟨z653884, hz653884⟩ : ∃ z : Int32, z = g651978 + Int32.ofInt 1 := ⟨_, rfl⟩
                    have ez653884 : z653884.toInt = g651978.toInt + 1 := gI_inc hz653884 (by decide) bg651978' (by decide) (by decide)
                    have bz653884 : gB z653884 2 41 := ⟨by omega, by omega⟩
                    refine G_iinc (L' := [(3, .int z653884), (4, .int o653767), (0, .ref q629663), (1, .ref q629664), (2, .int p629665)]) z653884 1 dr_cX17_giveAll_201 rfl hz653884.symm (Nat.le_of_ble_eq_true rfl) rfl ?_
                    refine G_goto 28 dr_cX17_giveAll_204 (by decide +kernel) ?_
                    refine G_lv (L' := [(3, .int z653884), (0, .ref q629663), (1, .ref q629664), (2, .int p629665)]) [0, 2, 3, 4] rfl ?_
                    have ac653885 : (fI (F653818 q629663) 11).toInt = p653838.toInt := by rw [he653833]; rfl
                    have ac653886 : (fI (F653818 q629663) 14).toInt = p653841.toInt := by rw [he653833]; rfl
                    exact ih28_651990 P653817 F653818 γ el z653884 (gB_w bz653884 (by decide) (by decide)) hT653823 hs653824 hph653829 hB653822 (by omega) (by omega) (by omega) (by omega) rni653883f mk653828 (by omega)
                  · have r653887 : o653812.toInt = 0 := gj_eq hc653881 (show Int32.toInt 0 = 0 by decide)
                    have bo653812' : gB o653812 0 0 := gB_t0 r653887
                    refine G_iconst (-1) dr_cX17_giveAll_199 (by decide +kernel) ?_
                    exact G_iretA dr_cX17_giveAll_200 rfl (show ((rPh γ el f - rPh γ0 el0 f) / 18) ≤ (((387 * B + 6000) - rPh γ0 el0 f) / 18) by omega) (show (rPh γ el f - rPh γ0 el0 f) ≤ ((387 * B + 6000) - rPh γ0 el0 f) by omega) ⟨P653817, F653818, γ, el, (-1), rfl, rfl, hs653824, ⟨by omega, by omega⟩, hB653822, (gB_w (gBl (show Int32.toInt (-1) = (-1) by decide)) (by decide) (by decide)), (by have qa0 : Int32.toInt (-1) = (-1) := (by decide); omega), mk653828⟩
                · have r653888 : o653767.toInt = 0 := gj_eq hc653783 (show Int32.toInt 0 = 0 by decide)
                  have bo653767' : gB o653767 0 0 := ⟨by omega, by omega⟩
                  have cq653889 : rPl γ el F653771 q629664 (γ 6 f) (cqR (cB (F653771 (γ0 9 17))) 0 0) := cq_0 gr653780 (fun m hm => by have z := x653768 (by omega); rw [congrFun (rSk_9 hs653774) 3, congrFun (rSk_9 hs653774) 17] at z; exact z m hm)
                  refine G_iconst 0 dr_cX17_giveAll_87 (by decide +kernel) ?_
                  refine G_istore (L' := [(5, .int 0), (4, .int o653767), (3, .int g651978), (0, .ref q629663), (1, .ref q629664), (2, .int p629665)]) dr_cX17_giveAll_88 (Nat.le_of_ble_eq_true rfl) rfl ?_
                  have hlp90_654491 : ∀ (n90_654491 : Nat) (P654479 : List Nat) (F654480 : Nat → va_E) (γ el : Nat → Nat → Nat) (g654478 : Int32), gB g654478 0 1000000 → RS D I P654479 F654480 γ el → rSk f [101] ([1, 3, 5, 6, 8, 9, 101] ++ npk) D I P629661 F629662 γ0 el0 P654479 F654480 γ el → rPh γ0 el0 f ≤ rPh γ el f → rBd γ el f B → γ 6 f = γ0 6 f → ((γ 7 f : Nat) : Int) = (fI (F654480 q629663) 11).toInt → ((γ 16 f : Nat) : Int) + 2001 ≤ (B : Int) + (fI (F654480 q629663) 14).toInt → 100 ≤ (fI (F654480 q629663) 14).toInt → (F654480 (γ0 9 17) = F653771 (γ0 9 17)) → rPl γ el F654480 q629664 (γ 6 f) (cqR (cB (F653771 (γ0 9 17))) (g654478.toInt : Int).toNat 0) → mKp (F629662 q629663) (F654480 q629663) → ((1000001 : Int) - g654478.toInt).toNat < n90_654491 → G (gV D I) l (gRm 10 224 (((387 * B + 6000) - rPh γ0 el0 f) / 18) ((387 * B + 6000) - rPh γ0 el0 f)) (gMA (gV D I) (pg_629669_SpillForgeModel_giveAll D I γ0 el0 f B P629661 F629662 q629663 q629664 p629665) gNA (((387 * B + 6000) - rPh γ0 el0 f) / 18) ((387 * B + 6000) - rPh γ0 el0 f)) ky_629669_SpillForgeModel_giveAll 90 [(5, .int g654478), (4, .int o653767), (3, .int g651978), (0, .ref q629663), (1, .ref q629664), (2, .int p629665)] [] (va_pl P654479 F654480) ((rPh γ el f - rPh γ0 el0 f) / 18) (rPh γ el f - rPh γ0 el0 f) := by
                    intro n90_654491
                    induction n90_654491 with
                    | zero => intro P654479 F654480 γ el g654478 bg654478 hT654481 hs654482 hph654483 hB654484 x654485 x654486 x654487 x654488 x654489 x654490 x654491 hm90_654491; exact absurd hm90_654491 (Nat.not_lt_zero _)
                    | succ n90_654491 ih90_654491 =>
                      intro P654479 F654480 γ el g654478 bg654478 hT654481 hs654482 hph654483 hB654484 x654485 x654486 x654487 x654488 x654489 x654490 x654491 hm90_654491
                      clear hr653676 hr653677 hph653685 pk653686 r653687 r653740
                      have ht654493 : rKd γ q629663 10 := rSk_k hs654482 hzq629663 (by decide) (by decide)
                      have ht654494 : rKd γ q629664 9 := rSk_k hs654482 hzq629664 (by decide) (by decide)
                      have hf654495 : γ 1 q629664 = f := rSk_1 hs654482 hzq629664 (by decide) hf0
                      have pk654496 : rPh γ el f ≤ 387 * B + 6000 := rm_pk (rM_ge hT654481 ht654494 hf654495).1 (rM_bd hB654484)
                      have r654497 : 0 < γ 6 (γ 1 q629664) := by rw [hf654495]; omega
                      have hm654498 : q629663 ∈ P654479 := RS_m hT654481 ht654493 (by decide)
                      refine rk10_e (show rk_10 γ (F654480 q629663) from RS_o hT654481 ht654493) (fun q654500 q654501 p654502 p654503 p654504 p654505 p654506 p654507 p654508 p654509 p654510 p654511 p654512 p654513 p654514 p654515 p654516 he654499 hB654543 ht654517 ht654518 ht654519 ht654520 ht654521 ht654522 ht654523 ht654524 ht654525 ht654526 ht654527 ht654528 ht654529 ht654530 ht654531 ht654532 ht654533 ht654534 ht654535 ht654536 ht654537 ht654538 ht654539 ht654540 hB654544 => ?_)
                      have ac654545 : (fI (F654480 q629663) 11).toInt = p654504.toInt := by rw [he654499]; rfl
                      have bp654504 : gB p654504 0 100 := (hB654543.2.2.1)
                      have ac654546 : (fI (F654480 q629663) 14).toInt = p654507.toInt := by rw [he654499]; rfl
                      have bp654507 : gB p654507 0 2000 := (hB654543.2.2.2.1)
                      refine G_iload 0 dr_cX17_giveAll_90 rfl ?_
                      refine G_aload_n 4 dr_cX17_giveAll_92 rfl ?_
                      have hm654547 : q629664 ∈ P654479 := RS_m hT654481 ht654494 (by decide)
                      obtain ⟨q654549, q654550, p654551, p654552, he654548, ht654568, ht654553, ht654554, ht654555, ht654556, r654557, r654558, r654559, r654560, r654561, r654562, r654563, r654564, r654565, r654566, r654567⟩ := show rk_9 γ el q629664 (F654480 q629664) from RS_o hT654481 ht654494
                      have bp654551 : gB p654551 0 1000000 := ⟨by omega, by omega⟩
                      have bp654552 : gB p654552 0 1000000 := ⟨by omega, by omega⟩
                      have hf654569 : γ 1 q654549 = f := (show γ 1 q654549 = γ 1 q629664 from ht654554).trans hf654495
                      have hf654570 : γ 1 q654550 = f := (show γ 1 q654550 = γ 1 q629664 from ht654556).trans hf654495
                      have r654571 : γ 6 (γ 1 q629664) = γ 6 f := by rw [hf654495]
                      have r654572 : γ 16 (γ 1 q629664) = γ 16 f := by rw [hf654495]
                      have r654573 : p654552.toInt = γ 6 f ∧ p654552.toInt ≤ 40 := by omega
                      clear r654563
                      refine Gw_callV (As := []) (gV_ok D I) (cp_12780_Code_size l hl0 D I P654479 F654480 q629664 q654549 q654550 p654551 p654552 hm654547 he654548) dr_cX17_giveAll_93 ⟨wr_10_160, wr_1_15, wr_9_131, by decide, rfl, (Nat.le_of_ble_eq_true rfl), (Nat.le_of_ble_eq_true rfl)⟩ wr_9_129 wr_9_130 hm654547 he654548 rfl (rm_zc pk654496) (rm_zs pk654496) (Nat.le_of_ble_eq_true rfl) (fun r654577 w654578 dc654574 ds654575 hp654576 => ?_) (fun _ _ _ _ _ z => z.elim)
                      obtain ⟨rfl, rfl, hdc, hds⟩ := hp654576
                      change G _ _ _ _ _ _ _ (.int p654552 :: _) _ _ _
                      refine G_widen (cs' := ((rPh γ el f - rPh γ0 el0 f) / 18)) (sl' := (rPh γ el f - rPh γ0 el0 f)) (rm_d0 hdc) (rm_d0 hds) ?_
                      refine G_icmp_ge 173 dr_cX17_giveAll_96 (by decide +kernel) (fun hc654579 => ?_) (fun hc654579 => ?_)
                      · have r654580 : p654552.toInt ≤ g654478.toInt := gC_le hc654579
                        have r654581 : γ 7 (γ 1 q629664) = γ 7 f := by rw [hf654495]
                        have ac654582 : (fI (F654480 q629663) 11).toInt = p654504.toInt := by rw [he654499]; rfl
                        have ac654583 : (fI (F654480 q629663) 14).toInt = p654507.toInt := by rw [he654499]; rfl
                        refine G_aload_n 3 dr_cX17_giveAll_173 rfl ?_
                        refine G_aload_n 4 dr_cX17_giveAll_174 rfl ?_
                        refine Gw_callV (As := [.ref q629664]) (gV_ok D I) (ct_344314_SpillForgeModel_share l hl0 D I γ el P654479 F654480 q629663 q629664 hT654481 ht654493 ht654494 (by omega) (by omega)) dr_cX17_giveAll_175 ⟨wr_11_59, wr_1_14, wr_11_62, by decide, rfl, (Nat.le_of_ble_eq_true rfl), (Nat.le_of_ble_eq_true rfl)⟩ wr_11_61 wr_p_109 hm654498 he654499 rfl (rm_zc pk654496) (rm_zs pk654496) (Nat.le_of_ble_eq_true rfl) (fun r654587 w654588 dc654584 ds654585 hp654586 => ?_) (fun _ _ _ _ _ z => z.elim)
                        obtain ⟨F654590, rfl, rfl, hT654591, hs654592, hdc, hds, x654589⟩ := hp654586
                        have he654593 : F654590 q629664 = .inr (18, [.ref q654549, .ref q654550, .int p654551, .int p654552]) := (hs654592 q629664 (rT0 ht654494 (by decide)) (rT1 ht654494 (by decide)) (rT2 ht654494 (by decide))).trans he654548
                        have hs654594 := rSk_str hs654482 hT654591 hs654592 (by decide) (by decide) (by decide)
                        have mk654595 : mKp (F629662 q629663) (F654590 q629663) := mKp_tr x654491 x654589
                        change G _ _ _ _ _ _ _ _ _ _ _
                        refine G_widen (cs' := ((rPh γ el f - rPh γ0 el0 f) / 18)) (sl' := (rPh γ el f - rPh γ0 el0 f)) (rm_d0 hdc) (rm_d0 hds) ?_
                        refine G_iload_n 2 dr_cX17_giveAll_178 rfl ?_
                        exact G_iretA dr_cX17_giveAll_179 rfl (show ((rPh γ el f - rPh γ0 el0 f) / 18) ≤ (((387 * B + 6000) - rPh γ0 el0 f) / 18) by omega) (show (rPh γ el f - rPh γ0 el0 f) ≤ ((387 * B + 6000) - rPh γ0 el0 f) by omega) ⟨P654479, F654590, γ, el, g651978, rfl, rfl, hs654594, ⟨by omega, by omega⟩, hB654484, (gB_w bg651978' (by decide) (by decide)), (by omega), mk654595⟩
                      · have r654596 : g654478.toInt < p654552.toInt := gC_nle hc654579
                        have bg654478' : gB g654478 0 999999 := ⟨by omega, by omega⟩
                        have bp654552' : gB p654552 1 1000000 := ⟨by omega, by omega⟩
                        refine G_aload_n 4 dr_cX17_giveAll_99 rfl ?_
                        refine G_iload 0 dr_cX17_giveAll_100 rfl ?_
                        have hm654597 : q654549 ∈ P654479 := RS_m hT654481 ht654553 (by decide)
                        obtain ⟨⟨p654599, p654600, q654601, he654598, r654602, r654603, r654604, r654606⟩, r654605⟩ := show rk_4 D I γ el F654480 q654549 from RS_o hT654481 ht654553
                        have bp654599 := gB_any p654599
                        have bp654600 : gB p654600 0 1000000 := ⟨by omega, by omega⟩
                        obtain ⟨r654607, r654608, n654615, f654616, r654609, r654610, r654611, r654612, r654613, r654614⟩ := rLC_n r654604 (by omega)
                        have hm654617 : q654601 ∈ P654479 := RS_m hT654481 r654607 (by decide)
                        obtain ⟨q654618, hx654619⟩ : ∃ x, x = el q654549 g654478.toInt.toNat := ⟨_, rfl⟩
                        have hx654620 : f654616 g654478.toNatClampNeg = some q654618 := (r654613 _ (show g654478.toInt.toNat < γ 2 q654549 by first | assumption | omega)).trans (by rw [hx654619])
                        have ht654623 : rKd γ q654618 2 := by rw [hx654619]; exact (r654564 _ (by omega)).resolve_right (fun z => absurd z.1 (by omega))
                        have ht654624 : rFm γ q654618 q654549 := by rw [hx654619]; exact (r654605 _ (show g654478.toInt.toNat < γ 2 q654549 by omega)).2.1
                        have hm654625 : q654618 ∈ P654479 := RS_m hT654481 ht654623 (by decide)
                        obtain ⟨q654627, q654628, p654629, p654630, he654626, ht654637, ht654631, ht654632, ht654633, ht654634, ht654635, bp654629, bp654630, r654636, r654638, r654639⟩ := show rk_2 γ q654618 (F654480 q654618) from RS_o hT654481 ht654623
                        refine Gw_callV (As := [.int g654478]) (gV_ok D I) (cp_7901_Code_get l hl0 D I P654479 F654480 q629664 q654549 q654601 g654478 q654550 p654551 p654552 p654599 p654600 f654616 n654615 q654618 q654627 q654628 p654629 p654630 hm654547 hm654597 hm654617 hm654625 he654548 he654598 r654609 he654626 (gB_w bg654478' (by decide) (by decide)) (gB_w bp654600 (by decide) (by decide)) (by omega) (by omega) (by assumption) (by omega)) dr_cX17_giveAll_102 ⟨wr_10_161, wr_1_15, wr_10_141, by decide, rfl, (Nat.le_of_ble_eq_true rfl), (Nat.le_of_ble_eq_true rfl)⟩ wr_10_139 wr_10_140 hm654547 he654548 rfl (rm_zc pk654496) (rm_zs pk654496) (Nat.le_of_ble_eq_true rfl) (fun r654643 w654644 dc654640 ds654641 hp654642 => ?_) (fun _ _ _ _ _ z => z.elim)
                        obtain ⟨rfl, rfl, hdc, hds, ht654645⟩ := hp654642
                        change G _ _ _ _ _ _ _ (.ref q654618 :: _) _ _ _
                        refine G_widen (cs' := ((rPh γ el f - rPh γ0 el0 f) / 18)) (sl' := (rPh γ el f - rPh γ0 el0 f)) (rm_d0 hdc) (rm_d0 hds) ?_
                        have hf654646 : γ 1 q654618 = f := (show γ 1 q654618 = γ 1 q654549 from ht654624).trans ((show γ 1 q654549 = γ 1 q629664 from ht654554).trans hf654495)
                        have hf654647 : γ 1 q654627 = f := (show γ 1 q654627 = γ 1 q654618 from ht654632).trans hf654646
                        have hf654648 : γ 1 q654628 = f := (show γ 1 q654628 = γ 1 q654618 from ht654634).trans hf654646
                        have r654649 : γ 6 (γ 1 q654618) = γ 6 f := by rw [hf654646]
                        have r654650 : γ 7 (γ 1 q654618) = γ 7 f := by rw [hf654646]
                        have r654651 : γ 19 (γ 1 q654618) = γ 19 f := by rw [hf654646]
                        have r654652 := r654636.resolve_left (by omega)
                        clear r654636
                        have r654653 : γ 2 (γ 14 q654618) = γ 2 q654627 := by rw [ht654637.1]
                        have r654654 : g654478.toInt.toNat < γ 2 (γ 14 q629664) := by rw [ht654568.1]; omega
                        have r654655 : el (γ 14 q629664) g654478.toInt.toNat = q654618 := by rw [ht654568.1, hx654619]
                        refine G_astore (L' := [(6, .ref q654618), (5, .int g654478), (4, .int o653767), (3, .int g651978), (0, .ref q629663), (1, .ref q629664), (2, .int p629665)]) dr_cX17_giveAll_105 (Nat.le_of_ble_eq_true rfl) rfl ?_
                        refine G_iconst 0 dr_cX17_giveAll_107 (by decide +kernel) ?_
                        refine G_istore (L' := [(7, .int 0), (6, .ref q654618), (5, .int g654478), (4, .int o653767), (3, .int g651978), (0, .ref q629663), (1, .ref q629664), (2, .int p629665)]) dr_cX17_giveAll_108 (Nat.le_of_ble_eq_true rfl) rfl ?_
                        have hlp110_654879 : ∀ (n110_654879 : Nat) (P654861 : List Nat) (F654862 : Nat → va_E) (γ el : Nat → Nat → Nat) (g654860 : Int32), gB g654860 0 1000001 → RS D I P654861 F654862 γ el → rSk f [101] ([1, 3, 5, 6, 8, 9, 101] ++ npk) D I P629661 F629662 γ0 el0 P654861 F654862 γ el → rPh γ0 el0 f ≤ rPh γ el f → rBd γ el f B → rKd γ q654618 2 → γ 1 q654618 = f → g654478.toInt.toNat < γ 2 (γ 14 q629664) → el (γ 14 q629664) g654478.toInt.toNat = q654618 → γ 6 f = γ0 6 f → ((γ 7 f : Nat) : Int) = (fI (F654862 q629663) 11).toInt → ((γ 16 f : Nat) : Int) + 2001 ≤ (B : Int) + (fI (F654862 q629663) 14).toInt → 100 ≤ (fI (F654862 q629663) 14).toInt → (F654862 (γ0 9 17) = F653771 (γ0 9 17)) → rPl γ el F654862 q629664 (γ 6 f) (cqR (cB (F653771 (γ0 9 17))) (g654478.toInt : Int).toNat (g654860.toInt : Int).toNat) → (g654860.toInt : Int) ≤ γ 2 (γ 14 q654618) + 1 → (g654478.toInt : Int) < γ 6 f → mKp (F629662 q629663) (F654862 q629663) → ((1000002 : Int) - g654860.toInt).toNat < n110_654879 → G (gV D I) l (gRm 10 224 (((387 * B + 6000) - rPh γ0 el0 f) / 18) ((387 * B + 6000) - rPh γ0 el0 f)) (gMA (gV D I) (pg_629669_SpillForgeModel_giveAll D I γ0 el0 f B P629661 F629662 q629663 q629664 p629665) gNA (((387 * B + 6000) - rPh γ0 el0 f) / 18) ((387 * B + 6000) - rPh γ0 el0 f)) ky_629669_SpillForgeModel_giveAll 110 [(7, .int g654860), (6, .ref q654618), (5, .int g654478), (4, .int o653767), (3, .int g651978), (0, .ref q629663), (1, .ref q629664), (2, .int p629665)] [] (va_pl P654861 F654862) ((rPh γ el f - rPh γ0 el0 f) / 18) (rPh γ el f - rPh γ0 el0 f) := by
                          intro n110_654879
                          induction n110_654879 with
                          | zero => intro P654861 F654862 γ el g654860 bg654860 hT654863 hs654864 hph654865 hB654866 ht654867 hf654868 r654869 r654870 x654871 x654872 x654873 x654874 x654875 x654876 x654877 x654878 x654879 hm110_654879; exact absurd hm110_654879 (Nat.not_lt_zero _)
                          | succ n110_654879 ih110_654879 =>
                            intro P654861 F654862 γ el g654860 bg654860 hT654863 hs654864 hph654865 hB654866 ht654867 hf654868 r654869 r654870 x654871 x654872 x654873 x654874 x654875 x654876 x654877 x654878 x654879 hm110_654879
                            clear r654557 r654558 r654559 r654560 r654561 r654562 r654564 r654565 r654566 r654567 bp654551 bp654552 bp654629 bp654630 r654638 r654639 r654571 r654572 r654573 r654602 r654603 r654604 r654606 r654605 r654607 r654608 r654609 r654610 r654611 r654612 r654613 r654614 r654649 r654650 r654651 r654652 r654653 r654654 r654655
                            have ht654881 : rKd γ q629663 10 := rSk_k hs654864 hzq629663 (by decide) (by decide)
                            have ht654882 : rKd γ q629664 9 := rSk_k hs654864 hzq629664 (by decide) (by decide)
                            have hf654883 : γ 1 q629664 = f := rSk_1 hs654864 hzq629664 (by decide) hf0
                            have pk654884 : rPh γ el f ≤ 387 * B + 6000 := rm_pk (rM_ge hT654863 ht654882 hf654883).1 (rM_bd hB654866)
                            have r654885 : 0 < γ 6 (γ 1 q629664) := by rw [hf654883]; omega
                            have hm654886 : q629663 ∈ P654861 := RS_m hT654863 ht654881 (by decide)
                            refine rk10_e (show rk_10 γ (F654862 q629663) from RS_o hT654863 ht654881) (fun q654888 q654889 p654890 p654891 p654892 p654893 p654894 p654895 p654896 p654897 p654898 p654899 p654900 p654901 p654902 p654903 p654904 he654887 hB654931 ht654905 ht654906 ht654907 ht654908 ht654909 ht654910 ht654911 ht654912 ht654913 ht654914 ht654915 ht654916 ht654917 ht654918 ht654919 ht654920 ht654921 ht654922 ht654923 ht654924 ht654925 ht654926 ht654927 ht654928 hB654932 => ?_)
                            have ac654933 : (fI (F654862 q629663) 11).toInt = p654892.toInt := by rw [he654887]; rfl
                            have bp654892 : gB p654892 0 100 := (hB654931.2.2.1)
                            have ac654934 : (fI (F654862 q629663) 14).toInt = p654895.toInt := by rw [he654887]; rfl
                            have bp654895 : gB p654895 0 2000 := (hB654931.2.2.2.1)
                            refine G_iload 0 dr_cX17_giveAll_110 rfl ?_
                            refine G_aload 1 dr_cX17_giveAll_112 rfl ?_
                            have hm654935 : q654618 ∈ P654861 := RS_m hT654863 ht654867 (by decide)
                            obtain ⟨q654937, q654938, p654939, p654940, he654936, ht654947, ht654941, ht654942, ht654943, ht654944, ht654945, bp654939, bp654940, r654946, r654948, r654949⟩ := show rk_2 γ q654618 (F654862 q654618) from RS_o hT654863 ht654867
                            have hf654950 : γ 1 q654937 = f := (show γ 1 q654937 = γ 1 q654618 from ht654942).trans hf654868
                            have hf654951 : γ 1 q654938 = f := (show γ 1 q654938 = γ 1 q654618 from ht654944).trans hf654868
                            have r654952 : γ 6 (γ 1 q654618) = γ 6 f := by rw [hf654868]
                            have r654953 : γ 7 (γ 1 q654618) = γ 7 f := by rw [hf654868]
                            have r654954 : γ 19 (γ 1 q654618) = γ 19 f := by rw [hf654868]
                            have r654955 := r654946.resolve_left (by omega)
                            clear r654946
                            have r654956 : γ 2 (γ 14 q654618) = γ 2 q654937 := by rw [ht654947.1]
                            refine Gp_get 0 hm654935 he654936 dr_cX17_giveAll_114 (gk_X12 D I) (Nat.le_of_ble_eq_true rfl) wr_9_220 rfl ?_
                            have hm654957 : q654937 ∈ P654861 := RS_m hT654863 ht654941 (by decide)
                            obtain ⟨⟨p654959, p654960, q654961, he654958, r654962, r654963, r654964, r654966⟩, r654965⟩ := show rk_3 D I γ el F654862 q654937 from RS_o hT654863 ht654941
                            have bp654959 := gB_any p654959
                            have bp654960 : gB p654960 0 1000000 := ⟨by omega, by omega⟩
                            refine Gw_callV (As := []) (gV_ok D I) (cp_7_ArrayList_size l hl0 D I P654861 F654862 q654937 p654959 q654961 p654960 hm654957 he654958 (gB_w bp654960 (by decide) (by decide))) dr_cX17_giveAll_117 ⟨wr_10_200, wr_1_18, wr_9_160, by decide, rfl, (Nat.le_of_ble_eq_true rfl), (Nat.le_of_ble_eq_true rfl)⟩ wr_9_158 wr_9_159 hm654957 he654958 rfl (rm_zc pk654884) (rm_zs pk654884) (Nat.le_of_ble_eq_true rfl) (fun r654970 w654971 dc654967 ds654968 hp654969 => ?_) (fun _ _ _ _ _ z => z.elim)
                            obtain ⟨rfl, rfl, hdc, hds⟩ := hp654969
                            change G _ _ _ _ _ _ _ (.int p654960 :: _) _ _ _
                            refine G_widen (cs' := ((rPh γ el f - rPh γ0 el0 f) / 18)) (sl' := (rPh γ el f - rPh γ0 el0 f)) (rm_d0 hdc) (rm_d0 hds) ?_
                            refine G_icmp_gt 167 dr_cX17_giveAll_120 (by decide +kernel) (fun hc654972 => ?_) (fun hc654972 => ?_)
                            · have r654973 : p654960.toInt < g654860.toInt := gC_lt hc654972
                              have bg654860' : gB g654860 1 1000001 := ⟨by omega, by omega⟩
                              obtain ⟨z654974, hz654974⟩ : ∃ z : Int32, z = g654478 + Int32.ofInt 1 := ⟨_, rfl⟩
                              have ez654974 : z654974.toInt = g654478.toInt + 1 := gI_inc hz654974 (by decide) bg654478' (by decide) (by decide)
                              have bz654974 : gB z654974 1 1000000 := ⟨by omega, by omega⟩
                              refine G_iinc (L' := [(5, .int z654974), (7, .int g654860), (6, .ref q654618), (4, .int o653767), (3, .int g651978), (0, .ref q629663), (1, .ref q629664), (2, .int p629665)]) z654974 2 dr_cX17_giveAll_167 rfl hz654974.symm (Nat.le_of_ble_eq_true rfl) rfl ?_
                              refine G_goto 90 dr_cX17_giveAll_170 (by decide +kernel) ?_
                              refine G_lv (L' := [(5, .int z654974), (4, .int o653767), (3, .int g651978), (0, .ref q629663), (1, .ref q629664), (2, .int p629665)]) [0, 3, 4, 5, 6, 7] rfl ?_
                              have ac654975 : (fI (F654862 q629663) 11).toInt = p654892.toInt := by rw [he654887]; rfl
                              have ac654976 : (fI (F654862 q629663) 14).toInt = p654895.toInt := by rw [he654887]; rfl
                              exact ih90_654491 P654861 F654862 γ el z654974 (gB_w bz654974 (by decide) (by decide)) hT654863 hs654864 hph654865 hB654866 (by omega) (by omega) (by omega) (by omega) x654875 (cq_nx x654876 (by omega)) x654879 (by omega)
                            · have r654977 : g654860.toInt ≤ p654960.toInt := gC_nlt hc654972
                              have bg654860' : gB g654860 0 1000000 := ⟨by omega, by omega⟩
                              refine G_aload_n 5 dr_cX17_giveAll_123 rfl ?_
                              refine G_iload 0 dr_cX17_giveAll_124 rfl ?_
                              refine G_aload 1 dr_cX17_giveAll_126 rfl ?_
                              refine Gp_get 0 hm654935 he654936 dr_cX17_giveAll_128 (gk_X12 D I) (Nat.le_of_ble_eq_true rfl) wr_9_220 rfl ?_
                              refine Gw_callV (As := []) (gV_ok D I) (cp_7_ArrayList_size l hl0 D I P654861 F654862 q654937 p654959 q654961 p654960 hm654957 he654958 (gB_w bp654960 (by decide) (by decide))) dr_cX17_giveAll_131 ⟨wr_10_200, wr_1_18, wr_9_160, by decide, rfl, (Nat.le_of_ble_eq_true rfl), (Nat.le_of_ble_eq_true rfl)⟩ wr_9_158 wr_9_159 hm654957 he654958 rfl (rm_zc pk654884) (rm_zs pk654884) (Nat.le_of_ble_eq_true rfl) (fun r654981 w654982 dc654978 ds654979 hp654980 => ?_) (fun _ _ _ _ _ z => z.elim)
                              obtain ⟨rfl, rfl, hdc, hds⟩ := hp654980
                              change G _ _ _ _ _ _ _ (.int p654960 :: _) _ _ _
                              refine G_widen (cs' := ((rPh γ el f - rPh γ0 el0 f) / 18)) (sl' := (rPh γ el f - rPh γ0 el0 f)) (rm_d0 hdc) (rm_d0 hds) ?_
                              refine G_icmp_ge 153 dr_cX17_giveAll_134 (by decide +kernel) (fun hc654983 => ?_) (fun hc654983 => ?_)
                              · have r654984 : p654960.toInt ≤ g654860.toInt := gC_le hc654983
                                refine G_aload 1 dr_cX17_giveAll_153 rfl ?_
                                refine Gp_get 1 hm654935 he654936 dr_cX17_giveAll_155 (gk_X12 D I) (Nat.le_of_ble_eq_true rfl) wr_9_223 rfl ?_
                                have fl654987 : p654960.toInt = γ 2 q654937 := r654962
                                have hp654985 : rAt γ el q629664 (g654478.toInt : Int).toNat (g654860.toInt : Int).toNat = q654938 := (rAt_e r654870 ht654947.1 (by omega)).trans ht654947.2.1
                                have hL654986 : (g654860.toInt : Int).toNat ≤ γ 2 (rwL γ el q629664 (g654478.toInt : Int).toNat) := by unfold rwL; rw [r654870, ht654947.1]; omega
                                have cn654988 : rNm (fun n => 0 ≤ (cB (F654862 (γ 9 17)) n).toInt) (F654862 q654938) := by rw [congrFun (rSk_9 hs654864) 17, x654875]; exact cq_at x654876 hp654985 (show (g654478.toInt : Int).toNat < γ 6 f by omega) hL654986
                                refine Gw_callV (As := [.ref q654938]) (gV_ok D I) (ct_344066_SpillForgeModel_coloured l hl0 D I γ el P654861 F654862 q629663 q654938 hT654863 ht654881 ht654943 (by omega)) dr_cX17_giveAll_158 ⟨wr_11_55, wr_1_14, wr_11_58, by decide, rfl, (Nat.le_of_ble_eq_true rfl), (Nat.le_of_ble_eq_true rfl)⟩ wr_11_57 wr_p_108 hm654886 he654887 rfl (rm_zc pk654884) (rm_zs pk654884) (Nat.le_of_ble_eq_true rfl) (fun r654992 w654993 dc654989 ds654990 hp654991 => ?_) (fun _ _ _ _ _ z => z.elim)
                                obtain ⟨F654998, rfl, rfl, hT654999, hs655000, hdc, hds, x654994, x654995, x654996, x654997⟩ := hp654991
                                have he655001 : F654998 q654618 = .inr (17, [.ref q654937, .ref q654938, .int p654939, .int p654940]) := (hs655000 q654618 (rT0 ht654867 (by decide)) (rT1 ht654867 (by decide)) (rT2 ht654867 (by decide))).trans he654936
                                have he655002 : F654998 q654937 = .inr (4, [.int p654959, .ref q654961, .int p654960]) := (hs655000 q654937 (rT0 ht654941 (by decide)) (rT1 ht654941 (by decide)) (rT2 ht654941 (by decide))).trans he654958
                                have hs655003 := rSk_str hs654864 hT654999 hs655000 (by decide) (by decide) (by decide)
                                have kp655004 : F654998 q629663 = F654862 q629663 := x654995
                                have kp655005 : F654998 (γ0 9 3) = F654862 (γ0 9 3) := (show F654998 (γ0 9 3) = F654862 (γ0 9 3) by rw [← congrFun (rSk_9 hs655003) 3]; exact x654996)
                                have kp655006 : F654998 (γ0 9 17) = F653771 (γ0 9 17) := ((show F654998 (γ0 9 17) = F654862 (γ0 9 17) by rw [← congrFun (rSk_9 hs655003) 17]; exact x654997)).trans x654875
                                have mk655007 : mKp (F629662 q629663) (F654998 q629663) := mKp_tr x654879 (mKp_eq x654995)
                                have he655008 : F654998 q629663 = .inr (22, [.ref (γ 9 0), .ref (γ 9 1), .ref (γ 9 2), .ref (γ 9 3), .ref (γ 9 4), .ref (γ 9 5), .ref (γ 9 6), .ref (γ 9 7), .ref (γ 9 8), .int p654890, .int p654891, .int p654892, .int p654893, .int p654894, .int p654895, .ref (γ 9 15), .ref (γ 9 16), .ref (γ 9 17), .ref (γ 9 18), .ref (γ 9 19), .ref (γ 9 20), .ref (γ 9 21), .ref (γ 9 22), .int p654896, .int p654897, .int p654898, .int p654899, .int p654900, .ref q654888, .ref (γ 9 29), .int p654901, .ref (γ 9 31), .int p654902, .int p654903, .int p654904, .ref q654889]) := (x654995).trans he654887
                                change G _ _ _ _ _ _ _ _ _ _ _
                                refine G_widen (cs' := ((rPh γ el f - rPh γ0 el0 f) / 18)) (sl' := (rPh γ el f - rPh γ0 el0 f)) (rm_d0 hdc) (rm_d0 hds) ?_
                                have cq655009 := cq_put (j1 := (g654860.toInt : Int).toNat + 1) hT654863 ht654882 hf654883 x654876 x654994 hp654985 (show (g654478.toInt : Int).toNat < γ 6 f by omega) hL654986 rfl
                                have ac655010 : (fI (F654998 q629663) 11).toInt = (fI (F654862 q629663) 11).toInt := by rw [kp655004]
                                have ac655011 : (fI (F654998 q629663) 14).toInt = (fI (F654862 q629663) 14).toInt := by rw [kp655004]
                                obtain ⟨z655012, hz655012⟩ : ∃ z : Int32, z = g654860 + Int32.ofInt 1 := ⟨_, rfl⟩
                                have ez655012 : z655012.toInt = g654860.toInt + 1 := gI_inc hz655012 (by decide) bg654860' (by decide) (by decide)
                                have bz655012 : gB z655012 1 1000001 := ⟨by omega, by omega⟩
                                refine G_iinc (L' := [(7, .int z655012), (6, .ref q654618), (5, .int g654478), (4, .int o653767), (3, .int g651978), (0, .ref q629663), (1, .ref q629664), (2, .int p629665)]) z655012 0 dr_cX17_giveAll_161 rfl hz655012.symm (Nat.le_of_ble_eq_true rfl) rfl ?_
                                refine G_goto 110 dr_cX17_giveAll_164 (by decide +kernel) ?_
                                have ac655013 : (fI (F654998 q629663) 11).toInt = p654892.toInt := by rw [he655008]; rfl
                                have ac655014 : (fI (F654998 q629663) 14).toInt = p654895.toInt := by rw [he655008]; rfl
                                exact ih110_654879 P654861 F654998 γ el z655012 (gB_w bz655012 (by decide) (by decide)) hT654999 hs655003 hph654865 hB654866 ht654867 hf654868 r654869 r654870 (by omega) (by omega) (by omega) (by omega) kp655006 (by rw [show (z655012.toInt : Int).toNat = ((g654860.toInt : Int).toNat + 1) by omega]; exact cq655009) (by omega) (by omega) mk655007 (by omega)
                              · have r655015 : g654860.toInt < p654960.toInt := gC_nle hc654983
                                have bg654860'' : gB g654860 0 999999 := ⟨by omega, by omega⟩
                                have bp654960' : gB p654960 1 1000000 := ⟨by omega, by omega⟩
                                refine G_aload 1 dr_cX17_giveAll_137 rfl ?_
                                refine Gp_get 0 hm654935 he654936 dr_cX17_giveAll_139 (gk_X12 D I) (Nat.le_of_ble_eq_true rfl) wr_9_220 rfl ?_
                                refine G_iload 0 dr_cX17_giveAll_142 rfl ?_
                                obtain ⟨r655016, r655017, n655024, f655025, r655018, r655019, r655020, r655021, r655022, r655023⟩ := rLC_n r654964 (by omega)
                                have hm655026 : q654961 ∈ P654861 := RS_m hT654863 r655016 (by decide)
                                obtain ⟨q655027, hx655028⟩ : ∃ x, x = el q654937 g654860.toInt.toNat := ⟨_, rfl⟩
                                have hx655029 : f655025 g654860.toNatClampNeg = some q655027 := (r655022 _ (show g654860.toInt.toNat < γ 2 q654937 by first | assumption | omega)).trans (by rw [hx655028])
                                have ht655030 : rKd γ q655027 1 := by rw [hx655028]; exact (r654965 _ (show g654860.toInt.toNat < γ 2 q654937 by first | assumption | omega)).1
                                have ht655031 : rFm γ q655027 q654937 := by rw [hx655028]; exact (r654965 _ (show g654860.toInt.toNat < γ 2 q654937 by first | assumption | omega)).2.1
                                have hf655032 : γ 1 q655027 = f := (show γ 1 q655027 = γ 1 q654937 from ht655031).trans hf654950
                                refine Gw_callV (As := [.int g654860]) (gV_ok D I) (cp_22_ArrayList_get l hl0 D I P654861 F654862 q654937 q654961 g654860 p654959 p654960 f655025 n655024 q655027 hm654957 hm655026 he654958 r655018 (gB_w bg654860'' (by decide) (by decide)) (gB_w bp654960' (by decide) (by decide)) (by omega) (by omega) (by assumption) (by omega)) dr_cX17_giveAll_144 ⟨wr_10_201, wr_1_18, wr_10_65, by decide, rfl, (Nat.le_of_ble_eq_true rfl), (Nat.le_of_ble_eq_true rfl)⟩ wr_10_63 wr_10_64 hm654957 he654958 rfl (rm_zc pk654884) (rm_zs pk654884) (Nat.le_of_ble_eq_true rfl) (fun r655036 w655037 dc655033 ds655034 hp655035 => ?_) (fun _ _ _ _ _ z => z.elim)
                                obtain ⟨rfl, rfl, hdc, hds, ht655038⟩ := hp655035
                                change G _ _ _ _ _ _ _ (.ref q655027 :: _) _ _ _
                                refine G_widen (cs' := ((rPh γ el f - rPh γ0 el0 f) / 18)) (sl' := (rPh γ el f - rPh γ0 el0 f)) (rm_d0 hdc) (rm_d0 hds) ?_
                                have hm655039 : q655027 ∈ P654861 := RS_m hT654863 ht655030 (by decide)
                                obtain ⟨p655041, p655042, p655043, p655044, p655045, p655046, p655047, he655040, bp655041, bp655042, bp655045, bp655046, bp655047, r655048, r655049, r655050, r655051, r655052⟩ := show rk_1 γ q655027 (F654862 q655027) from RS_o hT654863 ht655030
                                have bp655043 := gB_any p655043
                                have bp655044 := gB_any p655044
                                have r655053 : γ 7 (γ 1 q655027) = γ 7 f := by rw [hf655032]
                                refine Gp_cast hm655039 he655040 rfl dr_cX17_giveAll_147 wr_10_202 (gr_cast 1 rfl) ?_
                                refine G_goto 158 dr_cX17_giveAll_150 (by decide +kernel) ?_
                                have fl655056 : p654960.toInt = γ 2 q654937 := r654962
                                have hp655054 : rAt γ el q629664 (g654478.toInt : Int).toNat (g654860.toInt : Int).toNat = q655027 := (rAt_r r654870 ht654947.1 (by omega)).trans (by rw [hx655028])
                                have hL655055 : (g654860.toInt : Int).toNat ≤ γ 2 (rwL γ el q629664 (g654478.toInt : Int).toNat) := by unfold rwL; rw [r654870, ht654947.1]; omega
                                have cn655057 : rNm (fun n => 0 ≤ (cB (F654862 (γ 9 17)) n).toInt) (F654862 q655027) := by rw [congrFun (rSk_9 hs654864) 17, x654875]; exact cq_at x654876 hp655054 (show (g654478.toInt : Int).toNat < γ 6 f by omega) hL655055
                                refine Gw_callV (As := [.ref q655027]) (gV_ok D I) (ct_344066_SpillForgeModel_coloured l hl0 D I γ el P654861 F654862 q629663 q655027 hT654863 ht654881 ht655030 (by omega)) dr_cX17_giveAll_158 ⟨wr_11_55, wr_1_14, wr_11_58, by decide, rfl, (Nat.le_of_ble_eq_true rfl), (Nat.le_of_ble_eq_true rfl)⟩ wr_11_57 wr_p_108 hm654886 he654887 rfl (rm_zc pk654884) (rm_zs pk654884) (Nat.le_of_ble_eq_true rfl) (fun r655061 w655062 dc655058 ds655059 hp655060 => ?_) (fun _ _ _ _ _ z => z.elim)
                                obtain ⟨F655067, rfl, rfl, hT655068, hs655069, hdc, hds, x655063, x655064, x655065, x655066⟩ := hp655060
                                have he655070 : F655067 q654618 = .inr (17, [.ref q654937, .ref q654938, .int p654939, .int p654940]) := (hs655069 q654618 (rT0 ht654867 (by decide)) (rT1 ht654867 (by decide)) (rT2 ht654867 (by decide))).trans he654936
                                have he655071 : F655067 q654937 = .inr (4, [.int p654959, .ref q654961, .int p654960]) := (hs655069 q654937 (rT0 ht654941 (by decide)) (rT1 ht654941 (by decide)) (rT2 ht654941 (by decide))).trans he654958
                                have he655072 : F655067 q654961 = .inl (I (.object "java/lang/Object"), n655024, .inr (.inr (.inr (.inr f655025)))) := (hs655069 q654961 (rT0 r655016 (by decide)) (rT1 r655016 (by decide)) (rT2 r655016 (by decide))).trans r655018
                                have hs655073 := rSk_str hs654864 hT655068 hs655069 (by decide) (by decide) (by decide)
                                have kp655074 : F655067 q629663 = F654862 q629663 := x655064
                                have kp655075 : F655067 (γ0 9 3) = F654862 (γ0 9 3) := (show F655067 (γ0 9 3) = F654862 (γ0 9 3) by rw [← congrFun (rSk_9 hs655073) 3]; exact x655065)
                                have kp655076 : F655067 (γ0 9 17) = F653771 (γ0 9 17) := ((show F655067 (γ0 9 17) = F654862 (γ0 9 17) by rw [← congrFun (rSk_9 hs655073) 17]; exact x655066)).trans x654875
                                have mk655077 : mKp (F629662 q629663) (F655067 q629663) := mKp_tr x654879 (mKp_eq x655064)
                                have he655078 : F655067 q629663 = .inr (22, [.ref (γ 9 0), .ref (γ 9 1), .ref (γ 9 2), .ref (γ 9 3), .ref (γ 9 4), .ref (γ 9 5), .ref (γ 9 6), .ref (γ 9 7), .ref (γ 9 8), .int p654890, .int p654891, .int p654892, .int p654893, .int p654894, .int p654895, .ref (γ 9 15), .ref (γ 9 16), .ref (γ 9 17), .ref (γ 9 18), .ref (γ 9 19), .ref (γ 9 20), .ref (γ 9 21), .ref (γ 9 22), .int p654896, .int p654897, .int p654898, .int p654899, .int p654900, .ref q654888, .ref (γ 9 29), .int p654901, .ref (γ 9 31), .int p654902, .int p654903, .int p654904, .ref q654889]) := (x655064).trans he654887
                                change G _ _ _ _ _ _ _ _ _ _ _
                                refine G_widen (cs' := ((rPh γ el f - rPh γ0 el0 f) / 18)) (sl' := (rPh γ el f - rPh γ0 el0 f)) (rm_d0 hdc) (rm_d0 hds) ?_
                                have cq655079 := cq_put (j1 := (g654860.toInt : Int).toNat + 1) hT654863 ht654882 hf654883 x654876 x655063 hp655054 (show (g654478.toInt : Int).toNat < γ 6 f by omega) hL655055 rfl
                                have ac655080 : (fI (F655067 q629663) 11).toInt = (fI (F654862 q629663) 11).toInt := by rw [kp655074]
                                have ac655081 : (fI (F655067 q629663) 14).toInt = (fI (F654862 q629663) 14).toInt := by rw [kp655074]
                                obtain ⟨z655082, hz655082⟩ : ∃ z : Int32, z = g654860 + Int32.ofInt 1 := ⟨_, rfl⟩
                                have ez655082 : z655082.toInt = g654860.toInt + 1 := gI_inc hz655082 (by decide) bg654860'' (by decide) (by decide)
                                have bz655082 : gB z655082 1 1000000 := ⟨by omega, by omega⟩
                                refine G_iinc (L' := [(7, .int z655082), (6, .ref q654618), (5, .int g654478), (4, .int o653767), (3, .int g651978), (0, .ref q629663), (1, .ref q629664), (2, .int p629665)]) z655082 0 dr_cX17_giveAll_161 rfl hz655082.symm (Nat.le_of_ble_eq_true rfl) rfl ?_
                                refine G_goto 110 dr_cX17_giveAll_164 (by decide +kernel) ?_
                                have ac655083 : (fI (F655067 q629663) 11).toInt = p654892.toInt := by rw [he655078]; rfl
                                have ac655084 : (fI (F655067 q629663) 14).toInt = p654895.toInt := by rw [he655078]; rfl
                                exact ih110_654879 P654861 F655067 γ el z655082 (gB_w bz655082 (by decide) (by decide)) hT655068 hs655073 hph654865 hB654866 ht654867 hf654868 r654869 r654870 (by omega) (by omega) (by omega) (by omega) kp655076 (by rw [show (z655082.toInt : Int).toNat = ((g654860.toInt : Int).toNat + 1) by omega]; exact cq655079) (by omega) (by omega) mk655077 (by omega)
                        have ac655085 : (fI (F654480 q629663) 11).toInt = p654504.toInt := by rw [he654499]; rfl
                        have ac655086 : (fI (F654480 q629663) 14).toInt = p654507.toInt := by rw [he654499]; rfl
                        exact hlp110_654879 (((1000002 : Int) - 0).toNat + 1) P654479 F654480 γ el 0 (gB_w (gBl (show Int32.toInt 0 = 0 by decide)) (by decide) (by decide)) hT654481 hs654482 hph654483 hB654484 ht654623 hf654646 r654654 r654655 (by have qa0 : Int32.toInt 0 = 0 := (by decide); omega) (by have qa0 : Int32.toInt 0 = 0 := (by decide); omega) (by have qa0 : Int32.toInt 0 = 0 := (by decide); omega) (by have qa0 : Int32.toInt 0 = 0 := (by decide); omega) x654489 (by have qa : Int32.toInt 0 = 0 := (by decide); rw [qa]; exact x654490) (by have qa0 : Int32.toInt 0 = 0 := (by decide); omega) (by have qa0 : Int32.toInt 0 = 0 := (by decide); omega) x654491 (Nat.lt_succ_self _)
                  have ac655087 : (fI (F653771 q629663) 11).toInt = p653694.toInt := by rw [he653778]; rfl
                  have ac655088 : (fI (F653771 q629663) 14).toInt = p653697.toInt := by rw [he653778]; rfl
                  exact hlp90_654491 (((1000001 : Int) - 0).toNat + 1) P653673 F653771 γ el 0 (gB_w (gBl (show Int32.toInt 0 = 0 by decide)) (by decide) (by decide)) hT653772 hs653774 hph653685 hB653678 (by have qa0 : Int32.toInt 0 = 0 := (by decide); omega) (by have qa0 : Int32.toInt 0 = 0 := (by decide); omega) (by have qa0 : Int32.toInt 0 = 0 := (by decide); omega) (by have qa0 : Int32.toInt 0 = 0 := (by decide); omega) rfl (by have qa : Int32.toInt 0 = 0 := (by decide); rw [qa]; exact cq653889) mk653777 (Nat.lt_succ_self _)
              · have r655089 : o653662.toInt ≠ 0 := gj_neq hc653738 (show Int32.toInt 0 = 0 by decide)
                have bo653662' : gB o653662 1 1 := gB_t1 bo653662 r655089
                refine G_aload_n 1 dr_cX17_giveAll_61 rfl ?_
                refine G_aload_n 2 dr_cX17_giveAll_62 rfl ?_
                refine G_iconst 0 dr_cX17_giveAll_63 (by decide +kernel) ?_
                refine Gw_callV (As := [.ref q629664, .int 0]) (gV_ok D I) (ct_276998_SpillForgeModel_graph l hl0 D I γ el P653673 F653674 q629663 q629664 0 hT653679 ht653681 ht653682 (gB_w (gBl (show Int32.toInt 0 = 0 by decide)) (by decide) (by decide)) (by omega)) dr_cX17_giveAll_64 ⟨wr_10_233, wr_1_14, wr_10_236, by decide, rfl, (Nat.le_of_ble_eq_true rfl), (Nat.le_of_ble_eq_true rfl)⟩ wr_10_235 wr_p_99 hm653688 he653689 rfl (rm_zc pk653686) (rm_zs pk653686) (Nat.le_of_ble_eq_true rfl) (fun r655093 w655094 dc655090 ds655091 hp655092 => ?_) (fun _ _ _ _ _ z => z.elim)
                obtain ⟨F655098, rfl, rfl, hT655099, hs655100, hdc, hds, x655095, x655096, ht655097⟩ := hp655092
                have hs655101 := rSk_str hs653680 hT655099 hs655100 (by decide) (by decide) (by decide)
                have kp655102 : F655098 q629663 = F653674 q629663 := x655096
                have mk655103 : mKp (F629662 q629663) (F655098 q629663) := mKp_tr mk653684 (mKp_eq x655096)
                have he655104 : F655098 q629663 = .inr (22, [.ref (γ 9 0), .ref (γ 9 1), .ref (γ 9 2), .ref (γ 9 3), .ref (γ 9 4), .ref (γ 9 5), .ref (γ 9 6), .ref (γ 9 7), .ref (γ 9 8), .int p653692, .int p653693, .int p653694, .int p653695, .int p653696, .int p653697, .ref (γ 9 15), .ref (γ 9 16), .ref (γ 9 17), .ref (γ 9 18), .ref (γ 9 19), .ref (γ 9 20), .ref (γ 9 21), .ref (γ 9 22), .int p653698, .int p653699, .int p653700, .int p653701, .int p653702, .ref q653690, .ref (γ 9 29), .int p653703, .ref (γ 9 31), .int p653704, .int p653705, .int p653706, .ref q653691]) := (x655096).trans he653689
                rw [show Int32.toInt 0 = 0 from by decide] at x655095
                change G _ _ _ _ _ _ _ _ _ _ _
                refine G_widen (cs' := ((rPh γ el f - rPh γ0 el0 f) / 18)) (sl' := (rPh γ el f - rPh γ0 el0 f)) (rm_d0 hdc) (rm_d0 hds) ?_
                have ni655105 : rNI γ el F655098 q629664 (γ 6 f) (fI (F655098 q629663) 11).toInt := rNI_s (rNI_str hT653679 ht653682 hf653683 hs655100 (by decide) ni653737) (by rw [x655096])
                have gr655106 : rGr γ el F655098 q629664 (γ 6 f) (cB (F655098 (γ0 9 3))) (vA (γ 6 f)) := by have z := x655095 (by decide); rw [hf653683] at z; rw [← congrFun (rSk_9 hs655101) 3]; exact gq_str hT653679 ht653682 hf653683 hs655100 (by decide) z
                have ac655107 : (fI (F655098 q629663) 11).toInt = (fI (F653674 q629663) 11).toInt := by rw [kp655102]
                have ac655108 : (fI (F655098 q629663) 14).toInt = (fI (F653674 q629663) 14).toInt := by rw [kp655102]
                refine G_goto 52 dr_cX17_giveAll_67 (by decide +kernel) ?_
                have ac655109 : (fI (F655098 q629663) 11).toInt = p653694.toInt := by rw [he655104]; rfl
                have ac655110 : (fI (F655098 q629663) 14).toInt = p653697.toInt := by rw [he655104]; rfl
                exact ih52_653597 P653673 F655098 γ el hT655099 hs655101 hph653685 hB653678 (by omega) (by omega) (by omega) (by omega) ni655105 gr655106 mk655103 (by have z := x653667.resolve_left (by omega); omega)
          have ac655111 : (fI (F652093 q629663) 11).toInt = p652003.toInt := by rw [he652100]; rfl
          have ac655112 : (fI (F652093 q629663) 14).toInt = p652006.toInt := by rw [he652100]; rfl
          exact hlp52_653597 (rsum (fun i => γ 2 (γ 14 (el (γ 14 q629664) i))) (γ 6 f) + 1) P651979 F652093 γ el hT652094 hs652097 hph651983 hB651984 (by omega) (by omega) (by omega) (by omega) ni652101 gr652102 mk652099 (Nat.lt_succ_self _)
        · have r655113 : 4000 < o652081.toInt := gj_nle hc652083 (show Int32.toInt 4000 = 4000 by decide)
          have bo652081' : gB o652081 4001 2147483647 := ⟨by omega, by omega⟩
          refine G_iconst (-1) dr_cX17_giveAll_44 (by decide +kernel) ?_
          exact G_iretA dr_cX17_giveAll_45 rfl (show ((rPh γ el f - rPh γ0 el0 f) / 18) ≤ (((387 * B + 6000) - rPh γ0 el0 f) / 18) by omega) (show (rPh γ el f - rPh γ0 el0 f) ≤ ((387 * B + 6000) - rPh γ0 el0 f) by omega) ⟨P651979, F651980, γ, el, (-1), rfl, rfl, hs651982, ⟨by omega, by omega⟩, hB651984, (gB_w (gBl (show Int32.toInt (-1) = (-1) by decide)) (by decide) (by decide)), (by have qa0 : Int32.toInt (-1) = (-1) := (by decide); omega), x651990⟩
  have ac655114 : (fI (F629774 q629663) 11).toInt = p629796.toInt := by rw [he629791]; rfl
  have ac655115 : (fI (F629774 q629663) 14).toInt = p629799.toInt := by rw [he629791]; rfl
  exact hlp28_651990 (((42 : Int) - 1).toNat + 1) P629773 F629774 γ el 1 (gB_w (gBl (show Int32.toInt 1 = 1 by decide)) (by decide) (by decide)) hT629779 hs629780 hph629785 hB629778 (by have qa0 : Int32.toInt 1 = 1 := (by decide); omega) (by have qa0 : Int32.toInt 1 = 1 := (by decide); omega) (by have qa0 : Int32.toInt 1 = 1 := (by decide); omega) (by have qa0 : Int32.toInt 1 = 1 := (by decide); omega) ni629839 mk629784 (Nat.lt_succ_self _)
