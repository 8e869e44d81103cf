theorem dr_cX17_findLive_0 : decode cX17_findLive 0 = .ok (.iconst 0, 1) := by decide +kernel
theorem dr_cX17_findLive_1 : decode cX17_findLive 1 = .ok (.istore_n 3, 1) := by decide +kernel
theorem dr_cX17_findLive_2 : decode cX17_findLive 2 = .ok (.iload_n 3, 1) := by decide +kernel
theorem dr_cX17_findLive_3 : decode cX17_findLive 3 = .ok (.aload_n 1, 1) := by decide +kernel
theorem dr_cX17_findLive_4 : decode cX17_findLive 4 = .ok (.invokevirtual 96, 3) := by decide +kernel
theorem dr_cX17_findLive_7 : decode cX17_findLive 7 = .ok (.if_icmp .ge 35, 3) := by decide +kernel
theorem dr_cX17_findLive_42 : decode cX17_findLive 42 = .ok (.iconst 1, 1) := by decide +kernel
theorem dr_cX17_findLive_43 : decode cX17_findLive 43 = .ok (.istore_n 3, 1) := by decide +kernel
theorem dr_cX17_findLive_44 : decode cX17_findLive 44 = .ok (.iload_n 3, 1) := by decide +kernel
theorem dr_cX17_findLive_45 : decode cX17_findLive 45 = .ok (.ifCond .eq 156, 3) := by decide +kernel
theorem dr_cX17_findLive_201 : decode cX17_findLive 201 = .ok (.return_, 1) := by decide +kernel
theorem dr_cX17_findLive_48 : decode cX17_findLive 48 = .ok (.iconst 0, 1) := by decide +kernel
theorem dr_cX17_findLive_49 : decode cX17_findLive 49 = .ok (.istore_n 3, 1) := by decide +kernel
theorem dr_cX17_findLive_50 : decode cX17_findLive 50 = .ok (.aload_n 1, 1) := by decide +kernel
theorem dr_cX17_findLive_51 : decode cX17_findLive 51 = .ok (.invokevirtual 96, 3) := by decide +kernel
theorem dr_cX17_findLive_54 : decode cX17_findLive 54 = .ok (.iconst 1, 1) := by decide +kernel
theorem dr_cX17_findLive_55 : decode cX17_findLive 55 = .ok (.isub, 1) := by decide +kernel
theorem dr_cX17_findLive_56 : decode cX17_findLive 56 = .ok (.istore 4, 2) := by decide +kernel
theorem dr_cX17_findLive_58 : decode cX17_findLive 58 = .ok (.iload 4, 2) := by decide +kernel
theorem dr_cX17_findLive_60 : decode cX17_findLive 60 = .ok (.ifCond .lt 138, 3) := by decide +kernel
theorem dr_cX17_findLive_198 : decode cX17_findLive 198 = .ok (.goto (-154), 3) := by decide +kernel
theorem dr_cX17_findLive_63 : decode cX17_findLive 63 = .ok (.aload_n 1, 1) := by decide +kernel
theorem dr_cX17_findLive_64 : decode cX17_findLive 64 = .ok (.iload 4, 2) := by decide +kernel
theorem dr_cX17_findLive_66 : decode cX17_findLive 66 = .ok (.invokevirtual 101, 3) := by decide +kernel
theorem dr_cX17_findLive_69 : decode cX17_findLive 69 = .ok (.astore 5, 2) := by decide +kernel
theorem dr_cX17_findLive_71 : decode cX17_findLive 71 = .ok (.aload_n 0, 1) := by decide +kernel
theorem dr_cX17_findLive_72 : decode cX17_findLive 72 = .ok (.aload 5, 2) := by decide +kernel
theorem dr_cX17_findLive_74 : decode cX17_findLive 74 = .ok (.invokevirtual 105, 3) := by decide +kernel
theorem wr_10_162 : (Jvm.Cond.methodLink "SpillForgeModel" (105 : Nat) ({ cls := "SpillForgeModel", name := "behind", desc := "(LSpillForgeModel$Block;)V" } : Jvm.MethodName)) ∈ gw := gw_10 162 rfl rfl
theorem wr_10_165 : (Jvm.Cond.code ({ cls := "SpillForgeModel", name := "behind", desc := "(LSpillForgeModel$Block;)V" } : Jvm.MethodName) prog_14_method_8_code (4 : Nat) (Option.none : Option Jvm.ClassFile.FieldType)) ∈ gw := gw_10 165 rfl rfl
theorem wr_10_164 : (Jvm.Cond.instanceMethod ({ cls := "SpillForgeModel", name := "behind", desc := "(LSpillForgeModel$Block;)V" } : Jvm.MethodName)) ∈ gw := gw_10 164 rfl rfl
theorem wr_p_95 : Cond.selects "SpillForgeModel" ⟨"SpillForgeModel", "behind", "(LSpillForgeModel$Block;)V"⟩ ⟨"SpillForgeModel", "behind", "(LSpillForgeModel$Block;)V"⟩ ∈ gw := gw_p _ 95 rfl rfl rfl
theorem dr_cX17_findLive_77 : decode cX17_findLive 77 = .ok (.aload_n 0, 1) := by decide +kernel
theorem dr_cX17_findLive_78 : decode cX17_findLive 78 = .ok (.aload 5, 2) := by decide +kernel
theorem dr_cX17_findLive_80 : decode cX17_findLive 80 = .ok (.getfield 109, 3) := by decide +kernel
theorem dr_cX17_findLive_83 : decode cX17_findLive 83 = .ok (.iload_n 2, 1) := by decide +kernel
theorem dr_cX17_findLive_84 : decode cX17_findLive 84 = .ok (.invokevirtual 113, 3) := by decide +kernel
theorem wr_10_174 : (Jvm.Cond.methodLink "SpillForgeModel" (113 : Nat) ({ cls := "SpillForgeModel", name := "back", desc := "(LSpillForgeModel$Row;Z)V" } : Jvm.MethodName)) ∈ gw := gw_10 174 rfl rfl
theorem wr_10_177 : (Jvm.Cond.code ({ cls := "SpillForgeModel", name := "back", desc := "(LSpillForgeModel$Row;Z)V" } : Jvm.MethodName) prog_14_method_7_code (4 : Nat) (Option.none : Option Jvm.ClassFile.FieldType)) ∈ gw := gw_10 177 rfl rfl
theorem wr_10_176 : (Jvm.Cond.instanceMethod ({ cls := "SpillForgeModel", name := "back", desc := "(LSpillForgeModel$Row;Z)V" } : Jvm.MethodName)) ∈ gw := gw_10 176 rfl rfl
theorem wr_p_96 : Cond.selects "SpillForgeModel" ⟨"SpillForgeModel", "back", "(LSpillForgeModel$Row;Z)V"⟩ ⟨"SpillForgeModel", "back", "(LSpillForgeModel$Row;Z)V"⟩ ∈ gw := gw_p _ 96 rfl rfl rfl
theorem dr_cX17_findLive_87 : decode cX17_findLive 87 = .ok (.aload 5, 2) := by decide +kernel
theorem dr_cX17_findLive_89 : decode cX17_findLive 89 = .ok (.getfield 117, 3) := by decide +kernel
theorem dr_cX17_findLive_92 : decode cX17_findLive 92 = .ok (.invokevirtual 121, 3) := by decide +kernel
theorem dr_cX17_findLive_95 : decode cX17_findLive 95 = .ok (.iconst 1, 1) := by decide +kernel
theorem dr_cX17_findLive_96 : decode cX17_findLive 96 = .ok (.isub, 1) := by decide +kernel
theorem dr_cX17_findLive_97 : decode cX17_findLive 97 = .ok (.istore 6, 2) := by decide +kernel
theorem dr_cX17_findLive_99 : decode cX17_findLive 99 = .ok (.iload 6, 2) := by decide +kernel
theorem dr_cX17_findLive_101 : decode cX17_findLive 101 = .ok (.ifCond .lt 27, 3) := by decide +kernel
theorem dr_cX17_findLive_128 : decode cX17_findLive 128 = .ok (.iconst 0, 1) := by decide +kernel
theorem dr_cX17_findLive_129 : decode cX17_findLive 129 = .ok (.istore 6, 2) := by decide +kernel
theorem dr_cX17_findLive_131 : decode cX17_findLive 131 = .ok (.iload 6, 2) := by decide +kernel
theorem dr_cX17_findLive_133 : decode cX17_findLive 133 = .ok (.bipush 32, 2) := by decide +kernel
theorem dr_cX17_findLive_135 : decode cX17_findLive 135 = .ok (.if_icmp .ge 57, 3) := by decide +kernel
theorem dr_cX17_findLive_192 : decode cX17_findLive 192 = .ok (.iinc 4 (-1), 3) := by decide +kernel
theorem dr_cX17_findLive_195 : decode cX17_findLive 195 = .ok (.goto (-137), 3) := by decide +kernel
theorem dr_cX17_findLive_138 : decode cX17_findLive 138 = .ok (.iload_n 3, 1) := by decide +kernel
theorem dr_cX17_findLive_139 : decode cX17_findLive 139 = .ok (.ifCond .ne 24, 3) := by decide +kernel
theorem dr_cX17_findLive_163 : decode cX17_findLive 163 = .ok (.iconst 1, 1) := by decide +kernel
theorem dr_cX17_findLive_164 : decode cX17_findLive 164 = .ok (.goto 4, 3) := by decide +kernel
theorem dr_cX17_findLive_168 : decode cX17_findLive 168 = .ok (.istore_n 3, 1) := by decide +kernel
theorem dr_cX17_findLive_169 : decode cX17_findLive 169 = .ok (.aload_n 0, 1) := by decide +kernel
theorem dr_cX17_findLive_170 : decode cX17_findLive 170 = .ok (.getfield 88, 3) := by decide +kernel
theorem dr_cX17_findLive_173 : decode cX17_findLive 173 = .ok (.iload 4, 2) := by decide +kernel
theorem dr_cX17_findLive_175 : decode cX17_findLive 175 = .ok (.aaload, 1) := by decide +kernel
theorem dr_cX17_findLive_176 : decode cX17_findLive 176 = .ok (.iload 6, 2) := by decide +kernel
theorem dr_cX17_findLive_178 : decode cX17_findLive 178 = .ok (.aload_n 0, 1) := by decide +kernel
theorem dr_cX17_findLive_179 : decode cX17_findLive 179 = .ok (.getfield 59, 3) := by decide +kernel
theorem dr_cX17_findLive_182 : decode cX17_findLive 182 = .ok (.iload 6, 2) := by decide +kernel
theorem dr_cX17_findLive_184 : decode cX17_findLive 184 = .ok (.laload, 1) := by decide +kernel
theorem dr_cX17_findLive_185 : decode cX17_findLive 185 = .ok (.lastore, 1) := by decide +kernel
theorem dr_cX17_findLive_186 : decode cX17_findLive 186 = .ok (.iinc 6 1, 3) := by decide +kernel
theorem dr_cX17_findLive_189 : decode cX17_findLive 189 = .ok (.goto (-58), 3) := by decide +kernel
theorem dr_cX17_findLive_142 : decode cX17_findLive 142 = .ok (.aload_n 0, 1) := by decide +kernel
theorem dr_cX17_findLive_143 : decode cX17_findLive 143 = .ok (.getfield 88, 3) := by decide +kernel
theorem dr_cX17_findLive_146 : decode cX17_findLive 146 = .ok (.iload 4, 2) := by decide +kernel
theorem dr_cX17_findLive_148 : decode cX17_findLive 148 = .ok (.aaload, 1) := by decide +kernel
theorem dr_cX17_findLive_149 : decode cX17_findLive 149 = .ok (.iload 6, 2) := by decide +kernel
theorem dr_cX17_findLive_151 : decode cX17_findLive 151 = .ok (.laload, 1) := by decide +kernel
theorem dr_cX17_findLive_152 : decode cX17_findLive 152 = .ok (.aload_n 0, 1) := by decide +kernel
theorem dr_cX17_findLive_153 : decode cX17_findLive 153 = .ok (.getfield 59, 3) := by decide +kernel
theorem dr_cX17_findLive_156 : decode cX17_findLive 156 = .ok (.iload 6, 2) := by decide +kernel
theorem dr_cX17_findLive_158 : decode cX17_findLive 158 = .ok (.laload, 1) := by decide +kernel
theorem dr_cX17_findLive_159 : decode cX17_findLive 159 = .ok (.lcmp, 1) := by decide +kernel
theorem dr_cX17_findLive_160 : decode cX17_findLive 160 = .ok (.ifCond .eq 7, 3) := by decide +kernel
theorem dr_cX17_findLive_167 : decode cX17_findLive 167 = .ok (.iconst 0, 1) := by decide +kernel
theorem dr_cX17_findLive_104 : decode cX17_findLive 104 = .ok (.aload_n 0, 1) := by decide +kernel
theorem dr_cX17_findLive_105 : decode cX17_findLive 105 = .ok (.aload 5, 2) := by decide +kernel
theorem dr_cX17_findLive_107 : decode cX17_findLive 107 = .ok (.getfield 117, 3) := by decide +kernel
theorem dr_cX17_findLive_110 : decode cX17_findLive 110 = .ok (.iload 6, 2) := by decide +kernel
theorem dr_cX17_findLive_112 : decode cX17_findLive 112 = .ok (.invokevirtual 124, 3) := by decide +kernel
theorem dr_cX17_findLive_115 : decode cX17_findLive 115 = .ok (.checkcast 40, 3) := by decide +kernel
theorem dr_cX17_findLive_118 : decode cX17_findLive 118 = .ok (.iload_n 2, 1) := by decide +kernel
theorem dr_cX17_findLive_119 : decode cX17_findLive 119 = .ok (.invokevirtual 113, 3) := by decide +kernel
theorem dr_cX17_findLive_122 : decode cX17_findLive 122 = .ok (.iinc 6 (-1), 3) := by decide +kernel
theorem dr_cX17_findLive_125 : decode cX17_findLive 125 = .ok (.goto (-26), 3) := by decide +kernel
theorem dr_cX17_findLive_10 : decode cX17_findLive 10 = .ok (.iconst 0, 1) := by decide +kernel
theorem dr_cX17_findLive_11 : decode cX17_findLive 11 = .ok (.istore 4, 2) := by decide +kernel
theorem dr_cX17_findLive_13 : decode cX17_findLive 13 = .ok (.iload 4, 2) := by decide +kernel
theorem dr_cX17_findLive_15 : decode cX17_findLive 15 = .ok (.bipush 32, 2) := by decide +kernel
theorem dr_cX17_findLive_17 : decode cX17_findLive 17 = .ok (.if_icmp .ge 19, 3) := by decide +kernel
theorem dr_cX17_findLive_36 : decode cX17_findLive 36 = .ok (.iinc 3 1, 3) := by decide +kernel
theorem dr_cX17_findLive_39 : decode cX17_findLive 39 = .ok (.goto (-37), 3) := by decide +kernel
theorem dr_cX17_findLive_20 : decode cX17_findLive 20 = .ok (.aload_n 0, 1) := by decide +kernel
theorem dr_cX17_findLive_21 : decode cX17_findLive 21 = .ok (.getfield 88, 3) := by decide +kernel
theorem dr_cX17_findLive_24 : decode cX17_findLive 24 = .ok (.iload_n 3, 1) := by decide +kernel
theorem dr_cX17_findLive_25 : decode cX17_findLive 25 = .ok (.aaload, 1) := by decide +kernel
theorem dr_cX17_findLive_26 : decode cX17_findLive 26 = .ok (.iload 4, 2) := by decide +kernel
theorem dr_cX17_findLive_28 : decode cX17_findLive 28 = .ok (.lconst 0, 1) := by decide +kernel
theorem dr_cX17_findLive_29 : decode cX17_findLive 29 = .ok (.lastore, 1) := by decide +kernel
theorem dr_cX17_findLive_30 : decode cX17_findLive 30 = .ok (.iinc 4 1, 3) := by decide +kernel
theorem dr_cX17_findLive_33 : decode cX17_findLive 33 = .ok (.goto (-20), 3) := by decide +kernel
abbrev ky_215192_Block_ways : gKey := (cX12_ways, 1, "SpillForgeModel$Block", (some FieldType.int), [], "ways", fun _ _ => True)
def pp_215192_Block_ways (D : va_G) (I : FieldType → ClassId) (P215178 : List Nat) (F215179 : Nat → va_E) (q215180 : Nat) (q215181 : Nat) (qo215182 : Nat) (p215183 : Int32) (p215184 : Int32) (p215185 : Int32) (p215186 : Int32) (p215187 : Int32) (p215188 : Int32) (p215189 : Int32) (p215190 : Int32) (p215191 : Int32) : Option Value → va_W → Nat → Nat → Prop := fun r w dc ds => ∃ (o215202 : Int32), r = some (.int o215202) ∧ w = va_pl P215178 F215179 ∧ dc ≤ 0 ∧ ds ≤ 0 ∧ gB o215202 0 2 ∧ ((o215202.toInt = 0 ∧ p215185.toInt = 32) ∨ (o215202.toInt = 1 ∧ p215185.toInt ≠ 32 ∧ (p215185.toInt = 30 ∨ p215183.toInt = p215184.toInt)) ∨ (o215202.toInt = 2 ∧ p215185.toInt ≠ 32 ∧ p215185.toInt ≠ 30 ∧ p215183.toInt ≠ p215184.toInt))
set_option maxRecDepth 100000 in
set_option maxHeartbeats 4000000 in
theorem cp_215192_Block_ways (l : Launch) (hl0 : l.stackTraces = false) (D : va_G) (I : FieldType → ClassId) (P215178 : List Nat) (F215179 : Nat → va_E) (q215180 : Nat) (q215181 : Nat) (qo215182 : Nat) (p215183 : Int32) (p215184 : Int32) (p215185 : Int32) (p215186 : Int32) (p215187 : Int32) (p215188 : Int32) (p215189 : Int32) (p215190 : Int32) (p215191 : Int32) (hmq215180 : q215180 ∈ P215178) (hmq215181 : q215181 ∈ P215178) (heq215180 : F215179 q215180 = .inr (17, [.ref qo215182, .ref q215181, .int p215183, .int p215184])) (heq215181 : F215179 q215181 = .inr (20, [.int p215185, .int p215186, .int p215187, .int p215188, .int p215189, .int p215190, .int p215191])) (bp215183 : gB p215183 0 39) (bp215184 : gB p215184 0 39) (bp215185 : gB p215185 0 32) (bp215186 : gB p215186 0 1999) (bp215189 : gB p215189 0 1999) (bp215190 : gB p215190 0 1) (bp215191 : gB p215191 0 1) : CtA (gV D I) l yX12_ways cX12_ways 1 (some FieldType.int) 0 0 0 0 [.ref q215180] (va_pl P215178 F215179) (pp_215192_Block_ways D I P215178 F215179 q215180 q215181 qo215182 p215183 p215184 p215185 p215186 p215187 p215188 p215189 p215190 p215191) gNA := by
  refine CtA_of hl0 (by decide) (Nat.le_of_ble_eq_true rfl) ?_
  have bp215187 := gB_any p215187
  have bp215188 := gB_any p215188
  refine G_aload_n 0 dr_cX12_ways_0 rfl ?_
  refine Gp_get 1 hmq215180 heq215180 dr_cX12_ways_1 (gk_X12 D I) (Nat.le_of_ble_eq_true rfl) wr_9_222 rfl ?_
  refine Gp_get 0 hmq215181 heq215181 dr_cX12_ways_4 (gk_X15 D I) (Nat.le_of_ble_eq_true rfl) wr_9_176 rfl ?_
  refine G_bipush 32 dr_cX12_ways_7 (by decide +kernel) ?_
  refine G_icmp_ne 16 dr_cX12_ways_9 (by decide +kernel) (fun hc215193 => ?_) (fun hc215193 => ?_)
  · have r215194 : p215185.toInt ≠ 32 := gj_neq hc215193 (show Int32.toInt 32 = 32 by decide)
    have bp215185' : gB p215185 0 31 := ⟨by omega, by omega⟩
    refine G_aload_n 0 dr_cX12_ways_16 rfl ?_
    refine Gp_get 1 hmq215180 heq215180 dr_cX12_ways_17 (gk_X12 D I) (Nat.le_of_ble_eq_true rfl) wr_9_222 rfl ?_
    refine Gp_get 0 hmq215181 heq215181 dr_cX12_ways_20 (gk_X15 D I) (Nat.le_of_ble_eq_true rfl) wr_9_176 rfl ?_
    refine G_bipush 30 dr_cX12_ways_23 (by decide +kernel) ?_
    refine G_icmp_eq 39 dr_cX12_ways_25 (by decide +kernel) (fun hc215195 => ?_) (fun hc215195 => ?_)
    · have r215196 : p215185.toInt = 30 := gj_eq hc215195 (show Int32.toInt 30 = 30 by decide)
      have bp215185'' : gB p215185 30 30 := ⟨by omega, by omega⟩
      refine G_iconst 1 dr_cX12_ways_39 (by decide +kernel) ?_
      refine G_goto 44 dr_cX12_ways_40 (by decide +kernel) ?_
      exact G_iretA dr_cX12_ways_44 rfl (Nat.le_of_ble_eq_true rfl) (Nat.le_of_ble_eq_true rfl) ⟨1, rfl, rfl, (Nat.le_of_ble_eq_true rfl), (Nat.le_of_ble_eq_true rfl), (gB_w (gBl (show Int32.toInt 1 = 1 by decide)) (by decide) (by decide)), (by have qa0 : Int32.toInt 1 = 1 := (by decide); omega)⟩
    · have r215197 : p215185.toInt ≠ 30 := gj_neq hc215195 (show Int32.toInt 30 = 30 by decide)
      refine G_aload_n 0 dr_cX12_ways_28 rfl ?_
      refine Gp_get 2 hmq215180 heq215180 dr_cX12_ways_29 (gk_X12 D I) (Nat.le_of_ble_eq_true rfl) wr_9_226 rfl ?_
      refine G_aload_n 0 dr_cX12_ways_32 rfl ?_
      refine Gp_get 3 hmq215180 heq215180 dr_cX12_ways_33 (gk_X12 D I) (Nat.le_of_ble_eq_true rfl) wr_9_230 rfl ?_
      refine G_icmp_ne 43 dr_cX12_ways_36 (by decide +kernel) (fun hc215198 => ?_) (fun hc215198 => ?_)
      · have r215199 : p215183.toInt ≠ p215184.toInt := gC_ne hc215198
        refine G_iconst 2 dr_cX12_ways_43 (by decide +kernel) ?_
        exact G_iretA dr_cX12_ways_44 rfl (Nat.le_of_ble_eq_true rfl) (Nat.le_of_ble_eq_true rfl) ⟨2, rfl, rfl, (Nat.le_of_ble_eq_true rfl), (Nat.le_of_ble_eq_true rfl), (gB_w (gBl (show Int32.toInt 2 = 2 by decide)) (by decide) (by decide)), (by have qa0 : Int32.toInt 2 = 2 := (by decide); omega)⟩
      · have r215200 : p215183.toInt = p215184.toInt := gC_eq hc215198
        refine G_iconst 1 dr_cX12_ways_39 (by decide +kernel) ?_
        refine G_goto 44 dr_cX12_ways_40 (by decide +kernel) ?_
        exact G_iretA dr_cX12_ways_44 rfl (Nat.le_of_ble_eq_true rfl) (Nat.le_of_ble_eq_true rfl) ⟨1, rfl, rfl, (Nat.le_of_ble_eq_true rfl), (Nat.le_of_ble_eq_true rfl), (gB_w (gBl (show Int32.toInt 1 = 1 by decide)) (by decide) (by decide)), (by have qa0 : Int32.toInt 1 = 1 := (by decide); omega)⟩
  · have r215201 : p215185.toInt = 32 := gj_eq hc215193 (show Int32.toInt 32 = 32 by decide)
    have bp215185' : gB p215185 32 32 := ⟨by omega, by omega⟩
    refine G_iconst 0 dr_cX12_ways_12 (by decide +kernel) ?_
    refine G_goto 44 dr_cX12_ways_13 (by decide +kernel) ?_
    exact G_iretA dr_cX12_ways_44 rfl (Nat.le_of_ble_eq_true rfl) (Nat.le_of_ble_eq_true rfl) ⟨0, rfl, rfl, (Nat.le_of_ble_eq_true rfl), (Nat.le_of_ble_eq_true rfl), (gB_w (gBl (show Int32.toInt 0 = 0 by decide)) (by decide) (by decide)), (by have qa0 : Int32.toInt 0 = 0 := (by decide); omega)⟩
abbrev ky_215326_Block_way : gKey := (cX12_way, 2, "SpillForgeModel$Block", (some FieldType.int), [], "way", fun _ _ => True)
def pp_215326_Block_way (D : va_G) (I : FieldType → ClassId) (P215311 : List Nat) (F215312 : Nat → va_E) (q215313 : Nat) (q215314 : Nat) (p215315 : Int32) (qo215316 : Nat) (p215317 : Int32) (p215318 : Int32) (p215319 : Int32) (p215320 : Int32) (p215321 : Int32) (p215322 : Int32) (p215323 : Int32) (p215324 : Int32) (p215325 : Int32) : Option Value → va_W → Nat → Nat → Prop := fun r w dc ds => ∃ (o215330 : Int32), r = some (.int o215330) ∧ w = va_pl P215311 F215312 ∧ dc ≤ 0 ∧ ds ≤ 0 ∧ gB o215330 0 39 ∧ ((p215315.toInt = 0 ∧ o215330.toInt = p215317.toInt) ∨ (p215315.toInt ≠ 0 ∧ o215330.toInt = p215318.toInt))
set_option maxRecDepth 100000 in
set_option maxHeartbeats 4000000 in
theorem cp_215326_Block_way (l : Launch) (hl0 : l.stackTraces = false) (D : va_G) (I : FieldType → ClassId) (P215311 : List Nat) (F215312 : Nat → va_E) (q215313 : Nat) (q215314 : Nat) (p215315 : Int32) (qo215316 : Nat) (p215317 : Int32) (p215318 : Int32) (p215319 : Int32) (p215320 : Int32) (p215321 : Int32) (p215322 : Int32) (p215323 : Int32) (p215324 : Int32) (p215325 : Int32) (hmq215313 : q215313 ∈ P215311) (hmq215314 : q215314 ∈ P215311) (heq215313 : F215312 q215313 = .inr (17, [.ref qo215316, .ref q215314, .int p215317, .int p215318])) (heq215314 : F215312 q215314 = .inr (20, [.int p215319, .int p215320, .int p215321, .int p215322, .int p215323, .int p215324, .int p215325])) (bp215317 : gB p215317 0 39) (bp215318 : gB p215318 0 39) (bp215319 : gB p215319 0 32) (bp215320 : gB p215320 0 1999) (bp215323 : gB p215323 0 1999) (bp215324 : gB p215324 0 1) (bp215325 : gB p215325 0 1) : CtA (gV D I) l yX12_way cX12_way 2 (some FieldType.int) 0 0 0 0 [.ref q215313, .int p215315] (va_pl P215311 F215312) (pp_215326_Block_way D I P215311 F215312 q215313 q215314 p215315 qo215316 p215317 p215318 p215319 p215320 p215321 p215322 p215323 p215324 p215325) gNA := by
  refine CtA_of hl0 (by decide) (Nat.le_of_ble_eq_true rfl) ?_
  have bp215315 := gB_any p215315
  have bp215321 := gB_any p215321
  have bp215322 := gB_any p215322
  refine G_iload_n 1 dr_cX12_way_0 rfl ?_
  refine G_if_ne 11 dr_cX12_way_1 (by decide +kernel) (fun hc215327 => ?_) (fun hc215327 => ?_)
  · have r215328 : p215315.toInt ≠ 0 := gj_neq hc215327 (show Int32.toInt 0 = 0 by decide)
    refine G_aload_n 0 dr_cX12_way_11 rfl ?_
    refine Gp_get 3 hmq215313 heq215313 dr_cX12_way_12 (gk_X12 D I) (Nat.le_of_ble_eq_true rfl) wr_9_230 rfl ?_
    exact G_iretA dr_cX12_way_15 rfl (Nat.le_of_ble_eq_true rfl) (Nat.le_of_ble_eq_true rfl) ⟨p215318, rfl, rfl, (Nat.le_of_ble_eq_true rfl), (Nat.le_of_ble_eq_true rfl), bp215318, (by omega)⟩
  · have r215329 : p215315.toInt = 0 := gj_eq hc215327 (show Int32.toInt 0 = 0 by decide)
    have bp215315' : gB p215315 0 0 := ⟨by omega, by omega⟩
    refine G_aload_n 0 dr_cX12_way_4 rfl ?_
    refine Gp_get 2 hmq215313 heq215313 dr_cX12_way_5 (gk_X12 D I) (Nat.le_of_ble_eq_true rfl) wr_9_226 rfl ?_
    refine G_goto 15 dr_cX12_way_8 (by decide +kernel) ?_
    exact G_iretA dr_cX12_way_15 rfl (Nat.le_of_ble_eq_true rfl) (Nat.le_of_ble_eq_true rfl) ⟨p215317, rfl, rfl, (Nat.le_of_ble_eq_true rfl), (Nat.le_of_ble_eq_true rfl), bp215317, (by omega)⟩
abbrev ky_214935_SpillForgeModel_behind : gKey := (cX17_behind, 4, "SpillForgeModel", none, [], "behind", fun _ _ => True)
def pt_214935_SpillForgeModel_behind (D : va_G) (I : FieldType → ClassId) (γ el : Nat → Nat → Nat) (P214931 : List Nat) (F214932 : Nat → va_E) (q214933 : Nat) (q214934 : Nat) : Option Value → va_W → Nat → Nat → Prop := fun r w dc ds => ∃ (F217942 : Nat → va_E), r = none ∧ w = va_pl P214931 F217942 ∧ RS D I P214931 F217942 γ el ∧ rStr γ [] F214932 F217942 ∧ dc ≤ 0 ∧ ds ≤ 0 ∧ (∀ k : Nat, k < 2048 → rbt (cL (F217942 (γ 9 2))) k = bhV (fI (F214932 (γ 15 q214934)) 0).toInt (fI (F214932 q214934) 2).toInt (fI (F214932 q214934) 3).toInt (lvS γ F214932) k) ∧ rLv γ F214932 F217942 ∧ (F217942 q214933 = F214932 q214933)
set_option maxRecDepth 100000 in
set_option maxHeartbeats 4000000 in
theorem ct_214935_SpillForgeModel_behind (l : Launch) (hl0 : l.stackTraces = false) (D : va_G) (I : FieldType → ClassId) (γ el : Nat → Nat → Nat) (P214931 : List Nat) (F214932 : Nat → va_E) (q214933 : Nat) (q214934 : Nat) (hT : RS D I P214931 F214932 γ el) (htq214933 : rKd γ q214933 10) (htq214934 : rKd γ q214934 2) : CtA (gV D I) l yX17_behind cX17_behind 4 none 1 21 0 0 [.ref q214933, .ref q214934] (va_pl P214931 F214932) (pt_214935_SpillForgeModel_behind D I γ el P214931 F214932 q214933 q214934) gNA := by
  refine CtA_of hl0 (by decide) (Nat.le_of_ble_eq_true rfl) ?_
  have hm214936 : q214933 ∈ P214931 := RS_m hT htq214933 (by decide)
  obtain ⟨q214938, q214939, p214940, p214941, p214942, p214943, p214944, p214945, p214946, p214947, p214948, p214949, p214950, p214951, p214952, p214953, p214954, he214937, hB214981, ht214955, ht214956, ht214957, ht214958, ht214959, ht214960, ht214961, ht214962, ht214963, ht214964, ht214965, ht214966, ht214967, ht214968, ht214969, ht214970, ht214971, ht214972, ht214973, ht214974, ht214975, ht214976, ht214977, ht214978, hB214982⟩ := show rk_10 γ (F214932 q214933) from RS_o hT htq214933
  have hm214983 : (γ 9 2) ∈ P214931 := RS_m hT ht214959 (by decide)
  obtain ⟨f214985, he214984, wf214985⟩ := show rk_35 I (F214932 (γ 9 2)) from RS_o hT ht214959
  have hm214986 : q214934 ∈ P214931 := RS_m hT htq214934 (by decide)
  obtain ⟨q214988, q214989, p214990, p214991, he214987, ht214998, ht214992, ht214993, ht214994, ht214995, ht214996, bp214990, bp214991, r214997, r214999, r215000⟩ := show rk_2 γ q214934 (F214932 q214934) from RS_o hT htq214934
  have hm215001 : q214989 ∈ P214931 := RS_m hT ht214994 (by decide)
  obtain ⟨p215003, p215004, p215005, p215006, p215007, p215008, p215009, he215002, bp215003, bp215004, bp215007, bp215008, bp215009, r215010, r215011, r215012, r215013⟩ := show rk_1 γ q214989 (F214932 q214989) from RS_o hT ht214994
  have bp215005 := gB_any p215005
  have bp215006 := gB_any p215006
  have fe1 : (fI (F214932 q214934) 2).toInt = p214990.toInt := by rw [he214987]; rfl
  have fe2 : (fI (F214932 q214934) 3).toInt = p214991.toInt := by rw [he214987]; rfl
  have fe3 : (fI (F214932 (γ 15 q214934)) 0).toInt = p215003.toInt := by rw [ht214998.2.1, he215002]; rfl
  refine G_iconst 0 dr_cX17_behind_0 (by decide +kernel) ?_
  refine G_istore_n (L' := [(2, .int 0), (0, .ref q214933), (1, .ref q214934)]) dr_cX17_behind_1 (Nat.le_of_ble_eq_true rfl) rfl ?_
  have hlp2_217333 : ∀ (n2_217333 : Nat) (F217328 : Nat → va_E) (g217327 : Int32), gB g217327 0 32 → RS D I P214931 F217328 γ el → rStr γ [] F214932 F217328 → (∀ j : Nat, (j : Int) < g217327.toInt → cL (F217328 (γ 9 2)) j = 0) → rLv γ F214932 F217328 → (F217328 q214933 = F214932 q214933) → ((33 : Int) - g217327.toInt).toNat < n2_217333 → G (gV D I) l (gRm 1 21 0 0) (gMA (gV D I) (pt_214935_SpillForgeModel_behind D I γ el P214931 F214932 q214933 q214934) gNA 0 0) ky_214935_SpillForgeModel_behind 2 [(2, .int g217327), (0, .ref q214933), (1, .ref q214934)] [] (va_pl P214931 F217328) 0 0 := by
    intro n2_217333
    induction n2_217333 with
    | zero => intro F217328 g217327 bg217327 hT217329 hs217330 x217331 x217332 x217333 hm2_217333; exact absurd hm2_217333 (Nat.not_lt_zero _)
    | succ n2_217333 ih2_217333 =>
      intro F217328 g217327 bg217327 hT217329 hs217330 x217331 x217332 x217333 hm2_217333
      have hs217335 : rStr γ [] F214932 F217328 := fun b h0 hb hw => (hs217330 b h0 hb hw).trans ((rStr_rf (γ := γ) (W := []) (F := F214932)) b h0 hb hw).symm
      have he217336 : F217328 q214934 = .inr (17, [.ref q214988, .ref q214989, .int p214990, .int p214991]) := (hs217335 q214934 (rT0 htq214934 (by decide)) (rT1 htq214934 (by decide)) (rT2 htq214934 (by decide))).trans he214987
      have he217337 : F217328 q214989 = .inr (20, [.int p215003, .int p215004, .int p215005, .int p215006, .int p215007, .int p215008, .int p215009]) := (hs217335 q214989 (rT0 ht214994 (by decide)) (rT1 ht214994 (by decide)) (rT2 ht214994 (by decide))).trans he215002
      have hs217338 : rStr γ [] F214932 F217328 := rStr_tr (rStr_rf (γ := γ) (W := []) (F := F214932)) hs217335
      refine G_iload_n 0 dr_cX17_behind_2 rfl ?_
      refine G_bipush 32 dr_cX17_behind_3 (by decide +kernel) ?_
      refine G_icmp_ge 21 dr_cX17_behind_5 (by decide +kernel) (fun hc217339 => ?_) (fun hc217339 => ?_)
      · have r217340 : 32 ≤ g217327.toInt := gj_leL hc217339 (show Int32.toInt 32 = 32 by decide)
        have bg217327' : gB g217327 32 32 := ⟨by omega, by omega⟩
        refine G_iconst 0 dr_cX17_behind_21 (by decide +kernel) ?_
        refine G_istore_n (L' := [(2, .int 0), (0, .ref q214933), (1, .ref q214934)]) dr_cX17_behind_22 (Nat.le_of_ble_eq_true rfl) rfl ?_
        have hlp23_217614 : ∀ (n23_217614 : Nat) (F217608 : Nat → va_E) (g217607 : Int32), gB g217607 0 2 → RS D I P214931 F217608 γ el → rStr γ [] F214932 F217608 → (∀ k : Nat, k < 2048 → rbt (cL (F217608 (γ 9 2))) k = wyV g217607.toInt (fI (F214932 q214934) 2).toInt (fI (F214932 q214934) 3).toInt (lvS γ F214932) k) → rLv γ F214932 F217608 → (g217607.toInt = 0 ∨ ((fI (F214932 (γ 15 q214934)) 0).toInt ≠ 32 ∧ (g217607.toInt = 1 ∨ (g217607.toInt = 2 ∧ (fI (F214932 (γ 15 q214934)) 0).toInt ≠ 30 ∧ (fI (F214932 q214934) 2).toInt ≠ (fI (F214932 q214934) 3).toInt)))) → (F217608 q214933 = F214932 q214933) → ((3 : Int) - g217607.toInt).toNat < n23_217614 → G (gV D I) l (gRm 1 21 0 0) (gMA (gV D I) (pt_214935_SpillForgeModel_behind D I γ el P214931 F214932 q214933 q214934) gNA 0 0) ky_214935_SpillForgeModel_behind 23 [(2, .int g217607), (0, .ref q214933), (1, .ref q214934)] [] (va_pl P214931 F217608) 0 0 := by
          intro n23_217614
          induction n23_217614 with
          | zero => intro F217608 g217607 bg217607 hT217609 hs217610 x217611 x217612 x217613 x217614 hm23_217614; exact absurd hm23_217614 (Nat.not_lt_zero _)
          | succ n23_217614 ih23_217614 =>
            intro F217608 g217607 bg217607 hT217609 hs217610 x217611 x217612 x217613 x217614 hm23_217614
            have hs217616 : rStr γ [] F217328 F217608 := fun b h0 hb hw => (hs217610 b h0 hb hw).trans (hs217330 b h0 hb hw).symm
            have he217617 : F217608 q214934 = .inr (17, [.ref q214988, .ref q214989, .int p214990, .int p214991]) := (hs217616 q214934 (rT0 htq214934 (by decide)) (rT1 htq214934 (by decide)) (rT2 htq214934 (by decide))).trans he217336
            have he217618 : F217608 q214989 = .inr (20, [.int p215003, .int p215004, .int p215005, .int p215006, .int p215007, .int p215008, .int p215009]) := (hs217616 q214989 (rT0 ht214994 (by decide)) (rT1 ht214994 (by decide)) (rT2 ht214994 (by decide))).trans he217337
            have hs217619 : rStr γ [] F214932 F217608 := rStr_tr hs217330 hs217616
            refine G_iload_n 0 dr_cX17_behind_23 rfl ?_
            refine G_aload_n 2 dr_cX17_behind_24 rfl ?_
            refine Gw_callV (As := []) (gV_ok D I) (cp_215192_Block_ways l hl0 D I P214931 F217608 q214934 q214989 q214988 p214990 p214991 p215003 p215004 p215005 p215006 p215007 p215008 p215009 hm214986 hm215001 he217617 he217618 bp214990 bp214991 bp215003 bp215004 bp215007 bp215008 bp215009) dr_cX17_behind_25 ⟨wr_10_166, wr_1_38, wr_10_169, by decide, rfl, (Nat.le_of_ble_eq_true rfl), (Nat.le_of_ble_eq_true rfl)⟩ wr_10_167 wr_10_168 hm214986 he217617 rfl (show 0 + 0 ≤ 0 by first | omega | decide) (show 0 + 0 ≤ 0 by first | omega | decide) (Nat.le_of_ble_eq_true rfl) (fun r217623 w217624 dc217620 ds217621 hp217622 => ?_) (fun _ _ _ _ _ z => z.elim)
            obtain ⟨o217625, rfl, rfl, hdc, hds, bo217625, x217626⟩ := hp217622
            change G _ _ _ _ _ _ _ (.int o217625 :: _) _ _ _
            refine G_widen (cs' := 0) (sl' := 0) (by omega) (by omega) ?_
            refine G_icmp_ge 72 dr_cX17_behind_28 (by decide +kernel) (fun hc217627 => ?_) (fun hc217627 => ?_)
            · have r217628 : o217625.toInt ≤ g217607.toInt := gC_le hc217627
              have hm217629 : q214933 ∈ P214931 := RS_m hT217609 htq214933 (by decide)
              obtain ⟨q217631, q217632, p217633, p217634, p217635, p217636, p217637, p217638, p217639, p217640, p217641, p217642, p217643, p217644, p217645, p217646, p217647, he217630, hB217674, ht217648, ht217649, ht217650, ht217651, ht217652, ht217653, ht217654, ht217655, ht217656, ht217657, ht217658, ht217659, ht217660, ht217661, ht217662, ht217663, ht217664, ht217665, ht217666, ht217667, ht217668, ht217669, ht217670, ht217671, hB217675⟩ := show rk_10 γ (F217608 q214933) from RS_o hT217609 htq214933
              exact G_vretA dr_cX17_behind_72 rfl (Nat.le_of_ble_eq_true rfl) (Nat.le_of_ble_eq_true rfl) ⟨F217608, rfl, rfl, hT217609, hs217610, (Nat.le_of_ble_eq_true rfl), (Nat.le_of_ble_eq_true rfl), (fun k hk => (x217611 k hk).trans (bh_of (by omega))), x217612, x217614⟩
            · have r217676 : g217607.toInt < o217625.toInt := gC_nle hc217627
              have bg217607' : gB g217607 0 1 := ⟨by omega, by omega⟩
              have bo217625' : gB o217625 1 2 := ⟨by omega, by omega⟩
              refine G_iconst 0 dr_cX17_behind_31 (by decide +kernel) ?_
              refine G_istore_n (L' := [(3, .int 0), (2, .int g217607), (0, .ref q214933), (1, .ref q214934)]) dr_cX17_behind_32 (Nat.le_of_ble_eq_true rfl) rfl ?_
              have hlp33_217782 : ∀ (n33_217782 : Nat) (F217776 : Nat → va_E) (g217775 : Int32), gB g217775 0 32 → RS D I P214931 F217776 γ el → rStr γ [] F214932 F217776 → (∀ k : Nat, k < 2048 → rbt (cL (F217776 (γ 9 2))) k = if (k : Int) < 64 * g217775.toInt then wyV (g217607.toInt + 1) (fI (F214932 q214934) 2).toInt (fI (F214932 q214934) 3).toInt (lvS γ F214932) k else wyV g217607.toInt (fI (F214932 q214934) 2).toInt (fI (F214932 q214934) 3).toInt (lvS γ F214932) k) → rLv γ F214932 F217776 → ((g217607.toInt = 0 ∧ (fI (F214932 (γ 15 q214934)) 0).toInt ≠ 32) ∨ (g217607.toInt = 1 ∧ (fI (F214932 (γ 15 q214934)) 0).toInt ≠ 32 ∧ (fI (F214932 (γ 15 q214934)) 0).toInt ≠ 30 ∧ (fI (F214932 q214934) 2).toInt ≠ (fI (F214932 q214934) 3).toInt)) → (F217776 q214933 = F214932 q214933) → ((33 : Int) - g217775.toInt).toNat < n33_217782 → G (gV D I) l (gRm 1 21 0 0) (gMA (gV D I) (pt_214935_SpillForgeModel_behind D I γ el P214931 F214932 q214933 q214934) gNA 0 0) ky_214935_SpillForgeModel_behind 33 [(3, .int g217775), (2, .int g217607), (0, .ref q214933), (1, .ref q214934)] [] (va_pl P214931 F217776) 0 0 := by
                intro n33_217782
                induction n33_217782 with
                | zero => intro F217776 g217775 bg217775 hT217777 hs217778 x217779 x217780 x217781 x217782 hm33_217782; exact absurd hm33_217782 (Nat.not_lt_zero _)
                | succ n33_217782 ih33_217782 =>
                  intro F217776 g217775 bg217775 hT217777 hs217778 x217779 x217780 x217781 x217782 hm33_217782
                  have hs217784 : rStr γ [] F217608 F217776 := fun b h0 hb hw => (hs217778 b h0 hb hw).trans (hs217610 b h0 hb hw).symm
                  have he217785 : F217776 q214934 = .inr (17, [.ref q214988, .ref q214989, .int p214990, .int p214991]) := (hs217784 q214934 (rT0 htq214934 (by decide)) (rT1 htq214934 (by decide)) (rT2 htq214934 (by decide))).trans he217617
                  have he217786 : F217776 q214989 = .inr (20, [.int p215003, .int p215004, .int p215005, .int p215006, .int p215007, .int p215008, .int p215009]) := (hs217784 q214989 (rT0 ht214994 (by decide)) (rT1 ht214994 (by decide)) (rT2 ht214994 (by decide))).trans he217618
                  have hs217787 : rStr γ [] F214932 F217776 := rStr_tr hs217610 hs217784
                  refine G_iload_n 0 dr_cX17_behind_33 rfl ?_
                  refine G_bipush 32 dr_cX17_behind_34 (by decide +kernel) ?_
                  refine G_icmp_ge 66 dr_cX17_behind_36 (by decide +kernel) (fun hc217788 => ?_) (fun hc217788 => ?_)
                  · have r217789 : 32 ≤ g217775.toInt := gj_leL hc217788 (show Int32.toInt 32 = 32 by decide)
                    have bg217775' : gB g217775 32 32 := ⟨by omega, by omega⟩
                    obtain ⟨z217790, hz217790⟩ : ∃ z : Int32, z = g217607 + Int32.ofInt 1 := ⟨_, rfl⟩
                    have ez217790 : z217790.toInt = g217607.toInt + 1 := gI_inc hz217790 (by decide) bg217607' (by decide) (by decide)
                    have bz217790 : gB z217790 1 2 := ⟨by omega, by omega⟩
                    refine G_iinc (L' := [(2, .int z217790), (3, .int g217775), (0, .ref q214933), (1, .ref q214934)]) z217790 1 dr_cX17_behind_66 rfl hz217790.symm (Nat.le_of_ble_eq_true rfl) rfl ?_
                    refine G_goto 23 dr_cX17_behind_69 (by decide +kernel) ?_
                    refine G_lv (L' := [(2, .int z217790), (0, .ref q214933), (1, .ref q214934)]) [0, 2, 3] rfl ?_
                    exact ih23_217614 F217776 z217790 (gB_w bz217790 (by decide) (by decide)) hT217777 hs217778 (fun k hk => by have q := x217779 k hk; rw [if_pos (by omega)] at q; rw [ez217790]; exact q) x217780 (by rw [show fI (F214932 q214934) 2 = p214990 from by rw [he214987]; rfl, show fI (F214932 q214934) 3 = p214991 from by rw [he214987]; rfl] <;> (omega)) x217782 (by omega)
                  · have r217791 : g217775.toInt < 32 := gj_nleL hc217788 (show Int32.toInt 32 = 32 by decide)
                    have bg217775' : gB g217775 0 31 := ⟨by omega, by omega⟩
                    refine G_aload_n 2 dr_cX17_behind_39 rfl ?_
                    have hm217792 : q214933 ∈ P214931 := RS_m hT217777 htq214933 (by decide)
                    obtain ⟨q217794, q217795, p217796, p217797, p217798, p217799, p217800, p217801, p217802, p217803, p217804, p217805, p217806, p217807, p217808, p217809, p217810, he217793, hB217837, ht217811, ht217812, ht217813, ht217814, ht217815, ht217816, ht217817, ht217818, ht217819, ht217820, ht217821, ht217822, ht217823, ht217824, ht217825, ht217826, ht217827, ht217828, ht217829, ht217830, ht217831, ht217832, ht217833, ht217834, hB217838⟩ := show rk_10 γ (F217776 q214933) from RS_o hT217777 htq214933
                    refine Gp_get 2 hm217792 he217793 dr_cX17_behind_40 (gk_X17 D I) (Nat.le_of_ble_eq_true rfl) wr_7_76 rfl ?_
                    refine G_iload_n 0 dr_cX17_behind_43 rfl ?_
                    refine G_dup2_11 dr_cX17_behind_44 rfl rfl ?_
                    have hm217839 : (γ 9 2) ∈ P214931 := RS_m hT217777 ht217815 (by decide)
                    obtain ⟨f217841, he217840, wf217841⟩ := show rk_35 I (F217776 (γ 9 2)) from RS_o hT217777 ht217815
                    refine Gp_lald 2 hm217839 he217840 dr_cX17_behind_45 rfl (gB_in bg217775' (by decide) (by decide)) (G_namL fun u217842 hu217842 => ?_)
                    have qu217842 : lb_Q u217842 (2000 - 64 * g217775.toInt) := lb_Wld hu217842 wf217841 (by omega) (by omega) (lb_Mod0 (by omega) (by omega))
                    refine G_aload_n 2 dr_cX17_behind_46 rfl ?_
                    refine Gp_get 0 hm217792 he217793 dr_cX17_behind_47 (gk_X17 D I) (Nat.le_of_ble_eq_true rfl) wr_7_74 rfl ?_
                    refine G_aload_n 3 dr_cX17_behind_50 rfl ?_
                    refine G_iload_n 1 dr_cX17_behind_51 rfl ?_
                    refine Gw_callV (As := [.int g217607]) (gV_ok D I) (cp_215326_Block_way l hl0 D I P214931 F217776 q214934 q214989 g217607 q214988 p214990 p214991 p215003 p215004 p215005 p215006 p215007 p215008 p215009 hm214986 hm215001 he217785 he217786 bp214990 bp214991 bp215003 bp215004 bp215007 bp215008 bp215009) dr_cX17_behind_52 ⟨wr_10_170, wr_1_38, wr_10_173, by decide, rfl, (Nat.le_of_ble_eq_true rfl), (Nat.le_of_ble_eq_true rfl)⟩ wr_10_171 wr_10_172 hm214986 he217785 rfl (show 0 + 0 ≤ 0 by first | omega | decide) (show 0 + 0 ≤ 0 by first | omega | decide) (Nat.le_of_ble_eq_true rfl) (fun r217846 w217847 dc217843 ds217844 hp217845 => ?_) (fun _ _ _ _ _ z => z.elim)
                    obtain ⟨o217848, rfl, rfl, hdc, hds, bo217848, x217849⟩ := hp217845
                    change G _ _ _ _ _ _ _ (.int o217848 :: _) _ _ _
                    refine G_widen (cs' := 0) (sl' := 0) (by omega) (by omega) ?_
                    have hm217850 : (γ 9 0) ∈ P214931 := RS_m hT217777 ht217813 (by decide)
                    obtain ⟨f217852, he217851, hg217853⟩ := show rk_12 I γ (F217776 (γ 9 0)) from RS_o hT217777 ht217813
                    obtain ⟨q217854, hx217856⟩ : ∃ x, x = γ 10 o217848.toInt.toNat := ⟨_, rfl⟩
                    have ht217855 : rKd γ q217854 11 := by rw [hx217856]; exact (hg217853 _ (show o217848.toInt.toNat < 40 by omega)).2.1
                    refine Gp_aald 5 hm217850 he217851 dr_cX17_behind_55 rfl rfl (gB_in bo217848 (by decide) (by decide)) ?_
                    rw [show f217852 o217848.toNatClampNeg = some q217854 from (hg217853 _ (show o217848.toInt.toNat < 40 by omega)).1.trans (by rw [hx217856])]
                    change G _ _ _ _ _ _ _ (.ref q217854 :: _) _ _ _
                    refine G_iload_n 0 dr_cX17_behind_56 rfl ?_
                    have hm217857 : q217854 ∈ P214931 := RS_m hT217777 ht217855 (by decide)
                    obtain ⟨f217859, he217858, wf217859⟩ := show rk_11 I (F217776 q217854) from RS_o hT217777 ht217855
                    refine Gp_lald 2 hm217857 he217858 dr_cX17_behind_57 rfl (gB_in bg217775' (by decide) (by decide)) (G_namL fun u217860 hu217860 => ?_)
                    have qu217860 : lb_Q u217860 (2000 - 64 * g217775.toInt) := lb_Wld hu217860 wf217859 (by omega) (by omega) (lb_Mod0 (by omega) (by omega))
                    have hg217861 : ∀ k : Nat, lvS γ F214932 o217848.toInt.toNat k = rbt f217859 k := fun k => by unfold lvS; rw [← x217780 _ (show o217848.toInt.toNat < 40 by omega), ← hx217856, cL_of he217858]
                    refine G_lor dr_cX17_behind_58 (G_namL fun u217862 hu217862 => ?_)
                    have qu217862 : lb_Q u217862 (2000 - 64 * g217775.toInt) := lb_Qor hu217862 qu217842 qu217860
                    refine Gp_last 2 hm217839 he217840 dr_cX17_behind_59 rfl (gB_in bg217775' (by decide) (by decide)) (fun F217863 e217864 n217865 => ?_)
                    obtain ⟨f217866, hf217866⟩ : ∃ z, z = vp_updL f217841 g217775.toNatClampNeg u217862 := ⟨_, rfl⟩
                    rw [← hf217866] at e217864
                    have he217867 : F217863 q214934 = .inr (17, [.ref q214988, .ref q214989, .int p214990, .int p214991]) := (n217865 q214934 (rn_oa he217785 he217840)).trans he217785
                    have he217868 : F217863 q214989 = .inr (20, [.int p215003, .int p215004, .int p215005, .int p215006, .int p215007, .int p215008, .int p215009]) := (n217865 q214989 (rn_oa he217786 he217840)).trans he217786
                    have he217869 : F217863 q214933 = .inr (22, [.ref (γ 9 0), .ref (γ 9 1), .ref (γ 9 2), .ref (γ 9 3), .ref (γ 9 4), .ref (γ 9 5), .ref (γ 9 6), .ref (γ 9 7), .ref (γ 9 8), .int p217796, .int p217797, .int p217798, .int p217799, .int p217800, .int p217801, .ref (γ 9 15), .ref (γ 9 16), .ref (γ 9 17), .ref (γ 9 18), .ref (γ 9 19), .ref (γ 9 20), .ref (γ 9 21), .ref (γ 9 22), .int p217802, .int p217803, .int p217804, .int p217805, .int p217806, .ref q217794, .ref (γ 9 29), .int p217807, .ref (γ 9 31), .int p217808, .int p217809, .int p217810, .ref q217795]) := (n217865 q214933 (rn_oa he217793 he217840)).trans he217793
                    have he217870 : F217863 (γ 9 0) = .inl (I (.array .long), 40, .inr (.inr (.inr (.inr f217852)))) := (n217865 (γ 9 0) (rn_ref_long he217851 he217840)).trans he217851
                    have he217871 : F217863 q217854 = .inl (I .long, 32, .inr (.inl f217859)) := (n217865 q217854 (rn_ty ht217855 ht217815 (by decide))).trans he217858
                    have he217872 : F217863 (γ 9 2) = .inl (I .long, 32, .inr (.inl f217866)) := e217864
                    have hs217873 : rStr γ [] F214932 F217863 := rStr_put hs217778 n217865 ht217815 (by decide)
                    have kp217874 : F217863 q214933 = F214932 q214933 := (n217865 q214933 (rn_ty htq214933 ht217815 (by decide))).trans x217782
                    have wf217866 : lb_W f217866 (32) (32) (2000) := lb_Wst hf217866 wf217841 (by omega) (lb_Mod0 (by omega) (by omega)) qu217862
                    obtain ⟨z217875, hz217875⟩ : ∃ z : Int32, z = g217775 + Int32.ofInt 1 := ⟨_, rfl⟩
                    have ez217875 : z217875.toInt = g217775.toInt + 1 := gI_inc hz217875 (by decide) bg217775' (by decide) (by decide)
                    have bz217875 : gB z217875 1 32 := ⟨by omega, by omega⟩
                    refine G_iinc (L' := [(3, .int z217875), (2, .int g217607), (0, .ref q214933), (1, .ref q214934)]) z217875 0 dr_cX17_behind_60 rfl hz217875.symm (Nat.le_of_ble_eq_true rfl) rfl ?_
                    refine G_goto 33 dr_cX17_behind_63 (by decide +kernel) ?_
                    have hT217876 : RS D I P214931 F217863 γ el := RS_set hT217777 n217865 ht217815 (by decide) ⟨f217866, he217872, wf217866⟩
                    have lv217877 : rLv γ F214932 F217863 := rLv_put hT217777 ht217813 x217780 n217865 ht217815 (by decide)
                    exact ih33_217782 F217863 z217875 (gB_w bz217875 (by decide) (by decide)) hT217876 hs217873 (by rw [cL_of he217872]; exact or_st hu217842 hu217860 (by assumption) hf217866 bg217775'.1 ez217875 (by have q := x217779; rw [cL_of he217840] at q; exact q) (fun k => (wy_s (y := o217848.toInt) (by omega)).trans (by rw [hg217861 k]))) lv217877 (by rw [show fI (F214932 q214934) 2 = p214990 from by rw [he214987]; rfl, show fI (F214932 q214934) 3 = p214991 from by rw [he214987]; rfl] <;> (omega)) kp217874 (by omega)
              exact hlp33_217782 (((33 : Int) - 0).toNat + 1) F217608 0 (gB_w (gBl (show Int32.toInt 0 = 0 by decide)) (by decide) (by decide)) hT217609 hs217610 (fun k hk => by rw [if_neg (by have qa : Int32.toInt 0 = 0 := (by decide); omega)]; exact x217611 k hk) x217612 (by rw [show fI (F214932 q214934) 2 = p214990 from by rw [he214987]; rfl, show fI (F214932 q214934) 3 = p214991 from by rw [he214987]; rfl] <;> (omega)) x217614 (Nat.lt_succ_self _)
        exact hlp23_217614 (((3 : Int) - 0).toNat + 1) F217328 0 (gB_w (gBl (show Int32.toInt 0 = 0 by decide)) (by decide) (by decide)) hT217329 hs217330 (fun k hk => (rbt_z (x217331 _ (by omega))).trans wy_0.symm) x217332 (Or.inl (by decide)) x217333 (Nat.lt_succ_self _)
      · have r217878 : g217327.toInt < 32 := gj_nleL hc217339 (show Int32.toInt 32 = 32 by decide)
        have bg217327' : gB g217327 0 31 := ⟨by omega, by omega⟩
        refine G_aload_n 1 dr_cX17_behind_8 rfl ?_
        have hm217879 : q214933 ∈ P214931 := RS_m hT217329 htq214933 (by decide)
        obtain ⟨q217881, q217882, p217883, p217884, p217885, p217886, p217887, p217888, p217889, p217890, p217891, p217892, p217893, p217894, p217895, p217896, p217897, he217880, hB217924, ht217898, ht217899, ht217900, ht217901, ht217902, ht217903, ht217904, ht217905, ht217906, ht217907, ht217908, ht217909, ht217910, ht217911, ht217912, ht217913, ht217914, ht217915, ht217916, ht217917, ht217918, ht217919, ht217920, ht217921, hB217925⟩ := show rk_10 γ (F217328 q214933) from RS_o hT217329 htq214933
        refine Gp_get 2 hm217879 he217880 dr_cX17_behind_9 (gk_X17 D I) (Nat.le_of_ble_eq_true rfl) wr_7_76 rfl ?_
        refine G_iload_n 0 dr_cX17_behind_12 rfl ?_
        refine G_lconst 0 dr_cX17_behind_13 rfl ?_
        have hm217926 : (γ 9 2) ∈ P214931 := RS_m hT217329 ht217902 (by decide)
        obtain ⟨f217928, he217927, wf217928⟩ := show rk_35 I (F217328 (γ 9 2)) from RS_o hT217329 ht217902
        refine Gp_last 2 hm217926 he217927 dr_cX17_behind_14 rfl (gB_in bg217327' (by decide) (by decide)) (fun F217929 e217930 n217931 => ?_)
        obtain ⟨f217932, hf217932⟩ : ∃ z, z = vp_updL f217928 g217327.toNatClampNeg 0 := ⟨_, rfl⟩
        rw [← hf217932] at e217930
        have he217933 : F217929 q214934 = .inr (17, [.ref q214988, .ref q214989, .int p214990, .int p214991]) := (n217931 q214934 (rn_oa he217336 he217927)).trans he217336
        have he217934 : F217929 q214989 = .inr (20, [.int p215003, .int p215004, .int p215005, .int p215006, .int p215007, .int p215008, .int p215009]) := (n217931 q214989 (rn_oa he217337 he217927)).trans he217337
        have he217935 : F217929 q214933 = .inr (22, [.ref (γ 9 0), .ref (γ 9 1), .ref (γ 9 2), .ref (γ 9 3), .ref (γ 9 4), .ref (γ 9 5), .ref (γ 9 6), .ref (γ 9 7), .ref (γ 9 8), .int p217883, .int p217884, .int p217885, .int p217886, .int p217887, .int p217888, .ref (γ 9 15), .ref (γ 9 16), .ref (γ 9 17), .ref (γ 9 18), .ref (γ 9 19), .ref (γ 9 20), .ref (γ 9 21), .ref (γ 9 22), .int p217889, .int p217890, .int p217891, .int p217892, .int p217893, .ref q217881, .ref (γ 9 29), .int p217894, .ref (γ 9 31), .int p217895, .int p217896, .int p217897, .ref q217882]) := (n217931 q214933 (rn_oa he217880 he217927)).trans he217880
        have he217936 : F217929 (γ 9 2) = .inl (I .long, 32, .inr (.inl f217932)) := e217930
        have hs217937 : rStr γ [] F214932 F217929 := rStr_put hs217330 n217931 ht217902 (by decide)
        have kp217938 : F217929 q214933 = F214932 q214933 := (n217931 q214933 (rn_ty htq214933 ht217902 (by decide))).trans x217333
        have wf217932 : lb_W f217932 (32) (32) (2000) := lb_Wst hf217932 wf217928 (by omega) (lb_Mod0 (by omega) (by omega)) lb_Q0
        obtain ⟨z217939, hz217939⟩ : ∃ z : Int32, z = g217327 + Int32.ofInt 1 := ⟨_, rfl⟩
        have ez217939 : z217939.toInt = g217327.toInt + 1 := gI_inc hz217939 (by decide) bg217327' (by decide) (by decide)
        have bz217939 : gB z217939 1 32 := ⟨by omega, by omega⟩
        refine G_iinc (L' := [(2, .int z217939), (0, .ref q214933), (1, .ref q214934)]) z217939 0 dr_cX17_behind_15 rfl hz217939.symm (Nat.le_of_ble_eq_true rfl) rfl ?_
        refine G_goto 2 dr_cX17_behind_18 (by decide +kernel) ?_
        have hT217940 : RS D I P214931 F217929 γ el := RS_set hT217329 n217931 ht217902 (by decide) ⟨f217932, he217936, wf217932⟩
        have lv217941 : rLv γ F214932 F217929 := rLv_put hT217329 ht217900 x217332 n217931 ht217902 (by decide)
        exact ih2_217333 F217929 z217939 (gB_w bz217939 (by decide) (by decide)) hT217940 hs217937 (by rw [cL_of he217936]; exact zr_st hf217932 (by have q := x217331; rw [cL_of he217927] at q; exact q) ez217939 bg217327'.1) lv217941 kp217938 (by omega)
  exact hlp2_217333 (((33 : Int) - 0).toNat + 1) F214932 0 (gB_w (gBl (show Int32.toInt 0 = 0 by decide)) (by decide) (by decide)) hT (rStr_rf (γ := γ) (W := []) (F := F214932)) (fun j hj => absurd hj (by have qa : Int32.toInt 0 = 0 := (by decide); omega)) (rLv_rf (γ := γ) (F := F214932)) rfl (Nat.lt_succ_self _)
abbrev ky_217949_SpillForgeModel_findLive : gKey := (cX17_findLive, 7, "SpillForgeModel", none, [], "findLive", fun _ _ => True)
def pt_217949_SpillForgeModel_findLive (D : va_G) (I : FieldType → ClassId) (γ el : Nat → Nat → Nat) (P217943 : List Nat) (F217944 : Nat → va_E) (q217945 : Nat) (q217946 : Nat) (p217947 : Int32) : Option Value → va_W → Nat → Nat → Prop := fun r w dc ds => ∃ (F269171 : Nat → va_E), r = none ∧ w = va_pl P217943 F269171 ∧ RS D I P217943 F269171 γ el ∧ rStr γ [] F217944 F269171 ∧ dc ≤ 0 ∧ ds ≤ 0 ∧ (F269171 q217945 = F217944 q217945)
set_option maxRecDepth 100000 in
set_option maxHeartbeats 4000000 in
theorem ct_217949_SpillForgeModel_findLive (l : Launch) (hl0 : l.stackTraces = false) (D : va_G) (I : FieldType → ClassId) (γ el : Nat → Nat → Nat) (P217943 : List Nat) (F217944 : Nat → va_E) (q217945 : Nat) (q217946 : Nat) (p217947 : Int32) (hT : RS D I P217943 F217944 γ el) (htq217945 : rKd γ q217945 10) (htq217946 : rKd γ q217946 9) (bp217947 : gB p217947 0 1) (x217948 : 0 < γ 6 (γ 1 q217946)) : CtA (gV D I) l yX17_findLive cX17_findLive 7 none 4 85 0 0 [.ref q217945, .ref q217946, .int p217947] (va_pl P217943 F217944) (pt_217949_SpillForgeModel_findLive D I γ el P217943 F217944 q217945 q217946 p217947) gNA := by
  refine CtA_of hl0 (by decide) (Nat.le_of_ble_eq_true rfl) ?_
  have hm217950 : q217945 ∈ P217943 := RS_m hT htq217945 (by decide)
  obtain ⟨q217952, q217953, p217954, p217955, p217956, p217957, p217958, p217959, p217960, p217961, p217962, p217963, p217964, p217965, p217966, p217967, p217968, he217951, hB217995, ht217969, ht217970, ht217971, ht217972, ht217973, ht217974, ht217975, ht217976, ht217977, ht217978, ht217979, ht217980, ht217981, ht217982, ht217983, ht217984, ht217985, ht217986, ht217987, ht217988, ht217989, ht217990, ht217991, ht217992, hB217996⟩ := show rk_10 γ (F217944 q217945) from RS_o hT htq217945
  have hm217997 : (γ 9 2) ∈ P217943 := RS_m hT ht217973 (by decide)
  obtain ⟨f217999, he217998, wf217999⟩ := show rk_35 I (F217944 (γ 9 2)) from RS_o hT ht217973
  refine G_iconst 0 dr_cX17_findLive_0 (by decide +kernel) ?_
  refine G_istore_n (L' := [(3, .int 0), (0, .ref q217945), (1, .ref q217946), (2, .int p217947)]) dr_cX17_findLive_1 (Nat.le_of_ble_eq_true rfl) rfl ?_
  have hlp2_264068 : ∀ (n2_264068 : Nat) (F264064 : Nat → va_E) (g264063 : Int32), gB g264063 0 1000000 → RS D I P217943 F264064 γ el → rStr γ [] F217944 F264064 → (∀ i : Nat, (i : Int) < g264063.toInt → ∀ j : Nat, j < 32 → cL (F264064 (γ 10 i)) j = 0) → (F264064 q217945 = F217944 q217945) → ((1000001 : Int) - g264063.toInt).toNat < n2_264068 → G (gV D I) l (gRm 4 85 0 0) (gMA (gV D I) (pt_217949_SpillForgeModel_findLive D I γ el P217943 F217944 q217945 q217946 p217947) gNA 0 0) ky_217949_SpillForgeModel_findLive 2 [(3, .int g264063), (0, .ref q217945), (1, .ref q217946), (2, .int p217947)] [] (va_pl P217943 F264064) 0 0 := by
    intro n2_264068
    induction n2_264068 with
    | zero => intro F264064 g264063 bg264063 hT264065 hs264066 x264067 x264068 hm2_264068; exact absurd hm2_264068 (Nat.not_lt_zero _)
    | succ n2_264068 ih2_264068 =>
      intro F264064 g264063 bg264063 hT264065 hs264066 x264067 x264068 hm2_264068
      have hs264070 : rStr γ [] F217944 F264064 := fun b h0 hb hw => (hs264066 b h0 hb hw).trans ((rStr_rf (γ := γ) (W := []) (F := F217944)) b h0 hb hw).symm
      have hs264071 : rStr γ [] F217944 F264064 := rStr_tr (rStr_rf (γ := γ) (W := []) (F := F217944)) hs264070
      refine G_iload_n 0 dr_cX17_findLive_2 rfl ?_
      refine G_aload_n 2 dr_cX17_findLive_3 rfl ?_
      have hm264072 : q217946 ∈ P217943 := RS_m hT264065 htq217946 (by decide)
      obtain ⟨q264074, q264075, p264076, p264077, he264073, ht264093, ht264078, ht264079, ht264080, ht264081, r264082, r264083, r264084, r264085, r264086, r264087, r264088, r264089, r264090, r264091, r264092⟩ := show rk_9 γ el q217946 (F264064 q217946) from RS_o hT264065 htq217946
      have bp264076 : gB p264076 0 1000000 := ⟨by omega, by omega⟩
      have bp264077 : gB p264077 0 1000000 := ⟨by omega, by omega⟩
      refine Gw_callV (As := []) (gV_ok D I) (cp_12451_Code_size l hl0 D I P217943 F264064 q217946 q264074 q264075 p264076 p264077 hm264072 he264073) dr_cX17_findLive_4 ⟨wr_10_160, wr_1_15, wr_9_131, by decide, rfl, (Nat.le_of_ble_eq_true rfl), (Nat.le_of_ble_eq_true rfl)⟩ wr_9_129 wr_9_130 hm264072 he264073 rfl (show 0 + 0 ≤ 0 by first | omega | decide) (show 0 + 0 ≤ 0 by first | omega | decide) (Nat.le_of_ble_eq_true rfl) (fun r264097 w264098 dc264094 ds264095 hp264096 => ?_) (fun _ _ _ _ _ z => z.elim)
      obtain ⟨rfl, rfl, hdc, hds⟩ := hp264096
      change G _ _ _ _ _ _ _ (.int p264077 :: _) _ _ _
      refine G_widen (cs' := 0) (sl' := 0) (by omega) (by omega) ?_
      refine G_icmp_ge 42 dr_cX17_findLive_7 (by decide +kernel) (fun hc264099 => ?_) (fun hc264099 => ?_)
      · have r264100 : p264077.toInt ≤ g264063.toInt := gC_le hc264099
        refine G_iconst 1 dr_cX17_findLive_42 (by decide +kernel) ?_
        refine G_istore_n (L' := [(3, .int 1), (0, .ref q217945), (1, .ref q217946), (2, .int p217947)]) dr_cX17_findLive_43 (Nat.le_of_ble_eq_true rfl) rfl ?_
        have hlp44_266557 : ∀ (n44_266557 : Nat) (F266553 : Nat → va_E) (g266552 : Int32), gB g266552 0 1 → RS D I P217943 F266553 γ el → rStr γ [] F217944 F266553 → rJv γ el F217944 F266553 q217946 (decide (p217947.toInt = 1)) (γ 6 (γ 1 q217946)) → (F266553 q217945 = F217944 q217945) → ((81920 - lvT γ F266553) + (g266552.toInt : Int).toNat) < n44_266557 → G (gV D I) l (gRm 4 85 0 0) (gMA (gV D I) (pt_217949_SpillForgeModel_findLive D I γ el P217943 F217944 q217945 q217946 p217947) gNA 0 0) ky_217949_SpillForgeModel_findLive 44 [(3, .int g266552), (0, .ref q217945), (1, .ref q217946), (2, .int p217947)] [] (va_pl P217943 F266553) 0 0 := by
          intro n44_266557
          induction n44_266557 with
          | zero => intro F266553 g266552 bg266552 hT266554 hs266555 x266556 x266557 hm44_266557; exact absurd hm44_266557 (Nat.not_lt_zero _)
          | succ n44_266557 ih44_266557 =>
            intro F266553 g266552 bg266552 hT266554 hs266555 x266556 x266557 hm44_266557
            have hs266559 : rStr γ [] F264064 F266553 := fun b h0 hb hw => (hs266555 b h0 hb hw).trans (hs264066 b h0 hb hw).symm
            have he266560 : F266553 q217946 = .inr (18, [.ref q264074, .ref q264075, .int p264076, .int p264077]) := (hs266559 q217946 (rT0 htq217946 (by decide)) (rT1 htq217946 (by decide)) (rT2 htq217946 (by decide))).trans he264073
            have hs266561 : rStr γ [] F217944 F266553 := rStr_tr hs264066 hs266559
            refine G_iload_n 0 dr_cX17_findLive_44 rfl ?_
            refine G_if_eq 201 dr_cX17_findLive_45 (by decide +kernel) (fun hc266562 => ?_) (fun hc266562 => ?_)
            · have r266563 : g266552.toInt = 0 := gj_eq hc266562 (show Int32.toInt 0 = 0 by decide)
              have bg266552' : gB g266552 0 0 := ⟨by omega, by omega⟩
              exact G_vretA dr_cX17_findLive_201 rfl (Nat.le_of_ble_eq_true rfl) (Nat.le_of_ble_eq_true rfl) ⟨F266553, rfl, rfl, hT266554, hs266555, (Nat.le_of_ble_eq_true rfl), (Nat.le_of_ble_eq_true rfl), x266557⟩
            · have r266564 : g266552.toInt ≠ 0 := gj_neq hc266562 (show Int32.toInt 0 = 0 by decide)
              have bg266552' : gB g266552 1 1 := ⟨by omega, by omega⟩
              refine G_iconst 0 dr_cX17_findLive_48 (by decide +kernel) ?_
              refine G_istore_n (L' := [(3, .int 0), (0, .ref q217945), (1, .ref q217946), (2, .int p217947)]) dr_cX17_findLive_49 (Nat.le_of_ble_eq_true rfl) rfl ?_
              refine G_aload_n 2 dr_cX17_findLive_50 rfl ?_
              refine Gw_callV (As := []) (gV_ok D I) (cp_12451_Code_size l hl0 D I P217943 F266553 q217946 q264074 q264075 p264076 p264077 hm264072 he266560) dr_cX17_findLive_51 ⟨wr_10_160, wr_1_15, wr_9_131, by decide, rfl, (Nat.le_of_ble_eq_true rfl), (Nat.le_of_ble_eq_true rfl)⟩ wr_9_129 wr_9_130 hm264072 he266560 rfl (show 0 + 0 ≤ 0 by first | omega | decide) (show 0 + 0 ≤ 0 by first | omega | decide) (Nat.le_of_ble_eq_true rfl) (fun r266568 w266569 dc266565 ds266566 hp266567 => ?_) (fun _ _ _ _ _ z => z.elim)
              obtain ⟨rfl, rfl, hdc, hds⟩ := hp266567
              change G _ _ _ _ _ _ _ (.int p264077 :: _) _ _ _
              refine G_widen (cs' := 0) (sl' := 0) (by omega) (by omega) ?_
              refine G_iconst 1 dr_cX17_findLive_54 (by decide +kernel) ?_
              refine G_isub dr_cX17_findLive_55 (G_nam fun z266570 hz266570 => ?_)
              have ez266570 : z266570.toInt = p264077.toInt - 1 := by rw [gI_sub hz266570 bp264077 (gBl (show Int32.toInt 1 = 1 by decide)) (by decide) (by decide), show Int32.toInt 1 = 1 from by decide]
              have bz266570 : gB z266570 (-1) 999999 := gB_sub (gI_sub hz266570 bp264077 (gBl (show Int32.toInt 1 = 1 by decide)) (by decide) (by decide)) bp264077 (gBl (show Int32.toInt 1 = 1 by decide)) (by decide) (by decide)
              refine G_istore (L' := [(4, .int z266570), (3, .int 0), (0, .ref q217945), (1, .ref q217946), (2, .int p217947)]) dr_cX17_findLive_56 (Nat.le_of_ble_eq_true rfl) rfl ?_
              have hlp58_267794 : ∀ (n58_267794 : Nat) (F267788 : Nat → va_E) (g267786 : Int32) (g267787 : Int32), gB g267786 (-1) 999999 → gB g267787 0 1 → RS D I P217943 F267788 γ el → rStr γ [] F217944 F267788 → rJv γ el F217944 F267788 q217946 (decide (p217947.toInt = 1)) (γ 6 (γ 1 q217946)) → (lvT γ F266553 + (g267787.toInt : Int).toNat ≤ lvT γ F267788) → ((g267786.toInt : Int) < γ 6 (γ 1 q217946)) → (F267788 q217945 = F217944 q217945) → ((g267786.toInt : Int) - (-2)).toNat < n58_267794 → G (gV D I) l (gRm 4 85 0 0) (gMA (gV D I) (pt_217949_SpillForgeModel_findLive D I γ el P217943 F217944 q217945 q217946 p217947) gNA 0 0) ky_217949_SpillForgeModel_findLive 58 [(4, .int g267786), (3, .int g267787), (0, .ref q217945), (1, .ref q217946), (2, .int p217947)] [] (va_pl P217943 F267788) 0 0 := by
                intro n58_267794
                induction n58_267794 with
                | zero => intro F267788 g267786 g267787 bg267786 bg267787 hT267789 hs267790 x267791 x267792 x267793 x267794 hm58_267794; exact absurd hm58_267794 (Nat.not_lt_zero _)
                | succ n58_267794 ih58_267794 =>
                  intro F267788 g267786 g267787 bg267786 bg267787 hT267789 hs267790 x267791 x267792 x267793 x267794 hm58_267794
                  have hs267796 : rStr γ [] F266553 F267788 := fun b h0 hb hw => (hs267790 b h0 hb hw).trans (hs266555 b h0 hb hw).symm
                  have he267797 : F267788 q217946 = .inr (18, [.ref q264074, .ref q264075, .int p264076, .int p264077]) := (hs267796 q217946 (rT0 htq217946 (by decide)) (rT1 htq217946 (by decide)) (rT2 htq217946 (by decide))).trans he266560
                  have hs267798 : rStr γ [] F217944 F267788 := rStr_tr hs266555 hs267796
                  refine G_iload 0 dr_cX17_findLive_58 rfl ?_
                  refine G_if_lt 198 dr_cX17_findLive_60 (by decide +kernel) (fun hc267799 => ?_) (fun hc267799 => ?_)
                  · have r267800 : g267786.toInt < 0 := gj_lt hc267799 (show Int32.toInt 0 = 0 by decide)
                    have bg267786' : gB g267786 (-1) (-1) := ⟨by omega, by omega⟩
                    have lt267801 := lvT_le (γ := γ) (F := F267788)
                    have lt267802 := lvT_le (γ := γ) (F := F266553)
                    refine G_goto 44 dr_cX17_findLive_198 (by decide +kernel) ?_
                    refine G_lv (L' := [(3, .int g267787), (0, .ref q217945), (1, .ref q217946), (2, .int p217947)]) [1, 2, 3, 4] rfl ?_
                    exact ih44_266557 F267788 g267787 bg267787 hT267789 hs267790 x267791 x267794 (by omega)
                  · have r267803 : 0 ≤ g267786.toInt := gj_nlt hc267799 (show Int32.toInt 0 = 0 by decide)
                    have bg267786' : gB g267786 0 999999 := ⟨by omega, by omega⟩
                    refine G_aload_n 3 dr_cX17_findLive_63 rfl ?_
                    refine G_iload 0 dr_cX17_findLive_64 rfl ?_
                    have hm267804 : q264074 ∈ P217943 := RS_m hT267789 ht264078 (by decide)
                    obtain ⟨⟨p267806, p267807, q267808, he267805, r267809, r267810, r267811, r267813⟩, r267812⟩ := show rk_4 D I γ el F267788 q264074 from RS_o hT267789 ht264078
                    have bp267806 := gB_any p267806
                    have bp267807 : gB p267807 0 1000000 := ⟨by omega, by omega⟩
                    obtain ⟨r267814, r267815, n267822, f267823, r267816, r267817, r267818, r267819, r267820, r267821⟩ := rLC_n r267811 (by omega)
                    have hm267824 : q267808 ∈ P217943 := RS_m hT267789 r267814 (by decide)
                    obtain ⟨q267825, hx267826⟩ : ∃ x, x = el q264074 g267786.toInt.toNat := ⟨_, rfl⟩
                    have hx267827 : f267823 g267786.toNatClampNeg = some q267825 := (r267820 _ (show g267786.toInt.toNat < γ 2 q264074 by omega)).trans (by rw [hx267826])
                    have ht267830 : rKd γ q267825 2 := by rw [hx267826]; exact (r264089 _ (by omega)).resolve_right (fun z => absurd z.1 (by omega))
                    have ht267831 : rFm γ q267825 q264074 := by rw [hx267826]; exact (r267812 _ (show g267786.toInt.toNat < γ 2 q264074 by omega)).2.1
                    have hm267832 : q267825 ∈ P217943 := RS_m hT267789 ht267830 (by decide)
                    obtain ⟨q267834, q267835, p267836, p267837, he267833, ht267844, ht267838, ht267839, ht267840, ht267841, ht267842, bp267836, bp267837, r267843, r267845, r267846⟩ := show rk_2 γ q267825 (F267788 q267825) from RS_o hT267789 ht267830
                    refine Gw_callV (As := [.int g267786]) (gV_ok D I) (cp_7723_Code_get l hl0 D I P217943 F267788 q217946 q264074 q267808 g267786 q264075 p264076 p264077 p267806 p267807 f267823 n267822 q267825 q267834 q267835 p267836 p267837 hm264072 hm267804 hm267824 hm267832 he267797 he267805 r267816 he267833 (gB_w bg267786' (by decide) (by decide)) (gB_w bp267807 (by decide) (by decide)) (by omega) (by omega) (by assumption) (by omega)) dr_cX17_findLive_66 ⟨wr_10_161, wr_1_15, wr_10_141, by decide, rfl, (Nat.le_of_ble_eq_true rfl), (Nat.le_of_ble_eq_true rfl)⟩ wr_10_139 wr_10_140 hm264072 he267797 rfl (show 0 + 0 ≤ 0 by first | omega | decide) (show 0 + 0 ≤ 0 by first | omega | decide) (Nat.le_of_ble_eq_true rfl) (fun r267850 w267851 dc267847 ds267848 hp267849 => ?_) (fun _ _ _ _ _ z => z.elim)
                    obtain ⟨rfl, rfl, hdc, hds⟩ := hp267849
                    change G _ _ _ _ _ _ _ (.ref q267825 :: _) _ _ _
                    refine G_widen (cs' := 0) (sl' := 0) (by omega) (by omega) ?_
                    refine G_astore (L' := [(5, .ref q267825), (4, .int g267786), (3, .int g267787), (0, .ref q217945), (1, .ref q217946), (2, .int p217947)]) dr_cX17_findLive_69 (Nat.le_of_ble_eq_true rfl) rfl ?_
                    refine G_aload_n 3 dr_cX17_findLive_71 rfl ?_
                    refine G_aload 0 dr_cX17_findLive_72 rfl ?_
                    have fl267852 : F267788 q267825 = F217944 q267825 := hs267790 q267825 (rT0 ht267830 (by decide)) (rT1 ht267830 (by decide)) (rT2 ht267830 (by decide))
                    have fl267853 : F267788 q267835 = F217944 q267835 := hs267790 q267835 (rT0 ht267840 (by decide)) (rT1 ht267840 (by decide)) (rT2 ht267840 (by decide))
                    have fl267854 : (fI (F217944 q267825) 2).toInt = p267836.toInt := by rw [← fl267852, he267833]; rfl
                    have fl267855 : (fI (F217944 q267825) 3).toInt = p267837.toInt := by rw [← fl267852, he267833]; rfl
                    have fl267856 : γ 2 (γ 14 q267825) = γ 2 q267834 := by rw [ht267844.1]
                    have fl267857 : q267825 = el (γ 14 q217946) (g267786.toInt : Int).toNat := by rw [hx267826, ht264093.1]
                    have hm267863 : q217945 ∈ P217943 := RS_m hT267789 htq217945 (by decide)
                    obtain ⟨q267865, q267866, p267867, p267868, p267869, p267870, p267871, p267872, p267873, p267874, p267875, p267876, p267877, p267878, p267879, p267880, p267881, he267864, hB267908, ht267882, ht267883, ht267884, ht267885, ht267886, ht267887, ht267888, ht267889, ht267890, ht267891, ht267892, ht267893, ht267894, ht267895, ht267896, ht267897, ht267898, ht267899, ht267900, ht267901, ht267902, ht267903, ht267904, ht267905, hB267909⟩ := show rk_10 γ (F267788 q217945) from RS_o hT267789 htq217945
                    refine Gw_callV (As := [.ref q267825]) (gV_ok D I) (ct_214935_SpillForgeModel_behind l hl0 D I γ el P217943 F267788 q217945 q267825 hT267789 htq217945 ht267830) dr_cX17_findLive_74 ⟨wr_10_162, wr_1_14, wr_10_165, by decide, rfl, (Nat.le_of_ble_eq_true rfl), (Nat.le_of_ble_eq_true rfl)⟩ wr_10_164 wr_p_95 hm267863 he267864 rfl (show 0 + 0 ≤ 0 by first | omega | decide) (show 0 + 0 ≤ 0 by first | omega | decide) (Nat.le_of_ble_eq_true rfl) (fun r267861 w267862 dc267858 ds267859 hp267860 => ?_) (fun _ _ _ _ _ z => z.elim)
                    obtain ⟨F267913, rfl, rfl, hT267914, hs267915, hdc, hds, x267910, x267911, x267912⟩ := hp267860
                    have he267916 : F267913 q217946 = .inr (18, [.ref q264074, .ref q264075, .int p264076, .int p264077]) := (hs267915 q217946 (rT0 htq217946 (by decide)) (rT1 htq217946 (by decide)) (rT2 htq217946 (by decide))).trans he267797
                    have he267917 : F267913 q264074 = .inr (4, [.int p267806, .ref q267808, .int p267807]) := (hs267915 q264074 (rT0 ht264078 (by decide)) (rT1 ht264078 (by decide)) (rT2 ht264078 (by decide))).trans he267805
                    have he267918 : F267913 q267808 = .inl (I (.object "java/lang/Object"), n267822, .inr (.inr (.inr (.inr f267823)))) := (hs267915 q267808 (rT0 r267814 (by decide)) (rT1 r267814 (by decide)) (rT2 r267814 (by decide))).trans r267816
                    have he267919 : F267913 q267825 = .inr (17, [.ref q267834, .ref q267835, .int p267836, .int p267837]) := (hs267915 q267825 (rT0 ht267830 (by decide)) (rT1 ht267830 (by decide)) (rT2 ht267830 (by decide))).trans he267833
                    have hs267920 : rStr γ [] F217944 F267913 := rStr_tr hs267790 hs267915
                    have kp267921 : F267913 q217945 = F217944 q217945 := (x267912).trans x267794
                    have he267922 : F267913 q217945 = .inr (22, [.ref (γ 9 0), .ref (γ 9 1), .ref (γ 9 2), .ref (γ 9 3), .ref (γ 9 4), .ref (γ 9 5), .ref (γ 9 6), .ref (γ 9 7), .ref (γ 9 8), .int p267867, .int p267868, .int p267869, .int p267870, .int p267871, .int p267872, .ref (γ 9 15), .ref (γ 9 16), .ref (γ 9 17), .ref (γ 9 18), .ref (γ 9 19), .ref (γ 9 20), .ref (γ 9 21), .ref (γ 9 22), .int p267873, .int p267874, .int p267875, .int p267876, .int p267877, .ref q267865, .ref (γ 9 29), .int p267878, .ref (γ 9 31), .int p267879, .int p267880, .int p267881, .ref q267866]) := (x267912).trans he267864
                    change G _ _ _ _ _ _ _ _ _ _ _
                    refine G_widen (cs' := 0) (sl' := 0) (by omega) (by omega) ?_
                    refine G_aload_n 3 dr_cX17_findLive_77 rfl ?_
                    refine G_aload 0 dr_cX17_findLive_78 rfl ?_
                    refine Gp_get 1 hm267832 he267919 dr_cX17_findLive_80 (gk_X12 D I) (Nat.le_of_ble_eq_true rfl) wr_9_223 rfl ?_
                    refine G_iload_n 5 dr_cX17_findLive_83 rfl ?_
                    have fl267923 : F267913 q267835 = F217944 (γ 15 q267825) := by rw [ht267844.2.1]; exact hs267920 q267835 (rT0 ht267840 (by decide)) (rT1 ht267840 (by decide)) (rT2 ht267840 (by decide))
                    refine Gw_callV (As := [.ref q267835, .int p217947]) (gV_ok D I) (ct_214613_SpillForgeModel_back l hl0 D I γ el P217943 F267913 q217945 q267835 p217947 hT267914 htq217945 ht267840 bp217947) dr_cX17_findLive_84 ⟨wr_10_174, wr_1_14, wr_10_177, by decide, rfl, (Nat.le_of_ble_eq_true rfl), (Nat.le_of_ble_eq_true rfl)⟩ wr_10_176 wr_p_96 hm267863 he267922 rfl (show 0 + 0 ≤ 0 by first | omega | decide) (show 0 + 0 ≤ 0 by first | omega | decide) (Nat.le_of_ble_eq_true rfl) (fun r267927 w267928 dc267924 ds267925 hp267926 => ?_) (fun _ _ _ _ _ z => z.elim)
                    obtain ⟨F267932, rfl, rfl, hT267933, hs267934, hdc, hds, x267929, x267930, x267931⟩ := hp267926
                    have he267935 : F267932 q217946 = .inr (18, [.ref q264074, .ref q264075, .int p264076, .int p264077]) := (hs267934 q217946 (rT0 htq217946 (by decide)) (rT1 htq217946 (by decide)) (rT2 htq217946 (by decide))).trans he267916
                    have he267936 : F267932 q264074 = .inr (4, [.int p267806, .ref q267808, .int p267807]) := (hs267934 q264074 (rT0 ht264078 (by decide)) (rT1 ht264078 (by decide)) (rT2 ht264078 (by decide))).trans he267917
                    have he267937 : F267932 q267808 = .inl (I (.object "java/lang/Object"), n267822, .inr (.inr (.inr (.inr f267823)))) := (hs267934 q267808 (rT0 r267814 (by decide)) (rT1 r267814 (by decide)) (rT2 r267814 (by decide))).trans he267918
                    have he267938 : F267932 q267825 = .inr (17, [.ref q267834, .ref q267835, .int p267836, .int p267837]) := (hs267934 q267825 (rT0 ht267830 (by decide)) (rT1 ht267830 (by decide)) (rT2 ht267830 (by decide))).trans he267919
                    have hs267939 : rStr γ [] F217944 F267932 := rStr_tr hs267920 hs267934
                    have kp267940 : F267932 q217945 = F217944 q217945 := (x267931).trans kp267921
                    have he267941 : F267932 q217945 = .inr (22, [.ref (γ 9 0), .ref (γ 9 1), .ref (γ 9 2), .ref (γ 9 3), .ref (γ 9 4), .ref (γ 9 5), .ref (γ 9 6), .ref (γ 9 7), .ref (γ 9 8), .int p267867, .int p267868, .int p267869, .int p267870, .int p267871, .int p267872, .ref (γ 9 15), .ref (γ 9 16), .ref (γ 9 17), .ref (γ 9 18), .ref (γ 9 19), .ref (γ 9 20), .ref (γ 9 21), .ref (γ 9 22), .int p267873, .int p267874, .int p267875, .int p267876, .int p267877, .ref q267865, .ref (γ 9 29), .int p267878, .ref (γ 9 31), .int p267879, .int p267880, .int p267881, .ref q267866]) := (x267931).trans he267922
                    change G _ _ _ _ _ _ _ _ _ _ _
                    refine G_widen (cs' := 0) (sl' := 0) (by omega) (by omega) ?_
                    refine G_aload 0 dr_cX17_findLive_87 rfl ?_
                    refine Gp_get 0 hm267832 he267938 dr_cX17_findLive_89 (gk_X12 D I) (Nat.le_of_ble_eq_true rfl) wr_9_220 rfl ?_
                    have hm267942 : q267834 ∈ P217943 := RS_m hT267933 ht267838 (by decide)
                    obtain ⟨⟨p267944, p267945, q267946, he267943, r267947, r267948, r267949, r267951⟩, r267950⟩ := show rk_3 D I γ el F267932 q267834 from RS_o hT267933 ht267838
                    have bp267944 := gB_any p267944
                    have bp267945 : gB p267945 0 1000000 := ⟨by omega, by omega⟩
                    refine Gw_callV (As := []) (gV_ok D I) (cp_7_ArrayList_size l hl0 D I P217943 F267932 q267834 p267944 q267946 p267945 hm267942 he267943 (gB_w bp267945 (by decide) (by decide))) dr_cX17_findLive_92 ⟨wr_10_200, wr_1_18, wr_9_160, by decide, rfl, (Nat.le_of_ble_eq_true rfl), (Nat.le_of_ble_eq_true rfl)⟩ wr_9_158 wr_9_159 hm267942 he267943 rfl (show 0 + 0 ≤ 0 by first | omega | decide) (show 0 + 0 ≤ 0 by first | omega | decide) (Nat.le_of_ble_eq_true rfl) (fun r267955 w267956 dc267952 ds267953 hp267954 => ?_) (fun _ _ _ _ _ z => z.elim)
                    obtain ⟨rfl, rfl, hdc, hds⟩ := hp267954
                    change G _ _ _ _ _ _ _ (.int p267945 :: _) _ _ _
                    refine G_widen (cs' := 0) (sl' := 0) (by omega) (by omega) ?_
                    refine G_iconst 1 dr_cX17_findLive_95 (by decide +kernel) ?_
                    refine G_isub dr_cX17_findLive_96 (G_nam fun z267957 hz267957 => ?_)
                    have ez267957 : z267957.toInt = p267945.toInt - 1 := by rw [gI_sub hz267957 bp267945 (gBl (show Int32.toInt 1 = 1 by decide)) (by decide) (by decide), show Int32.toInt 1 = 1 from by decide]
                    have bz267957 : gB z267957 (-1) 999999 := gB_sub (gI_sub hz267957 bp267945 (gBl (show Int32.toInt 1 = 1 by decide)) (by decide) (by decide)) bp267945 (gBl (show Int32.toInt 1 = 1 by decide)) (by decide) (by decide)
                    refine G_istore (L' := [(6, .int z267957), (5, .ref q267825), (4, .int g267786), (3, .int g267787), (0, .ref q217945), (1, .ref q217946), (2, .int p217947)]) dr_cX17_findLive_97 (Nat.le_of_ble_eq_true rfl) rfl ?_
                    have hlp99_268487 : ∀ (n99_268487 : Nat) (F268480 : Nat → va_E) (g268479 : Int32), gB g268479 (-1) 999999 → RS D I P217943 F268480 γ el → rStr γ [] F217944 F268480 → rLv γ F267788 F268480 → (∀ k : Nat, k < 2048 → rbt (cL (F268480 (γ 9 2))) k = trS γ el F217944 (decide (p217947.toInt = 1)) q267825 (lvM γ F267788) ((((γ 2 (γ 14 q267825) : Nat) : Int) - 1 - g268479.toInt).toNat) k) → ((g268479.toInt : Int) < γ 2 (γ 14 q267825)) → (q267825 = el (γ 14 q217946) (g267786.toInt : Int).toNat) → (F268480 q217945 = F217944 q217945) → ((g268479.toInt : Int) - (-2)).toNat < n99_268487 → G (gV D I) l (gRm 4 85 0 0) (gMA (gV D I) (pt_217949_SpillForgeModel_findLive D I γ el P217943 F217944 q217945 q217946 p217947) gNA 0 0) ky_217949_SpillForgeModel_findLive 99 [(6, .int g268479), (5, .ref q267825), (4, .int g267786), (3, .int g267787), (0, .ref q217945), (1, .ref q217946), (2, .int p217947)] [] (va_pl P217943 F268480) 0 0 := by
                      intro n99_268487
                      induction n99_268487 with
                      | zero => intro F268480 g268479 bg268479 hT268481 hs268482 x268483 x268484 x268485 x268486 x268487 hm99_268487; exact absurd hm99_268487 (Nat.not_lt_zero _)
                      | succ n99_268487 ih99_268487 =>
                        intro F268480 g268479 bg268479 hT268481 hs268482 x268483 x268484 x268485 x268486 x268487 hm99_268487
                        have hs268489 : rStr γ [] F267932 F268480 := fun b h0 hb hw => (hs268482 b h0 hb hw).trans (hs267939 b h0 hb hw).symm
                        have he268490 : F268480 q217946 = .inr (18, [.ref q264074, .ref q264075, .int p264076, .int p264077]) := (hs268489 q217946 (rT0 htq217946 (by decide)) (rT1 htq217946 (by decide)) (rT2 htq217946 (by decide))).trans he267935
                        have he268491 : F268480 q264074 = .inr (4, [.int p267806, .ref q267808, .int p267807]) := (hs268489 q264074 (rT0 ht264078 (by decide)) (rT1 ht264078 (by decide)) (rT2 ht264078 (by decide))).trans he267936
                        have he268492 : F268480 q267808 = .inl (I (.object "java/lang/Object"), n267822, .inr (.inr (.inr (.inr f267823)))) := (hs268489 q267808 (rT0 r267814 (by decide)) (rT1 r267814 (by decide)) (rT2 r267814 (by decide))).trans he267937
                        have he268493 : F268480 q267825 = .inr (17, [.ref q267834, .ref q267835, .int p267836, .int p267837]) := (hs268489 q267825 (rT0 ht267830 (by decide)) (rT1 ht267830 (by decide)) (rT2 ht267830 (by decide))).trans he267938
                        have he268494 : F268480 q267834 = .inr (4, [.int p267944, .ref q267946, .int p267945]) := (hs268489 q267834 (rT0 ht267838 (by decide)) (rT1 ht267838 (by decide)) (rT2 ht267838 (by decide))).trans he267943
                        have hs268495 : rStr γ [] F217944 F268480 := rStr_tr hs267939 hs268489
                        refine G_iload 0 dr_cX17_findLive_99 rfl ?_
                        refine G_if_lt 128 dr_cX17_findLive_101 (by decide +kernel) (fun hc268496 => ?_) (fun hc268496 => ?_)
                        · have r268497 : g268479.toInt < 0 := gj_lt hc268496 (show Int32.toInt 0 = 0 by decide)
                          have bg268479' : gB g268479 (-1) (-1) := ⟨by omega, by omega⟩
                          refine G_iconst 0 dr_cX17_findLive_128 (by decide +kernel) ?_
                          refine G_istore (L' := [(6, .int 0), (5, .ref q267825), (4, .int g267786), (3, .int g267787), (0, .ref q217945), (1, .ref q217946), (2, .int p217947)]) dr_cX17_findLive_129 (Nat.le_of_ble_eq_true rfl) rfl ?_
                          have hlp131_268701 : ∀ (n131_268701 : Nat) (F268693 : Nat → va_E) (g268691 : Int32) (g268692 : Int32), gB g268691 0 32 → gB g268692 0 1 → RS D I P217943 F268693 γ el → rStr γ [] F217944 F268693 → (∀ i : Nat, i < 40 → (i : Int) ≠ g267786.toInt → F268693 (γ 10 i) = F267788 (γ 10 i)) → (∀ k : Nat, k < 2048 → rbt (cL (F268693 (γ 9 2))) k = trS γ el F217944 (decide (p217947.toInt = 1)) q267825 (lvM γ F267788) (γ 2 (γ 14 q267825)) k) → (∀ k : Nat, k < 2048 → lvS γ F268693 (g267786.toInt : Int).toNat k = if (k : Int) < 64 * g268691.toInt then trS γ el F217944 (decide (p217947.toInt = 1)) q267825 (lvM γ F267788) (γ 2 (γ 14 q267825)) k else lvS γ F267788 (g267786.toInt : Int).toNat k) → (lvT γ F266553 + (g268692.toInt : Int).toNat ≤ lvT γ F268693) → (q267825 = el (γ 14 q217946) (g267786.toInt : Int).toNat) → (F268693 q217945 = F217944 q217945) → ((33 : Int) - g268691.toInt).toNat < n131_268701 → G (gV D I) l (gRm 4 85 0 0) (gMA (gV D I) (pt_217949_SpillForgeModel_findLive D I γ el P217943 F217944 q217945 q217946 p217947) gNA 0 0) ky_217949_SpillForgeModel_findLive 131 [(6, .int g268691), (5, .ref q267825), (4, .int g267786), (3, .int g268692), (0, .ref q217945), (1, .ref q217946), (2, .int p217947)] [] (va_pl P217943 F268693) 0 0 := by
                            intro n131_268701
                            induction n131_268701 with
                            | zero => intro F268693 g268691 g268692 bg268691 bg268692 hT268694 hs268695 x268696 x268697 x268698 x268699 x268700 x268701 hm131_268701; exact absurd hm131_268701 (Nat.not_lt_zero _)
                            | succ n131_268701 ih131_268701 =>
                              intro F268693 g268691 g268692 bg268691 bg268692 hT268694 hs268695 x268696 x268697 x268698 x268699 x268700 x268701 hm131_268701
                              have hs268703 : rStr γ [] F268480 F268693 := fun b h0 hb hw => (hs268695 b h0 hb hw).trans (hs268482 b h0 hb hw).symm
                              have he268704 : F268693 q217946 = .inr (18, [.ref q264074, .ref q264075, .int p264076, .int p264077]) := (hs268703 q217946 (rT0 htq217946 (by decide)) (rT1 htq217946 (by decide)) (rT2 htq217946 (by decide))).trans he268490
                              have he268705 : F268693 q264074 = .inr (4, [.int p267806, .ref q267808, .int p267807]) := (hs268703 q264074 (rT0 ht264078 (by decide)) (rT1 ht264078 (by decide)) (rT2 ht264078 (by decide))).trans he268491
                              have he268706 : F268693 q267808 = .inl (I (.object "java/lang/Object"), n267822, .inr (.inr (.inr (.inr f267823)))) := (hs268703 q267808 (rT0 r267814 (by decide)) (rT1 r267814 (by decide)) (rT2 r267814 (by decide))).trans he268492
                              have he268707 : F268693 q267825 = .inr (17, [.ref q267834, .ref q267835, .int p267836, .int p267837]) := (hs268703 q267825 (rT0 ht267830 (by decide)) (rT1 ht267830 (by decide)) (rT2 ht267830 (by decide))).trans he268493
                              have hs268708 : rStr γ [] F217944 F268693 := rStr_tr hs268482 hs268703
                              refine G_iload 0 dr_cX17_findLive_131 rfl ?_
                              refine G_bipush 32 dr_cX17_findLive_133 (by decide +kernel) ?_
                              refine G_icmp_ge 192 dr_cX17_findLive_135 (by decide +kernel) (fun hc268709 => ?_) (fun hc268709 => ?_)
                              · have r268710 : 32 ≤ g268691.toInt := gj_leL hc268709 (show Int32.toInt 32 = 32 by decide)
                                have bg268691' : gB g268691 32 32 := ⟨by omega, by omega⟩
                                obtain ⟨z268711, hz268711⟩ : ∃ z : Int32, z = g267786 + Int32.ofInt (-1) := ⟨_, rfl⟩
                                have ez268711 : z268711.toInt = g267786.toInt + (-1) := gI_inc hz268711 (by decide) bg267786' (by decide) (by decide)
                                have bz268711 : gB z268711 (-1) 999998 := ⟨by omega, by omega⟩
                                refine G_iinc (L' := [(4, .int z268711), (6, .int g268691), (5, .ref q267825), (3, .int g268692), (0, .ref q217945), (1, .ref q217946), (2, .int p217947)]) z268711 2 dr_cX17_findLive_192 rfl hz268711.symm (Nat.le_of_ble_eq_true rfl) rfl ?_
                                refine G_goto 58 dr_cX17_findLive_195 (by decide +kernel) ?_
                                refine G_lv (L' := [(4, .int z268711), (3, .int g268692), (0, .ref q217945), (1, .ref q217946), (2, .int p217947)]) [0, 3, 4, 5, 6] rfl ?_
                                exact ih58_267794 F268693 z268711 g268692 (gB_w bz268711 (by decide) (by decide)) bg268692 hT268694 hs268695 (rJv_s x267791 (i0 := g267786.toInt.toNat) (by omega) (by omega) (fun i hi hne => x268696 i hi (by omega)) (fun k hk => by have q := x268698 k hk; rw [if_pos (by omega)] at q; rw [q, ← x268700])) (by have q := x268699; omega) (by omega) x268701 (by omega)
                              · have r268712 : g268691.toInt < 32 := gj_nleL hc268709 (show Int32.toInt 32 = 32 by decide)
                                have bg268691' : gB g268691 0 31 := ⟨by omega, by omega⟩
                                refine G_iload_n 3 dr_cX17_findLive_138 rfl ?_
                                refine G_if_ne 163 dr_cX17_findLive_139 (by decide +kernel) (fun hc268713 => ?_) (fun hc268713 => ?_)
                                · have r268714 : g268692.toInt ≠ 0 := gj_neq hc268713 (show Int32.toInt 0 = 0 by decide)
                                  have bg268692' : gB g268692 1 1 := ⟨by omega, by omega⟩
                                  refine G_iconst 1 dr_cX17_findLive_163 (by decide +kernel) ?_
                                  refine G_goto 168 dr_cX17_findLive_164 (by decide +kernel) ?_
                                  refine G_istore_n (L' := [(3, .int 1), (6, .int g268691), (5, .ref q267825), (4, .int g267786), (0, .ref q217945), (1, .ref q217946), (2, .int p217947)]) dr_cX17_findLive_168 (Nat.le_of_ble_eq_true rfl) rfl ?_
                                  refine G_aload_n 4 dr_cX17_findLive_169 rfl ?_
                                  have hm268715 : q217945 ∈ P217943 := RS_m hT268694 htq217945 (by decide)
                                  obtain ⟨q268717, q268718, p268719, p268720, p268721, p268722, p268723, p268724, p268725, p268726, p268727, p268728, p268729, p268730, p268731, p268732, p268733, he268716, hB268760, ht268734, ht268735, ht268736, ht268737, ht268738, ht268739, ht268740, ht268741, ht268742, ht268743, ht268744, ht268745, ht268746, ht268747, ht268748, ht268749, ht268750, ht268751, ht268752, ht268753, ht268754, ht268755, ht268756, ht268757, hB268761⟩ := show rk_10 γ (F268693 q217945) from RS_o hT268694 htq217945
                                  refine Gp_get 0 hm268715 he268716 dr_cX17_findLive_170 (gk_X17 D I) (Nat.le_of_ble_eq_true rfl) wr_7_74 rfl ?_
                                  refine G_iload 3 dr_cX17_findLive_173 rfl ?_
                                  have hm268762 : (γ 9 0) ∈ P217943 := RS_m hT268694 ht268736 (by decide)
                                  obtain ⟨f268764, he268763, hg268765⟩ := show rk_12 I γ (F268693 (γ 9 0)) from RS_o hT268694 ht268736
                                  obtain ⟨q268766, hx268768⟩ : ∃ x, x = γ 10 g267786.toInt.toNat := ⟨_, rfl⟩
                                  have ht268767 : rKd γ q268766 11 := by rw [hx268768]; exact (hg268765 _ (show g267786.toInt.toNat < 40 by omega)).2.1
                                  refine Gp_aald 5 hm268762 he268763 dr_cX17_findLive_175 rfl rfl (gB_inr (by omega) (by omega)) ?_
                                  rw [show f268764 g267786.toNatClampNeg = some q268766 from (hg268765 _ (show g267786.toInt.toNat < 40 by omega)).1.trans (by rw [hx268768])]
                                  change G _ _ _ _ _ _ _ (.ref q268766 :: _) _ _ _
                                  refine G_iload 1 dr_cX17_findLive_176 rfl ?_
                                  refine G_aload_n 4 dr_cX17_findLive_178 rfl ?_
                                  refine Gp_get 2 hm268715 he268716 dr_cX17_findLive_179 (gk_X17 D I) (Nat.le_of_ble_eq_true rfl) wr_7_76 rfl ?_
                                  refine G_iload 1 dr_cX17_findLive_182 rfl ?_
                                  have hm268769 : (γ 9 2) ∈ P217943 := RS_m hT268694 ht268738 (by decide)
                                  obtain ⟨f268771, he268770, wf268771⟩ := show rk_35 I (F268693 (γ 9 2)) from RS_o hT268694 ht268738
                                  refine Gp_lald 2 hm268769 he268770 dr_cX17_findLive_184 rfl (gB_in bg268691' (by decide) (by decide)) (G_namL fun u268772 hu268772 => ?_)
                                  have qu268772 : lb_Q u268772 (2000 - 64 * g268691.toInt) := lb_Wld hu268772 wf268771 (by omega) (by omega) (lb_Mod0 (by omega) (by omega))
                                  have hm268773 : q268766 ∈ P217943 := RS_m hT268694 ht268767 (by decide)
                                  obtain ⟨f268775, he268774, wf268775⟩ := show rk_11 I (F268693 q268766) from RS_o hT268694 ht268767
                                  refine Gp_last 2 hm268773 he268774 dr_cX17_findLive_185 rfl (gB_in bg268691' (by decide) (by decide)) (fun F268776 e268777 n268778 => ?_)
                                  obtain ⟨f268779, hf268779⟩ : ∃ z, z = vp_updL f268775 g268691.toNatClampNeg u268772 := ⟨_, rfl⟩
                                  rw [← hf268779] at e268777
                                  have he268780 : F268776 q217946 = .inr (18, [.ref q264074, .ref q264075, .int p264076, .int p264077]) := (n268778 q217946 (rn_oa he268704 he268774)).trans he268704
                                  have he268781 : F268776 q264074 = .inr (4, [.int p267806, .ref q267808, .int p267807]) := (n268778 q264074 (rn_oa he268705 he268774)).trans he268705
                                  have he268782 : F268776 q267808 = .inl (I (.object "java/lang/Object"), n267822, .inr (.inr (.inr (.inr f267823)))) := (n268778 q267808 (rn_ref_long he268706 he268774)).trans he268706
                                  have he268783 : F268776 q267825 = .inr (17, [.ref q267834, .ref q267835, .int p267836, .int p267837]) := (n268778 q267825 (rn_oa he268707 he268774)).trans he268707
                                  have he268784 : F268776 q217945 = .inr (22, [.ref (γ 9 0), .ref (γ 9 1), .ref (γ 9 2), .ref (γ 9 3), .ref (γ 9 4), .ref (γ 9 5), .ref (γ 9 6), .ref (γ 9 7), .ref (γ 9 8), .int p268719, .int p268720, .int p268721, .int p268722, .int p268723, .int p268724, .ref (γ 9 15), .ref (γ 9 16), .ref (γ 9 17), .ref (γ 9 18), .ref (γ 9 19), .ref (γ 9 20), .ref (γ 9 21), .ref (γ 9 22), .int p268725, .int p268726, .int p268727, .int p268728, .int p268729, .ref q268717, .ref (γ 9 29), .int p268730, .ref (γ 9 31), .int p268731, .int p268732, .int p268733, .ref q268718]) := (n268778 q217945 (rn_oa he268716 he268774)).trans he268716
                                  have he268785 : F268776 (γ 9 0) = .inl (I (.array .long), 40, .inr (.inr (.inr (.inr f268764)))) := (n268778 (γ 9 0) (rn_ref_long he268763 he268774)).trans he268763
                                  have he268786 : F268776 (γ 9 2) = .inl (I .long, 32, .inr (.inl f268771)) := (n268778 (γ 9 2) (rn_ty ht268738 ht268767 (by decide))).trans he268770
                                  have he268787 : F268776 q268766 = .inl (I .long, 32, .inr (.inl f268779)) := e268777
                                  have hs268788 : rStr γ [] F217944 F268776 := rStr_put hs268695 n268778 ht268767 (by decide)
                                  have kp268789 : F268776 q217945 = F217944 q217945 := (n268778 q217945 (rn_ty htq217945 ht268767 (by decide))).trans x268701
                                  have wf268779 : lb_W f268779 (32) (32) (2000) := lb_Wst hf268779 wf268775 (by omega) (lb_Mod0 (by omega) (by omega)) qu268772
                                  obtain ⟨z268790, hz268790⟩ : ∃ z : Int32, z = g268691 + Int32.ofInt 1 := ⟨_, rfl⟩
                                  have ez268790 : z268790.toInt = g268691.toInt + 1 := gI_inc hz268790 (by decide) bg268691' (by decide) (by decide)
                                  have bz268790 : gB z268790 1 32 := ⟨by omega, by omega⟩
                                  refine G_iinc (L' := [(6, .int z268790), (3, .int 1), (5, .ref q267825), (4, .int g267786), (0, .ref q217945), (1, .ref q217946), (2, .int p217947)]) z268790 1 dr_cX17_findLive_186 rfl hz268790.symm (Nat.le_of_ble_eq_true rfl) rfl ?_
                                  refine G_goto 131 dr_cX17_findLive_189 (by decide +kernel) ?_
                                  have hT268791 : RS D I P217943 F268776 γ el := RS_set hT268694 n268778 ht268767 (by decide) ⟨f268779, he268787, wf268779⟩
                                  refine G_lv (L' := [(6, .int z268790), (5, .ref q267825), (4, .int g267786), (3, .int 1), (0, .ref q217945), (1, .ref q217946), (2, .int p217947)]) [0, 2, 3, 1, 4, 5, 6] rfl ?_
                                  exact ih131_268701 F268776 z268790 1 (gB_w bz268790 (by decide) (by decide)) (gB_w (gBl (show Int32.toInt 1 = 1 by decide)) (by decide) (by decide)) hT268791 hs268788 (fun i hi hne => (n268778 _ (by rw [hx268768]; exact RS_lne hT268791 ht268736 hi (by omega) (by omega))).trans (x268696 i hi hne)) (fun k hk => by rw [n268778 (γ 9 2) (rn_ty ht268738 ht268767 (by decide))]; exact x268697 k hk) (fun k hk => by unfold lvS; rw [← hx268768, cL_of he268787]; exact cp_st hu268772 hf268779 bg268691'.1 ez268790 (fun k hk => by have q := x268698 k hk; unfold lvS at q; rw [← hx268768, cL_of he268774] at q; exact q) (fun k hk => by have q := x268697 k hk; rw [cL_of he268770] at q; exact q) k hk) (by have gz : (g268691.toNatClampNeg : Int) = g268691.toInt := g_nn bg268691'.1; have hU := lvT_u (γ := γ) (F := F268693) (i := g267786.toInt.toNat) (z := g268691.toNatClampNeg) (by omega) (cl32 bg268691'.1 (by omega)) (fun i hi hne => n268778 _ (by rw [hx268768]; exact RS_lne hT268791 ht268736 hi (by omega) hne)) (by rw [← hx268768]; exact cL_of he268774) (by rw [← hx268768]; exact cL_of he268787) hf268779; have hS := rpop_sub (lv_w (f := f268775) (g := f268771) (A := trS γ el F217944 (decide (p217947.toInt = 1)) q267825 (lvM γ F267788) (γ 2 (γ 14 q267825))) (z := g268691.toNatClampNeg) (cl32 bg268691'.1 (by omega)) (fun k' h1 h2 h3 => by have q := x268698 k' h1; unfold lvS at q; rw [← hx268768, cL_of he268774, if_neg (by omega)] at q; rw [q] at h3; rw [x268700]; exact x267791 _ (by omega) k' ((lvM_e (by omega) h1).trans (by unfold lvS; rw [← hx268768]; exact h3))) (fun k hk => by have q := x268697 k hk; rw [cL_of he268770] at q; exact q)); rw [← hu268772] at hS; have q := x268699; have qb0 : Int32.toInt 0 = 0 := (by decide); have qb1 : Int32.toInt 1 = 1 := (by decide); omega) x268700 kp268789 (by have qa0 : Int32.toInt 1 = 1 := (by decide); omega)
                                · have r268792 : g268692.toInt = 0 := gj_eq hc268713 (show Int32.toInt 0 = 0 by decide)
                                  have bg268692' : gB g268692 0 0 := ⟨by omega, by omega⟩
                                  refine G_aload_n 4 dr_cX17_findLive_142 rfl ?_
                                  have hm268793 : q217945 ∈ P217943 := RS_m hT268694 htq217945 (by decide)
                                  obtain ⟨q268795, q268796, p268797, p268798, p268799, p268800, p268801, p268802, p268803, p268804, p268805, p268806, p268807, p268808, p268809, p268810, p268811, he268794, hB268838, ht268812, ht268813, ht268814, ht268815, ht268816, ht268817, ht268818, ht268819, ht268820, ht268821, ht268822, ht268823, ht268824, ht268825, ht268826, ht268827, ht268828, ht268829, ht268830, ht268831, ht268832, ht268833, ht268834, ht268835, hB268839⟩ := show rk_10 γ (F268693 q217945) from RS_o hT268694 htq217945
                                  refine Gp_get 0 hm268793 he268794 dr_cX17_findLive_143 (gk_X17 D I) (Nat.le_of_ble_eq_true rfl) wr_7_74 rfl ?_
                                  refine G_iload 2 dr_cX17_findLive_146 rfl ?_
                                  have hm268840 : (γ 9 0) ∈ P217943 := RS_m hT268694 ht268814 (by decide)
                                  obtain ⟨f268842, he268841, hg268843⟩ := show rk_12 I γ (F268693 (γ 9 0)) from RS_o hT268694 ht268814
                                  obtain ⟨q268844, hx268846⟩ : ∃ x, x = γ 10 g267786.toInt.toNat := ⟨_, rfl⟩
                                  have ht268845 : rKd γ q268844 11 := by rw [hx268846]; exact (hg268843 _ (show g267786.toInt.toNat < 40 by omega)).2.1
                                  refine Gp_aald 5 hm268840 he268841 dr_cX17_findLive_148 rfl rfl (gB_inr (by omega) (by omega)) ?_
                                  rw [show f268842 g267786.toNatClampNeg = some q268844 from (hg268843 _ (show g267786.toInt.toNat < 40 by omega)).1.trans (by rw [hx268846])]
                                  change G _ _ _ _ _ _ _ (.ref q268844 :: _) _ _ _
                                  refine G_iload 0 dr_cX17_findLive_149 rfl ?_
                                  have hm268847 : q268844 ∈ P217943 := RS_m hT268694 ht268845 (by decide)
                                  obtain ⟨f268849, he268848, wf268849⟩ := show rk_11 I (F268693 q268844) from RS_o hT268694 ht268845
                                  refine Gp_lald 2 hm268847 he268848 dr_cX17_findLive_151 rfl (gB_in bg268691' (by decide) (by decide)) (G_namL fun u268850 hu268850 => ?_)
                                  have qu268850 : lb_Q u268850 (2000 - 64 * g268691.toInt) := lb_Wld hu268850 wf268849 (by omega) (by omega) (lb_Mod0 (by omega) (by omega))
                                  refine G_aload_n 4 dr_cX17_findLive_152 rfl ?_
                                  refine Gp_get 2 hm268793 he268794 dr_cX17_findLive_153 (gk_X17 D I) (Nat.le_of_ble_eq_true rfl) wr_7_76 rfl ?_
                                  refine G_iload 0 dr_cX17_findLive_156 rfl ?_
                                  have hm268851 : (γ 9 2) ∈ P217943 := RS_m hT268694 ht268816 (by decide)
                                  obtain ⟨f268853, he268852, wf268853⟩ := show rk_35 I (F268693 (γ 9 2)) from RS_o hT268694 ht268816
                                  refine Gp_lald 2 hm268851 he268852 dr_cX17_findLive_158 rfl (gB_in bg268691' (by decide) (by decide)) (G_namL fun u268854 hu268854 => ?_)
                                  have qu268854 : lb_Q u268854 (2000 - 64 * g268691.toInt) := lb_Wld hu268854 wf268853 (by omega) (by omega) (lb_Mod0 (by omega) (by omega))
                                  refine G_lcmp dr_cX17_findLive_159 (G_nam fun z268855 hz268855 => ?_)
                                  have bz268855 : gB z268855 (-1) 1 := gB_cmp hz268855
                                  refine G_if_eq 167 dr_cX17_findLive_160 (by decide +kernel) (fun hc268856 => ?_) (fun hc268856 => ?_)
                                  · have r268857 : z268855.toInt = 0 := gj_eq hc268856 (show Int32.toInt 0 = 0 by decide)
                                    have bz268855' : gB z268855 0 0 := ⟨by omega, by omega⟩
                                    have lhc268856 := gC_cmpE hz268855 hc268856
                                    refine G_iconst 0 dr_cX17_findLive_167 (by decide +kernel) ?_
                                    refine G_istore_n (L' := [(3, .int 0), (6, .int g268691), (5, .ref q267825), (4, .int g267786), (0, .ref q217945), (1, .ref q217946), (2, .int p217947)]) dr_cX17_findLive_168 (Nat.le_of_ble_eq_true rfl) rfl ?_
                                    refine G_aload_n 4 dr_cX17_findLive_169 rfl ?_
                                    refine Gp_get 0 hm268793 he268794 dr_cX17_findLive_170 (gk_X17 D I) (Nat.le_of_ble_eq_true rfl) wr_7_74 rfl ?_
                                    refine G_iload 3 dr_cX17_findLive_173 rfl ?_
                                    refine Gp_aald 5 hm268840 he268841 dr_cX17_findLive_175 rfl rfl (gB_inr (by omega) (by omega)) ?_
                                    rw [show f268842 g267786.toNatClampNeg = some q268844 from (hg268843 _ (show g267786.toInt.toNat < 40 by omega)).1.trans (by rw [hx268846])]
                                    change G _ _ _ _ _ _ _ (.ref q268844 :: _) _ _ _
                                    refine G_iload 1 dr_cX17_findLive_176 rfl ?_
                                    refine G_aload_n 4 dr_cX17_findLive_178 rfl ?_
                                    refine Gp_get 2 hm268793 he268794 dr_cX17_findLive_179 (gk_X17 D I) (Nat.le_of_ble_eq_true rfl) wr_7_76 rfl ?_
                                    refine G_iload 1 dr_cX17_findLive_182 rfl ?_
                                    refine Gp_lald 2 hm268851 he268852 dr_cX17_findLive_184 rfl (gB_in bg268691' (by decide) (by decide)) (G_eql (y := u268854) hu268854.symm ?_)
                                    refine Gp_last 2 hm268847 he268848 dr_cX17_findLive_185 rfl (gB_in bg268691' (by decide) (by decide)) (fun F268858 e268859 n268860 => ?_)
                                    obtain ⟨f268861, hf268861⟩ : ∃ z, z = vp_updL f268849 g268691.toNatClampNeg u268854 := ⟨_, rfl⟩
                                    rw [← hf268861] at e268859
                                    have he268862 : F268858 q217946 = .inr (18, [.ref q264074, .ref q264075, .int p264076, .int p264077]) := (n268860 q217946 (rn_oa he268704 he268848)).trans he268704
                                    have he268863 : F268858 q264074 = .inr (4, [.int p267806, .ref q267808, .int p267807]) := (n268860 q264074 (rn_oa he268705 he268848)).trans he268705
                                    have he268864 : F268858 q267808 = .inl (I (.object "java/lang/Object"), n267822, .inr (.inr (.inr (.inr f267823)))) := (n268860 q267808 (rn_ref_long he268706 he268848)).trans he268706
                                    have he268865 : F268858 q267825 = .inr (17, [.ref q267834, .ref q267835, .int p267836, .int p267837]) := (n268860 q267825 (rn_oa he268707 he268848)).trans he268707
                                    have he268866 : F268858 q217945 = .inr (22, [.ref (γ 9 0), .ref (γ 9 1), .ref (γ 9 2), .ref (γ 9 3), .ref (γ 9 4), .ref (γ 9 5), .ref (γ 9 6), .ref (γ 9 7), .ref (γ 9 8), .int p268797, .int p268798, .int p268799, .int p268800, .int p268801, .int p268802, .ref (γ 9 15), .ref (γ 9 16), .ref (γ 9 17), .ref (γ 9 18), .ref (γ 9 19), .ref (γ 9 20), .ref (γ 9 21), .ref (γ 9 22), .int p268803, .int p268804, .int p268805, .int p268806, .int p268807, .ref q268795, .ref (γ 9 29), .int p268808, .ref (γ 9 31), .int p268809, .int p268810, .int p268811, .ref q268796]) := (n268860 q217945 (rn_oa he268794 he268848)).trans he268794
                                    have he268867 : F268858 (γ 9 0) = .inl (I (.array .long), 40, .inr (.inr (.inr (.inr f268842)))) := (n268860 (γ 9 0) (rn_ref_long he268841 he268848)).trans he268841
                                    have he268868 : F268858 (γ 9 2) = .inl (I .long, 32, .inr (.inl f268853)) := (n268860 (γ 9 2) (rn_ty ht268816 ht268845 (by decide))).trans he268852
                                    have he268869 : F268858 q268844 = .inl (I .long, 32, .inr (.inl f268861)) := e268859
                                    have hs268870 : rStr γ [] F217944 F268858 := rStr_put hs268695 n268860 ht268845 (by decide)
                                    have kp268871 : F268858 q217945 = F217944 q217945 := (n268860 q217945 (rn_ty htq217945 ht268845 (by decide))).trans x268701
                                    have wf268861 : lb_W f268861 (32) (32) (2000) := lb_Wst hf268861 wf268849 (by omega) (lb_Mod0 (by omega) (by omega)) qu268854
                                    obtain ⟨z268872, hz268872⟩ : ∃ z : Int32, z = g268691 + Int32.ofInt 1 := ⟨_, rfl⟩
                                    have ez268872 : z268872.toInt = g268691.toInt + 1 := gI_inc hz268872 (by decide) bg268691' (by decide) (by decide)
                                    have bz268872 : gB z268872 1 32 := ⟨by omega, by omega⟩
                                    refine G_iinc (L' := [(6, .int z268872), (3, .int 0), (5, .ref q267825), (4, .int g267786), (0, .ref q217945), (1, .ref q217946), (2, .int p217947)]) z268872 1 dr_cX17_findLive_186 rfl hz268872.symm (Nat.le_of_ble_eq_true rfl) rfl ?_
                                    refine G_goto 131 dr_cX17_findLive_189 (by decide +kernel) ?_
                                    have hT268873 : RS D I P217943 F268858 γ el := RS_set hT268694 n268860 ht268845 (by decide) ⟨f268861, he268869, wf268861⟩
                                    refine G_lv (L' := [(6, .int z268872), (5, .ref q267825), (4, .int g267786), (3, .int 0), (0, .ref q217945), (1, .ref q217946), (2, .int p217947)]) [0, 2, 3, 1, 4, 5, 6] rfl ?_
                                    exact ih131_268701 F268858 z268872 0 (gB_w bz268872 (by decide) (by decide)) (gB_w (gBl (show Int32.toInt 0 = 0 by decide)) (by decide) (by decide)) hT268873 hs268870 (fun i hi hne => (n268860 _ (by rw [hx268846]; exact RS_lne hT268873 ht268814 hi (by omega) (by omega))).trans (x268696 i hi hne)) (fun k hk => by rw [n268860 (γ 9 2) (rn_ty ht268816 ht268845 (by decide))]; exact x268697 k hk) (fun k hk => by unfold lvS; rw [← hx268846, cL_of he268869]; exact cp_st hu268854 hf268861 bg268691'.1 ez268872 (fun k hk => by have q := x268698 k hk; unfold lvS at q; rw [← hx268846, cL_of he268848] at q; exact q) (fun k hk => by have q := x268697 k hk; rw [cL_of he268852] at q; exact q) k hk) (by have gz : (g268691.toNatClampNeg : Int) = g268691.toInt := g_nn bg268691'.1; have hU := lvT_u (γ := γ) (F := F268693) (i := g267786.toInt.toNat) (z := g268691.toNatClampNeg) (by omega) (cl32 bg268691'.1 (by omega)) (fun i hi hne => n268860 _ (by rw [hx268846]; exact RS_lne hT268873 ht268814 hi (by omega) hne)) (by rw [← hx268846]; exact cL_of he268848) (by rw [← hx268846]; exact cL_of he268869) hf268861; have hS := rpop_sub (lv_w (f := f268849) (g := f268853) (A := trS γ el F217944 (decide (p217947.toInt = 1)) q267825 (lvM γ F267788) (γ 2 (γ 14 q267825))) (z := g268691.toNatClampNeg) (cl32 bg268691'.1 (by omega)) (fun k' h1 h2 h3 => by have q := x268698 k' h1; unfold lvS at q; rw [← hx268846, cL_of he268848, if_neg (by omega)] at q; rw [q] at h3; rw [x268700]; exact x267791 _ (by omega) k' ((lvM_e (by omega) h1).trans (by unfold lvS; rw [← hx268846]; exact h3))) (fun k hk => by have q := x268697 k hk; rw [cL_of he268852] at q; exact q)); rw [← hu268854] at hS; have q := x268699; have qb0 : Int32.toInt 0 = 0 := (by decide); have qb1 : Int32.toInt 1 = 1 := (by decide); omega) x268700 kp268871 (by have qa0 : Int32.toInt 0 = 0 := (by decide); omega)
                                  · have r268874 : z268855.toInt ≠ 0 := gj_neq hc268856 (show Int32.toInt 0 = 0 by decide)
                                    have lhc268856 := gC_cmpN hz268855 hc268856
                                    refine G_iconst 1 dr_cX17_findLive_163 (by decide +kernel) ?_
                                    refine G_goto 168 dr_cX17_findLive_164 (by decide +kernel) ?_
                                    refine G_istore_n (L' := [(3, .int 1), (6, .int g268691), (5, .ref q267825), (4, .int g267786), (0, .ref q217945), (1, .ref q217946), (2, .int p217947)]) dr_cX17_findLive_168 (Nat.le_of_ble_eq_true rfl) rfl ?_
                                    refine G_aload_n 4 dr_cX17_findLive_169 rfl ?_
                                    refine Gp_get 0 hm268793 he268794 dr_cX17_findLive_170 (gk_X17 D I) (Nat.le_of_ble_eq_true rfl) wr_7_74 rfl ?_
                                    refine G_iload 3 dr_cX17_findLive_173 rfl ?_
                                    refine Gp_aald 5 hm268840 he268841 dr_cX17_findLive_175 rfl rfl (gB_inr (by omega) (by omega)) ?_
                                    rw [show f268842 g267786.toNatClampNeg = some q268844 from (hg268843 _ (show g267786.toInt.toNat < 40 by omega)).1.trans (by rw [hx268846])]
                                    change G _ _ _ _ _ _ _ (.ref q268844 :: _) _ _ _
                                    refine G_iload 1 dr_cX17_findLive_176 rfl ?_
                                    refine G_aload_n 4 dr_cX17_findLive_178 rfl ?_
                                    refine Gp_get 2 hm268793 he268794 dr_cX17_findLive_179 (gk_X17 D I) (Nat.le_of_ble_eq_true rfl) wr_7_76 rfl ?_
                                    refine G_iload 1 dr_cX17_findLive_182 rfl ?_
                                    refine Gp_lald 2 hm268851 he268852 dr_cX17_findLive_184 rfl (gB_in bg268691' (by decide) (by decide)) (G_eql (y := u268854) hu268854.symm ?_)
                                    refine Gp_last 2 hm268847 he268848 dr_cX17_findLive_185 rfl (gB_in bg268691' (by decide) (by decide)) (fun F268875 e268876 n268877 => ?_)
                                    obtain ⟨f268878, hf268878⟩ : ∃ z, z = vp_updL f268849 g268691.toNatClampNeg u268854 := ⟨_, rfl⟩
                                    rw [← hf268878] at e268876
                                    have he268879 : F268875 q217946 = .inr (18, [.ref q264074, .ref q264075, .int p264076, .int p264077]) := (n268877 q217946 (rn_oa he268704 he268848)).trans he268704
                                    have he268880 : F268875 q264074 = .inr (4, [.int p267806, .ref q267808, .int p267807]) := (n268877 q264074 (rn_oa he268705 he268848)).trans he268705
                                    have he268881 : F268875 q267808 = .inl (I (.object "java/lang/Object"), n267822, .inr (.inr (.inr (.inr f267823)))) := (n268877 q267808 (rn_ref_long he268706 he268848)).trans he268706
                                    have he268882 : F268875 q267825 = .inr (17, [.ref q267834, .ref q267835, .int p267836, .int p267837]) := (n268877 q267825 (rn_oa he268707 he268848)).trans he268707
                                    have he268883 : F268875 q217945 = .inr (22, [.ref (γ 9 0), .ref (γ 9 1), .ref (γ 9 2), .ref (γ 9 3), .ref (γ 9 4), .ref (γ 9 5), .ref (γ 9 6), .ref (γ 9 7), .ref (γ 9 8), .int p268797, .int p268798, .int p268799, .int p268800, .int p268801, .int p268802, .ref (γ 9 15), .ref (γ 9 16), .ref (γ 9 17), .ref (γ 9 18), .ref (γ 9 19), .ref (γ 9 20), .ref (γ 9 21), .ref (γ 9 22), .int p268803, .int p268804, .int p268805, .int p268806, .int p268807, .ref q268795, .ref (γ 9 29), .int p268808, .ref (γ 9 31), .int p268809, .int p268810, .int p268811, .ref q268796]) := (n268877 q217945 (rn_oa he268794 he268848)).trans he268794
                                    have he268884 : F268875 (γ 9 0) = .inl (I (.array .long), 40, .inr (.inr (.inr (.inr f268842)))) := (n268877 (γ 9 0) (rn_ref_long he268841 he268848)).trans he268841
                                    have he268885 : F268875 (γ 9 2) = .inl (I .long, 32, .inr (.inl f268853)) := (n268877 (γ 9 2) (rn_ty ht268816 ht268845 (by decide))).trans he268852
                                    have he268886 : F268875 q268844 = .inl (I .long, 32, .inr (.inl f268878)) := e268876
                                    have hs268887 : rStr γ [] F217944 F268875 := rStr_put hs268695 n268877 ht268845 (by decide)
                                    have kp268888 : F268875 q217945 = F217944 q217945 := (n268877 q217945 (rn_ty htq217945 ht268845 (by decide))).trans x268701
                                    have wf268878 : lb_W f268878 (32) (32) (2000) := lb_Wst hf268878 wf268849 (by omega) (lb_Mod0 (by omega) (by omega)) qu268854
                                    obtain ⟨z268889, hz268889⟩ : ∃ z : Int32, z = g268691 + Int32.ofInt 1 := ⟨_, rfl⟩
                                    have ez268889 : z268889.toInt = g268691.toInt + 1 := gI_inc hz268889 (by decide) bg268691' (by decide) (by decide)
                                    have bz268889 : gB z268889 1 32 := ⟨by omega, by omega⟩
                                    refine G_iinc (L' := [(6, .int z268889), (3, .int 1), (5, .ref q267825), (4, .int g267786), (0, .ref q217945), (1, .ref q217946), (2, .int p217947)]) z268889 1 dr_cX17_findLive_186 rfl hz268889.symm (Nat.le_of_ble_eq_true rfl) rfl ?_
                                    refine G_goto 131 dr_cX17_findLive_189 (by decide +kernel) ?_
                                    have hT268890 : RS D I P217943 F268875 γ el := RS_set hT268694 n268877 ht268845 (by decide) ⟨f268878, he268886, wf268878⟩
                                    refine G_lv (L' := [(6, .int z268889), (5, .ref q267825), (4, .int g267786), (3, .int 1), (0, .ref q217945), (1, .ref q217946), (2, .int p217947)]) [0, 2, 3, 1, 4, 5, 6] rfl ?_
                                    exact ih131_268701 F268875 z268889 1 (gB_w bz268889 (by decide) (by decide)) (gB_w (gBl (show Int32.toInt 1 = 1 by decide)) (by decide) (by decide)) hT268890 hs268887 (fun i hi hne => (n268877 _ (by rw [hx268846]; exact RS_lne hT268890 ht268814 hi (by omega) (by omega))).trans (x268696 i hi hne)) (fun k hk => by rw [n268877 (γ 9 2) (rn_ty ht268816 ht268845 (by decide))]; exact x268697 k hk) (fun k hk => by unfold lvS; rw [← hx268846, cL_of he268886]; exact cp_st hu268854 hf268878 bg268691'.1 ez268889 (fun k hk => by have q := x268698 k hk; unfold lvS at q; rw [← hx268846, cL_of he268848] at q; exact q) (fun k hk => by have q := x268697 k hk; rw [cL_of he268852] at q; exact q) k hk) (by have gz : (g268691.toNatClampNeg : Int) = g268691.toInt := g_nn bg268691'.1; have hU := lvT_u (γ := γ) (F := F268693) (i := g267786.toInt.toNat) (z := g268691.toNatClampNeg) (by omega) (cl32 bg268691'.1 (by omega)) (fun i hi hne => n268877 _ (by rw [hx268846]; exact RS_lne hT268890 ht268814 hi (by omega) hne)) (by rw [← hx268846]; exact cL_of he268848) (by rw [← hx268846]; exact cL_of he268886) hf268878; have hS := rpop_slt (lv_w (f := f268849) (g := f268853) (A := trS γ el F217944 (decide (p217947.toInt = 1)) q267825 (lvM γ F267788) (γ 2 (γ 14 q267825))) (z := g268691.toNatClampNeg) (cl32 bg268691'.1 (by omega)) (fun k' h1 h2 h3 => by have q := x268698 k' h1; unfold lvS at q; rw [← hx268846, cL_of he268848, if_neg (by omega)] at q; rw [q] at h3; rw [x268700]; exact x267791 _ (by omega) k' ((lvM_e (by omega) h1).trans (by unfold lvS; rw [← hx268846]; exact h3))) (fun k hk => by have q := x268697 k hk; rw [cL_of he268852] at q; exact q)) (fun e => lc_ne hz268855 (by omega) (hu268850.trans (e.trans hu268854.symm))); rw [← hu268854] at hS; have q := x268699; have qb0 : Int32.toInt 0 = 0 := (by decide); have qb1 : Int32.toInt 1 = 1 := (by decide); omega) x268700 kp268888 (by have qa0 : Int32.toInt 1 = 1 := (by decide); omega)
                          exact hlp131_268701 (((33 : Int) - 0).toNat + 1) F268480 0 g267787 (gB_w (gBl (show Int32.toInt 0 = 0 by decide)) (by decide) (by decide)) bg267787 hT268481 hs268482 (fun i hi _ => x268483 i hi) (fun k hk => by have q := x268484 k hk; rw [show ((((γ 2 (γ 14 q267825) : Nat) : Int) - 1 - g268479.toInt).toNat) = γ 2 (γ 14 q267825) by omega] at q; exact q) (fun k hk => by rw [if_neg (by have qa : Int32.toInt 0 = 0 := (by decide); omega)]; exact lvS_l x268483 (by omega)) (by have q := lvT_l x268483; have q2 := x267792; omega) x268486 x268487 (Nat.lt_succ_self _)
                        · have r268891 : 0 ≤ g268479.toInt := gj_nlt hc268496 (show Int32.toInt 0 = 0 by decide)
                          have bg268479' : gB g268479 0 999999 := ⟨by omega, by omega⟩
                          refine G_aload_n 4 dr_cX17_findLive_104 rfl ?_
                          refine G_aload 1 dr_cX17_findLive_105 rfl ?_
                          refine Gp_get 0 hm267832 he268493 dr_cX17_findLive_107 (gk_X12 D I) (Nat.le_of_ble_eq_true rfl) wr_9_220 rfl ?_
                          refine G_iload 0 dr_cX17_findLive_110 rfl ?_
                          have hm268892 : q267834 ∈ P217943 := RS_m hT268481 ht267838 (by decide)
                          obtain ⟨⟨p268894, p268895, q268896, he268893, r268897, r268898, r268899, r268901⟩, r268900⟩ := show rk_3 D I γ el F268480 q267834 from RS_o hT268481 ht267838
                          have bp268894 := gB_any p268894
                          have bp268895 : gB p268895 0 1000000 := ⟨by omega, by omega⟩
                          obtain ⟨r268902, r268903, n268910, f268911, r268904, r268905, r268906, r268907, r268908, r268909⟩ := rLC_n r268899 (by omega)
                          have hm268912 : q268896 ∈ P217943 := RS_m hT268481 r268902 (by decide)
                          obtain ⟨q268913, hx268914⟩ : ∃ x, x = el q267834 g268479.toInt.toNat := ⟨_, rfl⟩
                          have hx268915 : f268911 g268479.toNatClampNeg = some q268913 := (r268908 _ (show g268479.toInt.toNat < γ 2 q267834 by omega)).trans (by rw [hx268914])
                          have ht268916 : rKd γ q268913 1 := by rw [hx268914]; exact (r268900 _ (show g268479.toInt.toNat < γ 2 q267834 by omega)).1
                          have ht268917 : rFm γ q268913 q267834 := by rw [hx268914]; exact (r268900 _ (show g268479.toInt.toNat < γ 2 q267834 by omega)).2.1
                          refine Gw_callV (As := [.int g268479]) (gV_ok D I) (cp_22_ArrayList_get l hl0 D I P217943 F268480 q267834 q268896 g268479 p268894 p268895 f268911 n268910 q268913 hm268892 hm268912 he268893 r268904 (gB_w bg268479' (by decide) (by decide)) (gB_w bp268895 (by decide) (by decide)) (by omega) (by omega) (by assumption) (by omega)) dr_cX17_findLive_112 ⟨wr_10_201, wr_1_18, wr_10_65, by decide, rfl, (Nat.le_of_ble_eq_true rfl), (Nat.le_of_ble_eq_true rfl)⟩ wr_10_63 wr_10_64 hm268892 he268893 rfl (show 0 + 0 ≤ 0 by first | omega | decide) (show 0 + 0 ≤ 0 by first | omega | decide) (Nat.le_of_ble_eq_true rfl) (fun r268921 w268922 dc268918 ds268919 hp268920 => ?_) (fun _ _ _ _ _ z => z.elim)
                          obtain ⟨rfl, rfl, hdc, hds⟩ := hp268920
                          change G _ _ _ _ _ _ _ (.ref q268913 :: _) _ _ _
                          refine G_widen (cs' := 0) (sl' := 0) (by omega) (by omega) ?_
                          have hm268923 : q268913 ∈ P217943 := RS_m hT268481 ht268916 (by decide)
                          obtain ⟨p268925, p268926, p268927, p268928, p268929, p268930, p268931, he268924, bp268925, bp268926, bp268929, bp268930, bp268931, r268932, r268933, r268934, r268935⟩ := show rk_1 γ q268913 (F268480 q268913) from RS_o hT268481 ht268916
                          have bp268927 := gB_any p268927
                          have bp268928 := gB_any p268928
                          refine Gp_cast hm268923 he268924 rfl dr_cX17_findLive_115 wr_10_202 (gr_cast 1 rfl) ?_
                          refine G_iload_n 6 dr_cX17_findLive_118 rfl ?_
                          have fl268936 : F268480 q268913 = F217944 (el (γ 14 q267825) (γ 2 (γ 14 q267825) - 1 - ((((γ 2 (γ 14 q267825) : Nat) : Int) - 1 - g268479.toInt).toNat))) := by rw [show γ 2 (γ 14 q267825) - 1 - ((((γ 2 (γ 14 q267825) : Nat) : Int) - 1 - g268479.toInt).toNat) = g268479.toInt.toNat by omega, ht267844.1, ← hx268914]; exact hs268482 q268913 (rT0 ht268916 (by decide)) (rT1 ht268916 (by decide)) (rT2 ht268916 (by decide))
                          have hm268942 : q217945 ∈ P217943 := RS_m hT268481 htq217945 (by decide)
                          obtain ⟨q268944, q268945, p268946, p268947, p268948, p268949, p268950, p268951, p268952, p268953, p268954, p268955, p268956, p268957, p268958, p268959, p268960, he268943, hB268987, ht268961, ht268962, ht268963, ht268964, ht268965, ht268966, ht268967, ht268968, ht268969, ht268970, ht268971, ht268972, ht268973, ht268974, ht268975, ht268976, ht268977, ht268978, ht268979, ht268980, ht268981, ht268982, ht268983, ht268984, hB268988⟩ := show rk_10 γ (F268480 q217945) from RS_o hT268481 htq217945
                          refine Gw_callV (As := [.ref q268913, .int p217947]) (gV_ok D I) (ct_214613_SpillForgeModel_back l hl0 D I γ el P217943 F268480 q217945 q268913 p217947 hT268481 htq217945 ht268916 bp217947) dr_cX17_findLive_119 ⟨wr_10_174, wr_1_14, wr_10_177, by decide, rfl, (Nat.le_of_ble_eq_true rfl), (Nat.le_of_ble_eq_true rfl)⟩ wr_10_176 wr_p_96 hm268942 he268943 rfl (show 0 + 0 ≤ 0 by first | omega | decide) (show 0 + 0 ≤ 0 by first | omega | decide) (Nat.le_of_ble_eq_true rfl) (fun r268940 w268941 dc268937 ds268938 hp268939 => ?_) (fun _ _ _ _ _ z => z.elim)
                          obtain ⟨F268992, rfl, rfl, hT268993, hs268994, hdc, hds, x268989, x268990, x268991⟩ := hp268939
                          have he268995 : F268992 q217946 = .inr (18, [.ref q264074, .ref q264075, .int p264076, .int p264077]) := (hs268994 q217946 (rT0 htq217946 (by decide)) (rT1 htq217946 (by decide)) (rT2 htq217946 (by decide))).trans he268490
                          have he268996 : F268992 q264074 = .inr (4, [.int p267806, .ref q267808, .int p267807]) := (hs268994 q264074 (rT0 ht264078 (by decide)) (rT1 ht264078 (by decide)) (rT2 ht264078 (by decide))).trans he268491
                          have he268997 : F268992 q267808 = .inl (I (.object "java/lang/Object"), n267822, .inr (.inr (.inr (.inr f267823)))) := (hs268994 q267808 (rT0 r267814 (by decide)) (rT1 r267814 (by decide)) (rT2 r267814 (by decide))).trans he268492
                          have he268998 : F268992 q267825 = .inr (17, [.ref q267834, .ref q267835, .int p267836, .int p267837]) := (hs268994 q267825 (rT0 ht267830 (by decide)) (rT1 ht267830 (by decide)) (rT2 ht267830 (by decide))).trans he268493
                          have he268999 : F268992 q267834 = .inr (4, [.int p268894, .ref q268896, .int p268895]) := (hs268994 q267834 (rT0 ht267838 (by decide)) (rT1 ht267838 (by decide)) (rT2 ht267838 (by decide))).trans he268893
                          have he269000 : F268992 q268896 = .inl (I (.object "java/lang/Object"), n268910, .inr (.inr (.inr (.inr f268911)))) := (hs268994 q268896 (rT0 r268902 (by decide)) (rT1 r268902 (by decide)) (rT2 r268902 (by decide))).trans r268904
                          have he269001 : F268992 q268913 = .inr (20, [.int p268925, .int p268926, .int p268927, .int p268928, .int p268929, .int p268930, .int p268931]) := (hs268994 q268913 (rT0 ht268916 (by decide)) (rT1 ht268916 (by decide)) (rT2 ht268916 (by decide))).trans he268924
                          have hs269002 : rStr γ [] F217944 F268992 := rStr_tr hs268482 hs268994
                          have kp269003 : F268992 q217945 = F217944 q217945 := (x268991).trans x268487
                          have he269004 : F268992 q217945 = .inr (22, [.ref (γ 9 0), .ref (γ 9 1), .ref (γ 9 2), .ref (γ 9 3), .ref (γ 9 4), .ref (γ 9 5), .ref (γ 9 6), .ref (γ 9 7), .ref (γ 9 8), .int p268946, .int p268947, .int p268948, .int p268949, .int p268950, .int p268951, .ref (γ 9 15), .ref (γ 9 16), .ref (γ 9 17), .ref (γ 9 18), .ref (γ 9 19), .ref (γ 9 20), .ref (γ 9 21), .ref (γ 9 22), .int p268952, .int p268953, .int p268954, .int p268955, .int p268956, .ref q268944, .ref (γ 9 29), .int p268957, .ref (γ 9 31), .int p268958, .int p268959, .int p268960, .ref q268945]) := (x268991).trans he268943
                          change G _ _ _ _ _ _ _ _ _ _ _
                          refine G_widen (cs' := 0) (sl' := 0) (by omega) (by omega) ?_
                          obtain ⟨z269005, hz269005⟩ : ∃ z : Int32, z = g268479 + Int32.ofInt (-1) := ⟨_, rfl⟩
                          have ez269005 : z269005.toInt = g268479.toInt + (-1) := gI_inc hz269005 (by decide) bg268479' (by decide) (by decide)
                          have bz269005 : gB z269005 (-1) 999998 := ⟨by omega, by omega⟩
                          refine G_iinc (L' := [(6, .int z269005), (5, .ref q267825), (4, .int g267786), (3, .int g267787), (0, .ref q217945), (1, .ref q217946), (2, .int p217947)]) z269005 0 dr_cX17_findLive_122 rfl hz269005.symm (Nat.le_of_ble_eq_true rfl) rfl ?_
                          refine G_goto 99 dr_cX17_findLive_125 (by decide +kernel) ?_
                          exact ih99_268487 F268992 z269005 (gB_w bz269005 (by decide) (by decide)) hT268993 hs269002 (rLv_tr x268483 x268990) (by rw [show ((((γ 2 (γ 14 q267825) : Nat) : Int) - 1 - z269005.toInt).toNat) = ((((γ 2 (γ 14 q267825) : Nat) : Int) - 1 - g268479.toInt).toNat) + 1 by omega]; exact tr_b x268484 fl268936 x268989) (by omega) x268486 kp269003 (by omega)
                    exact hlp99_268487 (((z267957.toInt : Int) - (-2)).toNat + 1) F267932 z267957 bz267957 hT267933 hs267939 (rLv_tr x267911 x267930) (by rw [show ((((γ 2 (γ 14 q267825) : Nat) : Int) - 1 - z267957.toInt).toNat) = 0 by omega]; exact tr_0 (fun k hk => by have q := x267910 k hk; rw [ht267844.2.1, fl267853, fl267852] at q; rw [q, ht267844.2.1]; exact bhV_c ⟨by omega, by omega⟩ ⟨by omega, by omega⟩ (fun i hi => (lvM_e hi hk).symm)) fl267923 x267929) (by omega) fl267857 kp267940 (Nat.lt_succ_self _)
              exact hlp58_267794 (((z266570.toInt : Int) - (-2)).toNat + 1) F266553 z266570 0 bz266570 (gB_w (gBl (show Int32.toInt 0 = 0 by decide)) (by decide) (by decide)) hT266554 hs266555 x266556 (by have qa : Int32.toInt 0 = 0 := (by decide); rw [qa]; exact Nat.le_refl _) (by have qa0 : Int32.toInt 0 = 0 := (by decide); omega) x266557 (Nat.lt_succ_self _)
        exact hlp44_266557 (((81920 - lvT γ F264064) + (1 : Int).toNat) + 1) F264064 1 (gB_w (gBl (show Int32.toInt 1 = 1 by decide)) (by decide) (by decide)) hT264065 hs264066 (rJv_0 (fun i hi j hj => x264067 i (by omega) j hj)) x264068 (Nat.lt_succ_self _)
      · have r269006 : g264063.toInt < p264077.toInt := gC_nle hc264099
        have bg264063' : gB g264063 0 999999 := ⟨by omega, by omega⟩
        have bp264077' : gB p264077 1 1000000 := ⟨by omega, by omega⟩
        refine G_iconst 0 dr_cX17_findLive_10 (by decide +kernel) ?_
        refine G_istore (L' := [(4, .int 0), (3, .int g264063), (0, .ref q217945), (1, .ref q217946), (2, .int p217947)]) dr_cX17_findLive_11 (Nat.le_of_ble_eq_true rfl) rfl ?_
        have hlp13_269093 : ∀ (n13_269093 : Nat) (F269088 : Nat → va_E) (g269087 : Int32), gB g269087 0 32 → RS D I P217943 F269088 γ el → rStr γ [] F217944 F269088 → (∀ i : Nat, (i : Int) < g264063.toInt → ∀ j : Nat, j < 32 → cL (F269088 (γ 10 i)) j = 0) → (∀ j : Nat, (j : Int) < g269087.toInt → cL (F269088 (γ 10 (g264063.toInt : Int).toNat)) j = 0) → (F269088 q217945 = F217944 q217945) → ((33 : Int) - g269087.toInt).toNat < n13_269093 → G (gV D I) l (gRm 4 85 0 0) (gMA (gV D I) (pt_217949_SpillForgeModel_findLive D I γ el P217943 F217944 q217945 q217946 p217947) gNA 0 0) ky_217949_SpillForgeModel_findLive 13 [(4, .int g269087), (3, .int g264063), (0, .ref q217945), (1, .ref q217946), (2, .int p217947)] [] (va_pl P217943 F269088) 0 0 := by
          intro n13_269093
          induction n13_269093 with
          | zero => intro F269088 g269087 bg269087 hT269089 hs269090 x269091 x269092 x269093 hm13_269093; exact absurd hm13_269093 (Nat.not_lt_zero _)
          | succ n13_269093 ih13_269093 =>
            intro F269088 g269087 bg269087 hT269089 hs269090 x269091 x269092 x269093 hm13_269093
            have hs269095 : rStr γ [] F264064 F269088 := fun b h0 hb hw => (hs269090 b h0 hb hw).trans (hs264066 b h0 hb hw).symm
            have he269096 : F269088 q217946 = .inr (18, [.ref q264074, .ref q264075, .int p264076, .int p264077]) := (hs269095 q217946 (rT0 htq217946 (by decide)) (rT1 htq217946 (by decide)) (rT2 htq217946 (by decide))).trans he264073
            have hs269097 : rStr γ [] F217944 F269088 := rStr_tr hs264066 hs269095
            refine G_iload 0 dr_cX17_findLive_13 rfl ?_
            refine G_bipush 32 dr_cX17_findLive_15 (by decide +kernel) ?_
            refine G_icmp_ge 36 dr_cX17_findLive_17 (by decide +kernel) (fun hc269098 => ?_) (fun hc269098 => ?_)
            · have r269099 : 32 ≤ g269087.toInt := gj_leL hc269098 (show Int32.toInt 32 = 32 by decide)
              have bg269087' : gB g269087 32 32 := ⟨by omega, by omega⟩
              obtain ⟨z269100, hz269100⟩ : ∃ z : Int32, z = g264063 + Int32.ofInt 1 := ⟨_, rfl⟩
              have ez269100 : z269100.toInt = g264063.toInt + 1 := gI_inc hz269100 (by decide) bg264063' (by decide) (by decide)
              have bz269100 : gB z269100 1 1000000 := ⟨by omega, by omega⟩
              refine G_iinc (L' := [(3, .int z269100), (4, .int g269087), (0, .ref q217945), (1, .ref q217946), (2, .int p217947)]) z269100 1 dr_cX17_findLive_36 rfl hz269100.symm (Nat.le_of_ble_eq_true rfl) rfl ?_
              refine G_goto 2 dr_cX17_findLive_39 (by decide +kernel) ?_
              refine G_lv (L' := [(3, .int z269100), (0, .ref q217945), (1, .ref q217946), (2, .int p217947)]) [0, 2, 3, 4] rfl ?_
              exact ih2_264068 F269088 z269100 (gB_w bz269100 (by decide) (by decide)) hT269089 hs269090 (zl_s x269091 x269092 (by omega) ez269100 bg264063'.1) x269093 (by omega)
            · have r269101 : g269087.toInt < 32 := gj_nleL hc269098 (show Int32.toInt 32 = 32 by decide)
              have bg269087' : gB g269087 0 31 := ⟨by omega, by omega⟩
              refine G_aload_n 2 dr_cX17_findLive_20 rfl ?_
              have hm269102 : q217945 ∈ P217943 := RS_m hT269089 htq217945 (by decide)
              obtain ⟨q269104, q269105, p269106, p269107, p269108, p269109, p269110, p269111, p269112, p269113, p269114, p269115, p269116, p269117, p269118, p269119, p269120, he269103, hB269147, ht269121, ht269122, ht269123, ht269124, ht269125, ht269126, ht269127, ht269128, ht269129, ht269130, ht269131, ht269132, ht269133, ht269134, ht269135, ht269136, ht269137, ht269138, ht269139, ht269140, ht269141, ht269142, ht269143, ht269144, hB269148⟩ := show rk_10 γ (F269088 q217945) from RS_o hT269089 htq217945
              refine Gp_get 0 hm269102 he269103 dr_cX17_findLive_21 (gk_X17 D I) (Nat.le_of_ble_eq_true rfl) wr_7_74 rfl ?_
              refine G_iload_n 1 dr_cX17_findLive_24 rfl ?_
              have hm269149 : (γ 9 0) ∈ P217943 := RS_m hT269089 ht269123 (by decide)
              obtain ⟨f269151, he269150, hg269152⟩ := show rk_12 I γ (F269088 (γ 9 0)) from RS_o hT269089 ht269123
              obtain ⟨q269153, hx269155⟩ : ∃ x, x = γ 10 g264063.toInt.toNat := ⟨_, rfl⟩
              have ht269154 : rKd γ q269153 11 := by rw [hx269155]; exact (hg269152 _ (show g264063.toInt.toNat < 40 by omega)).2.1
              refine Gp_aald 5 hm269149 he269150 dr_cX17_findLive_25 rfl rfl (gB_inr (by omega) (by omega)) ?_
              rw [show f269151 g264063.toNatClampNeg = some q269153 from (hg269152 _ (show g264063.toInt.toNat < 40 by omega)).1.trans (by rw [hx269155])]
              change G _ _ _ _ _ _ _ (.ref q269153 :: _) _ _ _
              refine G_iload 0 dr_cX17_findLive_26 rfl ?_
              refine G_lconst 0 dr_cX17_findLive_28 rfl ?_
              have hm269156 : q269153 ∈ P217943 := RS_m hT269089 ht269154 (by decide)
              obtain ⟨f269158, he269157, wf269158⟩ := show rk_11 I (F269088 q269153) from RS_o hT269089 ht269154
              refine Gp_last 2 hm269156 he269157 dr_cX17_findLive_29 rfl (gB_in bg269087' (by decide) (by decide)) (fun F269159 e269160 n269161 => ?_)
              obtain ⟨f269162, hf269162⟩ : ∃ z, z = vp_updL f269158 g269087.toNatClampNeg 0 := ⟨_, rfl⟩
              rw [← hf269162] at e269160
              have he269163 : F269159 q217946 = .inr (18, [.ref q264074, .ref q264075, .int p264076, .int p264077]) := (n269161 q217946 (rn_oa he269096 he269157)).trans he269096
              have he269164 : F269159 q217945 = .inr (22, [.ref (γ 9 0), .ref (γ 9 1), .ref (γ 9 2), .ref (γ 9 3), .ref (γ 9 4), .ref (γ 9 5), .ref (γ 9 6), .ref (γ 9 7), .ref (γ 9 8), .int p269106, .int p269107, .int p269108, .int p269109, .int p269110, .int p269111, .ref (γ 9 15), .ref (γ 9 16), .ref (γ 9 17), .ref (γ 9 18), .ref (γ 9 19), .ref (γ 9 20), .ref (γ 9 21), .ref (γ 9 22), .int p269112, .int p269113, .int p269114, .int p269115, .int p269116, .ref q269104, .ref (γ 9 29), .int p269117, .ref (γ 9 31), .int p269118, .int p269119, .int p269120, .ref q269105]) := (n269161 q217945 (rn_oa he269103 he269157)).trans he269103
              have he269165 : F269159 (γ 9 0) = .inl (I (.array .long), 40, .inr (.inr (.inr (.inr f269151)))) := (n269161 (γ 9 0) (rn_ref_long he269150 he269157)).trans he269150
              have he269166 : F269159 q269153 = .inl (I .long, 32, .inr (.inl f269162)) := e269160
              have hs269167 : rStr γ [] F217944 F269159 := rStr_put hs269090 n269161 ht269154 (by decide)
              have kp269168 : F269159 q217945 = F217944 q217945 := (n269161 q217945 (rn_ty htq217945 ht269154 (by decide))).trans x269093
              have wf269162 : lb_W f269162 (32) (32) (2000) := lb_Wst hf269162 wf269158 (by omega) (lb_Mod0 (by omega) (by omega)) lb_Q0
              obtain ⟨z269169, hz269169⟩ : ∃ z : Int32, z = g269087 + Int32.ofInt 1 := ⟨_, rfl⟩
              have ez269169 : z269169.toInt = g269087.toInt + 1 := gI_inc hz269169 (by decide) bg269087' (by decide) (by decide)
              have bz269169 : gB z269169 1 32 := ⟨by omega, by omega⟩
              refine G_iinc (L' := [(4, .int z269169), (3, .int g264063), (0, .ref q217945), (1, .ref q217946), (2, .int p217947)]) z269169 0 dr_cX17_findLive_30 rfl hz269169.symm (Nat.le_of_ble_eq_true rfl) rfl ?_
              refine G_goto 13 dr_cX17_findLive_33 (by decide +kernel) ?_
              have hT269170 : RS D I P217943 F269159 γ el := RS_set hT269089 n269161 ht269154 (by decide) ⟨f269162, he269166, wf269162⟩
              exact ih13_269093 F269159 z269169 (gB_w bz269169 (by decide) (by decide)) hT269170 hs269167 (zl_r x269091 (fun i hi => n269161 _ (by rw [hx269155]; exact RS_lne hT269170 ht269123 (by omega) (by omega) (by omega)))) (by rw [← hx269155, cL_of he269166]; exact zr_st hf269162 (by have q := x269092; rw [← hx269155, cL_of he269157] at q; exact q) ez269169 bg269087'.1) kp269168 (by omega)
        exact hlp13_269093 (((33 : Int) - 0).toNat + 1) F264064 0 (gB_w (gBl (show Int32.toInt 0 = 0 by decide)) (by decide) (by decide)) hT264065 hs264066 x264067 (fun j hj => absurd hj (by have qa : Int32.toInt 0 = 0 := (by decide); omega)) x264068 (Nat.lt_succ_self _)
  exact hlp2_264068 (((1000001 : Int) - 0).toNat + 1) F217944 0 (gB_w (gBl (show Int32.toInt 0 = 0 by decide)) (by decide) (by decide)) hT (rStr_rf (γ := γ) (W := []) (F := F217944)) (fun i hi => absurd hi (by have qa : Int32.toInt 0 = 0 := (by decide); omega)) rfl (Nat.lt_succ_self _)
