theorem dr_cX17_findLive_0 : decode cX17_findLive 0 = .ok (.iconst 0, 1) := by decide +kernel
theorem dr_cX17_findLive_1 : decode cX17_findLive 1 = .ok (.istore_n 3, 1) := by decide +kernel
theorem dr_cX17_findLive_2 : decode cX17_findLive 2 = .ok (.iload_n 3, 1) := by decide +kernel
theorem dr_cX17_findLive_3 : decode cX17_findLive 3 = .ok (.aload_n 1, 1) := by decide +kernel
theorem dr_cX17_findLive_4 : decode cX17_findLive 4 = .ok (.invokevirtual 96, 3) := by decide +kernel
theorem dr_cX17_findLive_7 : decode cX17_findLive 7 = .ok (.if_icmp .ge 35, 3) := by decide +kernel
theorem dr_cX17_findLive_42 : decode cX17_findLive 42 = .ok (.iconst 1, 1) := by decide +kernel
theorem dr_cX17_findLive_43 : decode cX17_findLive 43 = .ok (.istore_n 3, 1) := by decide +kernel
theorem dr_cX17_findLive_44 : decode cX17_findLive 44 = .ok (.iload_n 3, 1) := by decide +kernel
theorem dr_cX17_findLive_45 : decode cX17_findLive 45 = .ok (.ifCond .eq 156, 3) := by decide +kernel
theorem dr_cX17_findLive_201 : decode cX17_findLive 201 = .ok (.return_, 1) := by decide +kernel
theorem dr_cX17_findLive_48 : decode cX17_findLive 48 = .ok (.iconst 0, 1) := by decide +kernel
theorem dr_cX17_findLive_49 : decode cX17_findLive 49 = .ok (.istore_n 3, 1) := by decide +kernel
theorem dr_cX17_findLive_50 : decode cX17_findLive 50 = .ok (.aload_n 1, 1) := by decide +kernel
theorem dr_cX17_findLive_51 : decode cX17_findLive 51 = .ok (.invokevirtual 96, 3) := by decide +kernel
theorem dr_cX17_findLive_54 : decode cX17_findLive 54 = .ok (.iconst 1, 1) := by decide +kernel
theorem dr_cX17_findLive_55 : decode cX17_findLive 55 = .ok (.isub, 1) := by decide +kernel
theorem dr_cX17_findLive_56 : decode cX17_findLive 56 = .ok (.istore 4, 2) := by decide +kernel
theorem dr_cX17_findLive_58 : decode cX17_findLive 58 = .ok (.iload 4, 2) := by decide +kernel
theorem dr_cX17_findLive_60 : decode cX17_findLive 60 = .ok (.ifCond .lt 138, 3) := by decide +kernel
theorem dr_cX17_findLive_198 : decode cX17_findLive 198 = .ok (.goto (-154), 3) := by decide +kernel
theorem dr_cX17_findLive_63 : decode cX17_findLive 63 = .ok (.aload_n 1, 1) := by decide +kernel
theorem dr_cX17_findLive_64 : decode cX17_findLive 64 = .ok (.iload 4, 2) := by decide +kernel
theorem dr_cX17_findLive_66 : decode cX17_findLive 66 = .ok (.invokevirtual 101, 3) := by decide +kernel
theorem dr_cX17_findLive_69 : decode cX17_findLive 69 = .ok (.astore 5, 2) := by decide +kernel
theorem dr_cX17_findLive_71 : decode cX17_findLive 71 = .ok (.aload_n 0, 1) := by decide +kernel
theorem dr_cX17_findLive_72 : decode cX17_findLive 72 = .ok (.aload 5, 2) := by decide +kernel
theorem dr_cX17_findLive_74 : decode cX17_findLive 74 = .ok (.invokevirtual 105, 3) := by decide +kernel
theorem wr_10_162 : (Jvm.Cond.methodLink "SpillForgeModel" (105 : Nat) ({ cls := "SpillForgeModel", name := "behind", desc := "(LSpillForgeModel$Block;)V" } : Jvm.MethodName)) ∈ gw := gw_10 162 rfl rfl
theorem wr_10_165 : (Jvm.Cond.code ({ cls := "SpillForgeModel", name := "behind", desc := "(LSpillForgeModel$Block;)V" } : Jvm.MethodName) prog_14_method_8_code (4 : Nat) (Option.none : Option Jvm.ClassFile.FieldType)) ∈ gw := gw_10 165 rfl rfl
theorem wr_10_164 : (Jvm.Cond.instanceMethod ({ cls := "SpillForgeModel", name := "behind", desc := "(LSpillForgeModel$Block;)V" } : Jvm.MethodName)) ∈ gw := gw_10 164 rfl rfl
theorem wr_p_95 : Cond.selects "SpillForgeModel" ⟨"SpillForgeModel", "behind", "(LSpillForgeModel$Block;)V"⟩ ⟨"SpillForgeModel", "behind", "(LSpillForgeModel$Block;)V"⟩ ∈ gw := gw_p _ 95 rfl rfl rfl
theorem dr_cX17_findLive_77 : decode cX17_findLive 77 = .ok (.aload_n 0, 1) := by decide +kernel
theorem dr_cX17_findLive_78 : decode cX17_findLive 78 = .ok (.aload 5, 2) := by decide +kernel
theorem dr_cX17_findLive_80 : decode cX17_findLive 80 = .ok (.getfield 109, 3) := by decide +kernel
theorem dr_cX17_findLive_83 : decode cX17_findLive 83 = .ok (.iload_n 2, 1) := by decide +kernel
theorem dr_cX17_findLive_84 : decode cX17_findLive 84 = .ok (.invokevirtual 113, 3) := by decide +kernel
theorem wr_10_174 : (Jvm.Cond.methodLink "SpillForgeModel" (113 : Nat) ({ cls := "SpillForgeModel", name := "back", desc := "(LSpillForgeModel$Row;Z)V" } : Jvm.MethodName)) ∈ gw := gw_10 174 rfl rfl
theorem wr_10_177 : (Jvm.Cond.code ({ cls := "SpillForgeModel", name := "back", desc := "(LSpillForgeModel$Row;Z)V" } : Jvm.MethodName) prog_14_method_7_code (4 : Nat) (Option.none : Option Jvm.ClassFile.FieldType)) ∈ gw := gw_10 177 rfl rfl
theorem wr_10_176 : (Jvm.Cond.instanceMethod ({ cls := "SpillForgeModel", name := "back", desc := "(LSpillForgeModel$Row;Z)V" } : Jvm.MethodName)) ∈ gw := gw_10 176 rfl rfl
theorem wr_p_96 : Cond.selects "SpillForgeModel" ⟨"SpillForgeModel", "back", "(LSpillForgeModel$Row;Z)V"⟩ ⟨"SpillForgeModel", "back", "(LSpillForgeModel$Row;Z)V"⟩ ∈ gw := gw_p _ 96 rfl rfl rfl
theorem dr_cX17_findLive_87 : decode cX17_findLive 87 = .ok (.aload 5, 2) := by decide +kernel
theorem dr_cX17_findLive_89 : decode cX17_findLive 89 = .ok (.getfield 117, 3) := by decide +kernel
theorem dr_cX17_findLive_92 : decode cX17_findLive 92 = .ok (.invokevirtual 121, 3) := by decide +kernel
theorem dr_cX17_findLive_95 : decode cX17_findLive 95 = .ok (.iconst 1, 1) := by decide +kernel
theorem dr_cX17_findLive_96 : decode cX17_findLive 96 = .ok (.isub, 1) := by decide +kernel
theorem dr_cX17_findLive_97 : decode cX17_findLive 97 = .ok (.istore 6, 2) := by decide +kernel
theorem dr_cX17_findLive_99 : decode cX17_findLive 99 = .ok (.iload 6, 2) := by decide +kernel
theorem dr_cX17_findLive_101 : decode cX17_findLive 101 = .ok (.ifCond .lt 27, 3) := by decide +kernel
theorem dr_cX17_findLive_128 : decode cX17_findLive 128 = .ok (.iconst 0, 1) := by decide +kernel
theorem dr_cX17_findLive_129 : decode cX17_findLive 129 = .ok (.istore 6, 2) := by decide +kernel
theorem dr_cX17_findLive_131 : decode cX17_findLive 131 = .ok (.iload 6, 2) := by decide +kernel
theorem dr_cX17_findLive_133 : decode cX17_findLive 133 = .ok (.bipush 32, 2) := by decide +kernel
theorem dr_cX17_findLive_135 : decode cX17_findLive 135 = .ok (.if_icmp .ge 57, 3) := by decide +kernel
theorem dr_cX17_findLive_192 : decode cX17_findLive 192 = .ok (.iinc 4 (-1), 3) := by decide +kernel
theorem dr_cX17_findLive_195 : decode cX17_findLive 195 = .ok (.goto (-137), 3) := by decide +kernel
theorem dr_cX17_findLive_138 : decode cX17_findLive 138 = .ok (.iload_n 3, 1) := by decide +kernel
theorem dr_cX17_findLive_139 : decode cX17_findLive 139 = .ok (.ifCond .ne 24, 3) := by decide +kernel
theorem dr_cX17_findLive_163 : decode cX17_findLive 163 = .ok (.iconst 1, 1) := by decide +kernel
theorem dr_cX17_findLive_164 : decode cX17_findLive 164 = .ok (.goto 4, 3) := by decide +kernel
theorem dr_cX17_findLive_168 : decode cX17_findLive 168 = .ok (.istore_n 3, 1) := by decide +kernel
theorem dr_cX17_findLive_169 : decode cX17_findLive 169 = .ok (.aload_n 0, 1) := by decide +kernel
theorem dr_cX17_findLive_170 : decode cX17_findLive 170 = .ok (.getfield 88, 3) := by decide +kernel
theorem dr_cX17_findLive_173 : decode cX17_findLive 173 = .ok (.iload 4, 2) := by decide +kernel
theorem dr_cX17_findLive_175 : decode cX17_findLive 175 = .ok (.aaload, 1) := by decide +kernel
theorem dr_cX17_findLive_176 : decode cX17_findLive 176 = .ok (.iload 6, 2) := by decide +kernel
theorem dr_cX17_findLive_178 : decode cX17_findLive 178 = .ok (.aload_n 0, 1) := by decide +kernel
theorem dr_cX17_findLive_179 : decode cX17_findLive 179 = .ok (.getfield 59, 3) := by decide +kernel
theorem dr_cX17_findLive_182 : decode cX17_findLive 182 = .ok (.iload 6, 2) := by decide +kernel
theorem dr_cX17_findLive_184 : decode cX17_findLive 184 = .ok (.laload, 1) := by decide +kernel
theorem dr_cX17_findLive_185 : decode cX17_findLive 185 = .ok (.lastore, 1) := by decide +kernel
theorem dr_cX17_findLive_186 : decode cX17_findLive 186 = .ok (.iinc 6 1, 3) := by decide +kernel
theorem dr_cX17_findLive_189 : decode cX17_findLive 189 = .ok (.goto (-58), 3) := by decide +kernel
theorem dr_cX17_findLive_142 : decode cX17_findLive 142 = .ok (.aload_n 0, 1) := by decide +kernel
theorem dr_cX17_findLive_143 : decode cX17_findLive 143 = .ok (.getfield 88, 3) := by decide +kernel
theorem dr_cX17_findLive_146 : decode cX17_findLive 146 = .ok (.iload 4, 2) := by decide +kernel
theorem dr_cX17_findLive_148 : decode cX17_findLive 148 = .ok (.aaload, 1) := by decide +kernel
theorem dr_cX17_findLive_149 : decode cX17_findLive 149 = .ok (.iload 6, 2) := by decide +kernel
theorem dr_cX17_findLive_151 : decode cX17_findLive 151 = .ok (.laload, 1) := by decide +kernel
theorem dr_cX17_findLive_152 : decode cX17_findLive 152 = .ok (.aload_n 0, 1) := by decide +kernel
theorem dr_cX17_findLive_153 : decode cX17_findLive 153 = .ok (.getfield 59, 3) := by decide +kernel
theorem dr_cX17_findLive_156 : decode cX17_findLive 156 = .ok (.iload 6, 2) := by decide +kernel
theorem dr_cX17_findLive_158 : decode cX17_findLive 158 = .ok (.laload, 1) := by decide +kernel
theorem dr_cX17_findLive_159 : decode cX17_findLive 159 = .ok (.lcmp, 1) := by decide +kernel
theorem dr_cX17_findLive_160 : decode cX17_findLive 160 = .ok (.ifCond .eq 7, 3) := by decide +kernel
theorem dr_cX17_findLive_167 : decode cX17_findLive 167 = .ok (.iconst 0, 1) := by decide +kernel
theorem dr_cX17_findLive_104 : decode cX17_findLive 104 = .ok (.aload_n 0, 1) := by decide +kernel
theorem dr_cX17_findLive_105 : decode cX17_findLive 105 = .ok (.aload 5, 2) := by decide +kernel
theorem dr_cX17_findLive_107 : decode cX17_findLive 107 = .ok (.getfield 117, 3) := by decide +kernel
theorem dr_cX17_findLive_110 : decode cX17_findLive 110 = .ok (.iload 6, 2) := by decide +kernel
theorem dr_cX17_findLive_112 : decode cX17_findLive 112 = .ok (.invokevirtual 124, 3) := by decide +kernel
theorem dr_cX17_findLive_115 : decode cX17_findLive 115 = .ok (.checkcast 40, 3) := by decide +kernel
theorem dr_cX17_findLive_118 : decode cX17_findLive 118 = .ok (.iload_n 2, 1) := by decide +kernel
theorem dr_cX17_findLive_119 : decode cX17_findLive 119 = .ok (.invokevirtual 113, 3) := by decide +kernel
theorem dr_cX17_findLive_122 : decode cX17_findLive 122 = .ok (.iinc 6 (-1), 3) := by decide +kernel
theorem dr_cX17_findLive_125 : decode cX17_findLive 125 = .ok (.goto (-26), 3) := by decide +kernel
theorem dr_cX17_findLive_10 : decode cX17_findLive 10 = .ok (.iconst 0, 1) := by decide +kernel
theorem dr_cX17_findLive_11 : decode cX17_findLive 11 = .ok (.istore 4, 2) := by decide +kernel
theorem dr_cX17_findLive_13 : decode cX17_findLive 13 = .ok (.iload 4, 2) := by decide +kernel
theorem dr_cX17_findLive_15 : decode cX17_findLive 15 = .ok (.bipush 32, 2) := by decide +kernel
theorem dr_cX17_findLive_17 : decode cX17_findLive 17 = .ok (.if_icmp .ge 19, 3) := by decide +kernel
theorem dr_cX17_findLive_36 : decode cX17_findLive 36 = .ok (.iinc 3 1, 3) := by decide +kernel
theorem dr_cX17_findLive_39 : decode cX17_findLive 39 = .ok (.goto (-37), 3) := by decide +kernel
theorem dr_cX17_findLive_20 : decode cX17_findLive 20 = .ok (.aload_n 0, 1) := by decide +kernel
theorem dr_cX17_findLive_21 : decode cX17_findLive 21 = .ok (.getfield 88, 3) := by decide +kernel
theorem dr_cX17_findLive_24 : decode cX17_findLive 24 = .ok (.iload_n 3, 1) := by decide +kernel
theorem dr_cX17_findLive_25 : decode cX17_findLive 25 = .ok (.aaload, 1) := by decide +kernel
theorem dr_cX17_findLive_26 : decode cX17_findLive 26 = .ok (.iload 4, 2) := by decide +kernel
theorem dr_cX17_findLive_28 : decode cX17_findLive 28 = .ok (.lconst 0, 1) := by decide +kernel
theorem dr_cX17_findLive_29 : decode cX17_findLive 29 = .ok (.lastore, 1) := by decide +kernel
theorem dr_cX17_findLive_30 : decode cX17_findLive 30 = .ok (.iinc 4 1, 3) := by decide +kernel
theorem dr_cX17_findLive_33 : decode cX17_findLive 33 = .ok (.goto (-20), 3) := by decide +kernel
abbrev ky_215192_Block_ways : gKey := (cX12_ways, 1, "SpillForgeModel$Block", (some FieldType.int), [], "ways", fun _ _ => True)
def pp_215192_Block_ways (D : va_G) (I : FieldType → ClassId) (P215178 : List Nat) (F215179 : Nat → va_E) (q215180 : Nat) (q215181 : Nat) (qo215182 : Nat) (p215183 : Int32) (p215184 : Int32) (p215185 : Int32) (p215186 : Int32) (p215187 : Int32) (p215188 : Int32) (p215189 : Int32) (p215190 : Int32) (p215191 : Int32) : Option Value → va_W → Nat → Nat → Prop := fun r w dc ds => ∃ (o215202 : Int32), r = some (.int o215202) ∧ w = va_pl P215178 F215179 ∧ dc ≤ 0 ∧ ds ≤ 0 ∧ gB o215202 0 2 ∧ ((o215202.toInt = 0 ∧ p215185.toInt = 32) ∨ (o215202.toInt = 1 ∧ p215185.toInt ≠ 32 ∧ (p215185.toInt = 30 ∨ p215183.toInt = p215184.toInt)) ∨ (o215202.toInt = 2 ∧ p215185.toInt ≠ 32 ∧ p215185.toInt ≠ 30 ∧ p215183.toInt ≠ p215184.toInt))
set_option maxRecDepth 100000 in
set_option maxHeartbeats 4000000 in
theorem cp_215192_Block_ways (l : Launch) (hl0 : l.stackTraces = false) (D : va_G) (I : FieldType → ClassId) (P215178 : List Nat) (F215179 : Nat → va_E) (q215180 : Nat) (q215181 : Nat) (qo215182 : Nat) (p215183 : Int32) (p215184 : Int32) (p215185 : Int32) (p215186 : Int32) (p215187 : Int32) (p215188 : Int32) (p215189 : Int32) (p215190 : Int32) (p215191 : Int32) (hmq215180 : q215180 ∈ P215178) (hmq215181 : q215181 ∈ P215178) (heq215180 : F215179 q215180 = .inr (17, [.ref qo215182, .ref q215181, .int p215183, .int p215184])) (heq215181 : F215179 q215181 = .inr (20, [.int p215185, .int p215186, .int p215187, .int p215188, .int p215189, .int p215190, .int p215191])) (bp215183 : gB p215183 0 39) (bp215184 : gB p215184 0 39) (bp215185 : gB p215185 0 32) (bp215186 : gB p215186 0 1999) (bp215189 : gB p215189 0 1999) (bp215190 : gB p215190 0 1) (bp215191 : gB p215191 0 1) : CtA (gV D I) l yX12_ways cX12_ways 1 (some FieldType.int) 0 0 0 0 [.ref q215180] (va_pl P215178 F215179) (pp_215192_Block_ways D I P215178 F215179 q215180 q215181 qo215182 p215183 p215184 p215185 p215186 p215187 p215188 p215189 p215190 p215191) gNA := by
  refine CtA_of hl0 (by decide) (Nat.le_of_ble_eq_true rfl) ?_
  have bp215187 := gB_any p215187
  have bp215188 := gB_any p215188
  refine G_aload_n 0 dr_cX12_ways_0 rfl ?_
  refine Gp_get 1 hmq215180 heq215180 dr_cX12_ways_1 (gk_X12 D I) (Nat.le_of_ble_eq_true rfl) wr_9_222 rfl ?_
  refine Gp_get 0 hmq215181 heq215181 dr_cX12_ways_4 (gk_X15 D I) (Nat.le_of_ble_eq_true rfl) wr_9_176 rfl ?_
  refine G_bipush 32 dr_cX12_ways_7 (by decide +kernel) ?_
  refine G_icmp_ne 16 dr_cX12_ways_9 (by decide +kernel) (fun hc215193 => ?_) (fun hc215193 => ?_)
  · have r215194 : p215185.toInt ≠ 32 := gj_neq hc215193 (show Int32.toInt 32 = 32 by decide)
    have bp215185' : gB p215185 0 31 := ⟨by omega, by omega⟩
    refine G_aload_n 0 dr_cX12_ways_16 rfl ?_
    refine Gp_get 1 hmq215180 heq215180 dr_cX12_ways_17 (gk_X12 D I) (Nat.le_of_ble_eq_true rfl) wr_9_222 rfl ?_
    refine Gp_get 0 hmq215181 heq215181 dr_cX12_ways_20 (gk_X15 D I) (Nat.le_of_ble_eq_true rfl) wr_9_176 rfl ?_
    refine G_bipush 30 dr_cX12_ways_23 (by decide +kernel) ?_
    refine G_icmp_eq 39 dr_cX12_ways_25 (by decide +kernel) (fun hc215195 => ?_) (fun hc215195 => ?_)
    · have r215196 : p215185.toInt = 30 := gj_eq hc215195 (show Int32.toInt 30 = 30 by decide)
      have bp215185'' : gB p215185 30 30 := ⟨by omega, by omega⟩
      refine G_iconst 1 dr_cX12_ways_39 (by decide +kernel) ?_
      refine G_goto 44 dr_cX12_ways_40 (by decide +kernel) ?_
      exact G_iretA dr_cX12_ways_44 rfl (Nat.le_of_ble_eq_true rfl) (Nat.le_of_ble_eq_true rfl) ⟨1, rfl, rfl, (Nat.le_of_ble_eq_true rfl), (Nat.le_of_ble_eq_true rfl), (gB_w (gBl (show Int32.toInt 1 = 1 by decide)) (by decide) (by decide)), (by have qa0 : Int32.toInt 1 = 1 := (by decide); omega)⟩
    · have r215197 : p215185.toInt ≠ 30 := gj_neq hc215195 (show Int32.toInt 30 = 30 by decide)
      refine G_aload_n 0 dr_cX12_ways_28 rfl ?_
      refine Gp_get 2 hmq215180 heq215180 dr_cX12_ways_29 (gk_X12 D I) (Nat.le_of_ble_eq_true rfl) wr_9_226 rfl ?_
      refine G_aload_n 0 dr_cX12_ways_32 rfl ?_
      refine Gp_get 3 hmq215180 heq215180 dr_cX12_ways_33 (gk_X12 D I) (Nat.le_of_ble_eq_true rfl) wr_9_230 rfl ?_
      refine G_icmp_ne 43 dr_cX12_ways_36 (by decide +kernel) (fun hc215198 => ?_) (fun hc215198 => ?_)
      · have r215199 : p215183.toInt ≠ p215184.toInt := gC_ne hc215198
        refine G_iconst 2 dr_cX12_ways_43 (by decide +kernel) ?_
        exact G_iretA dr_cX12_ways_44 rfl (Nat.le_of_ble_eq_true rfl) (Nat.le_of_ble_eq_true rfl) ⟨2, rfl, rfl, (Nat.le_of_ble_eq_true rfl), (Nat.le_of_ble_eq_true rfl), (gB_w (gBl (show Int32.toInt 2 = 2 by decide)) (by decide) (by decide)), (by have qa0 : Int32.toInt 2 = 2 := (by decide); omega)⟩
      · have r215200 : p215183.toInt = p215184.toInt := gC_eq hc215198
        refine G_iconst 1 dr_cX12_ways_39 (by decide +kernel) ?_
        refine G_goto 44 dr_cX12_ways_40 (by decide +kernel) ?_
        exact G_iretA dr_cX12_ways_44 rfl (Nat.le_of_ble_eq_true rfl) (Nat.le_of_ble_eq_true rfl) ⟨1, rfl, rfl, (Nat.le_of_ble_eq_true rfl), (Nat.le_of_ble_eq_true rfl), (gB_w (gBl (show Int32.toInt 1 = 1 by decide)) (by decide) (by decide)), (by have qa0 : Int32.toInt 1 = 1 := (by decide); omega)⟩
  · have r215201 : p215185.toInt = 32 := gj_eq hc215193 (show Int32.toInt 32 = 32 by decide)
    have bp215185' : gB p215185 32 32 := ⟨by omega, by omega⟩
    refine G_iconst 0 dr_cX12_ways_12 (by decide +kernel) ?_
    refine G_goto 44 dr_cX12_ways_13 (by decide +kernel) ?_
    exact G_iretA dr_cX12_ways_44 rfl (Nat.le_of_ble_eq_true rfl) (Nat.le_of_ble_eq_true rfl) ⟨0, rfl, rfl, (Nat.le_of_ble_eq_true rfl), (Nat.le_of_ble_eq_true rfl), (gB_w (gBl (show Int32.toInt 0 = 0 by decide)) (by decide) (by decide)), (by have qa0 : Int32.toInt 0 = 0 := (by decide); omega)⟩
abbrev ky_215326_Block_way : gKey := (cX12_way, 2, "SpillForgeModel$Block", (some FieldType.int), [], "way", fun _ _ => True)
def pp_215326_Block_way (D : va_G) (I : FieldType → ClassId) (P215311 : List Nat) (F215312 : Nat → va_E) (q215313 : Nat) (q215314 : Nat) (p215315 : Int32) (qo215316 : Nat) (p215317 : Int32) (p215318 : Int32) (p215319 : Int32) (p215320 : Int32) (p215321 : Int32) (p215322 : Int32) (p215323 : Int32) (p215324 : Int32) (p215325 : Int32) : Option Value → va_W → Nat → Nat → Prop := fun r w dc ds => ∃ (o215330 : Int32), r = some (.int o215330) ∧ w = va_pl P215311 F215312 ∧ dc ≤ 0 ∧ ds ≤ 0 ∧ gB o215330 0 39 ∧ ((p215315.toInt = 0 ∧ o215330.toInt = p215317.toInt) ∨ (p215315.toInt ≠ 0 ∧ o215330.toInt = p215318.toInt))
set_option maxRecDepth 100000 in
set_option maxHeartbeats 4000000 in
theorem cp_215326_Block_way (l : Launch) (hl0 : l.stackTraces = false) (D : va_G) (I : FieldType → ClassId) (P215311 : List Nat) (F215312 : Nat → va_E) (q215313 : Nat) (q215314 : Nat) (p215315 : Int32) (qo215316 : Nat) (p215317 : Int32) (p215318 : Int32) (p215319 : Int32) (p215320 : Int32) (p215321 : Int32) (p215322 : Int32) (p215323 : Int32) (p215324 : Int32) (p215325 : Int32) (hmq215313 : q215313 ∈ P215311) (hmq215314 : q215314 ∈ P215311) (heq215313 : F215312 q215313 = .inr (17, [.ref qo215316, .ref q215314, .int p215317, .int p215318])) (heq215314 : F215312 q215314 = .inr (20, [.int p215319, .int p215320, .int p215321, .int p215322, .int p215323, .int p215324, .int p215325])) (bp215317 : gB p215317 0 39) (bp215318 : gB p215318 0 39) (bp215319 : gB p215319 0 32) (bp215320 : gB p215320 0 1999) (bp215323 : gB p215323 0 1999) (bp215324 : gB p215324 0 1) (bp215325 : gB p215325 0 1) : CtA (gV D I) l yX12_way cX12_way 2 (some FieldType.int) 0 0 0 0 [.ref q215313, .int p215315] (va_pl P215311 F215312) (pp_215326_Block_way D I P215311 F215312 q215313 q215314 p215315 qo215316 p215317 p215318 p215319 p215320 p215321 p215322 p215323 p215324 p215325) gNA := by
  refine CtA_of hl0 (by decide) (Nat.le_of_ble_eq_true rfl) ?_
  have bp215315 := gB_any p215315
  have bp215321 := gB_any p215321
  have bp215322 := gB_any p215322
  refine G_iload_n 1 dr_cX12_way_0 rfl ?_
  refine G_if_ne 11 dr_cX12_way_1 (by decide +kernel) (fun hc215327 => ?_) (fun hc215327 => ?_)
  · have r215328 : p215315.toInt ≠ 0 := gj_neq hc215327 (show Int32.toInt 0 = 0 by decide)
    refine G_aload_n 0 dr_cX12_way_11 rfl ?_
    refine Gp_get 3 hmq215313 heq215313 dr_cX12_way_12 (gk_X12 D I) (Nat.le_of_ble_eq_true rfl) wr_9_230 rfl ?_
    exact G_iretA dr_cX12_way_15 rfl (Nat.le_of_ble_eq_true rfl) (Nat.le_of_ble_eq_true rfl) ⟨p215318, rfl, rfl, (Nat.le_of_ble_eq_true rfl), (Nat.le_of_ble_eq_true rfl), bp215318, (by omega)⟩
  · have r215329 : p215315.toInt = 0 := gj_eq hc215327 (show Int32.toInt 0 = 0 by decide)
    have bp215315' : gB p215315 0 0 := ⟨by omega, by omega⟩
    refine G_aload_n 0 dr_cX12_way_4 rfl ?_
    refine Gp_get 2 hmq215313 heq215313 dr_cX12_way_5 (gk_X12 D I) (Nat.le_of_ble_eq_true rfl) wr_9_226 rfl ?_
    refine G_goto 15 dr_cX12_way_8 (by decide +kernel) ?_
    exact G_iretA dr_cX12_way_15 rfl (Nat.le_of_ble_eq_true rfl) (Nat.le_of_ble_eq_true rfl) ⟨p215317, rfl, rfl, (Nat.le_of_ble_eq_true rfl), (Nat.le_of_ble_eq_true rfl), bp215317, (by omega)⟩
abbrev ky_214935_SpillForgeModel_behind : gKey := (cX17_behind, 4, "SpillForgeModel", none, [], "behind", fun _ _ => True)
def pt_214935_SpillForgeModel_behind (D : va_G) (I : FieldType → ClassId) (γ el : Nat → Nat → Nat) (P214931 : List Nat) (F214932 : Nat → va_E) (q214933 : Nat) (q214934 : Nat) : Option Value → va_W → Nat → Nat → Prop := fun r w dc ds => ∃ (F217942 : Nat → va_E), r = none ∧ w = va_pl P214931 F217942 ∧ RS D I P214931 F217942 γ el ∧ rStr γ [] F214932 F217942 ∧ dc ≤ 0 ∧ ds ≤ 0 ∧ (∀ k : Nat, k < 2048 → rbt (cL (F217942 (γ 9 2))) k = bhV (fI (F214932 (γ 15 q214934)) 0).toInt (fI (F214932 q214934) 2).toInt (fI (F214932 q214934) 3).toInt (lvS γ F214932) k) ∧ rLv γ F214932 F217942 ∧ (F217942 q214933 = F214932 q214933)
set_option maxRecDepth 100000 in
set_option maxHeartbeats 4000000 in
theorem ct_214935_SpillForgeModel_behind (l : Launch) (hl0 : l.stackTraces = false) (D : va_G) (I : FieldType → ClassId) (γ el : Nat → Nat → Nat) (P214931 : List Nat) (F214932 : Nat → va_E) (q214933 : Nat) (q214934 : Nat) (hT : RS D I P214931 F214932 γ el) (htq214933 : rKd γ q214933 10) (htq214934 : rKd γ q214934 2) : CtA (gV D I) l yX17_behind cX17_behind 4 none 1 21 0 0 [.ref q214933, .ref q214934] (va_pl P214931 F214932) (pt_214935_SpillForgeModel_behind D I γ el P214931 F214932 q214933 q214934) gNA := by
  refine CtA_of hl0 (by decide) (Nat.le_of_ble_eq_true rfl) ?_
  have hm214936 : q214933 ∈ P214931 := RS_m hT htq214933 (by decide)
  obtain ⟨q214938, q214939, p214940, p214941, p214942, p214943, p214944, p214945, p214946, p214947, p214948, p214949, p214950, p214951, p214952, p214953, p214954, he214937, hB214981, ht214955, ht214956, ht214957, ht214958, ht214959, ht214960, ht214961, ht214962, ht214963, ht214964, ht214965, ht214966, ht214967, ht214968, ht214969, ht214970, ht214971, ht214972, ht214973, ht214974, ht214975, ht214976, ht214977, ht214978, hB214982⟩ := show rk_10 γ (F214932 q214933) from RS_o hT htq214933
  have hm214983 : (γ 9 2) ∈ P214931 := RS_m hT ht214959 (by decide)
  obtain ⟨f214985, he214984, wf214985⟩ := show rk_35 I (F214932 (γ 9 2)) from RS_o hT ht214959
  have hm214986 : q214934 ∈ P214931 := RS_m hT htq214934 (by decide)
  obtain ⟨q214988, q214989, p214990, p214991, he214987, ht214998, ht214992, ht214993, ht214994, ht214995, ht214996, bp214990, bp214991, r214997, r214999, r215000⟩ := show rk_2 γ q214934 (F214932 q214934) from RS_o hT htq214934
  have hm215001 : q214989 ∈ P214931 := RS_m hT ht214994 (by decide)
  obtain ⟨p215003, p215004, p215005, p215006, p215007, p215008, p215009, he215002, bp215003, bp215004, bp215007, bp215008, bp215009, r215010, r215011, r215012, r215013⟩ := show rk_1 γ q214989 (F214932 q214989) from RS_o hT ht214994
  have bp215005 := gB_any p215005
  have bp215006 := gB_any p215006
  have fe1 : (fI (F214932 q214934) 2).toInt = p214990.toInt := by rw [he214987]; rfl
  have fe2 : (fI (F214932 q214934) 3).toInt = p214991.toInt := by rw [he214987]; rfl
  have fe3 : (fI (F214932 (γ 15 q214934)) 0).toInt = p215003.toInt := by rw [ht214998.2.1, he215002]; rfl
  refine G_iconst 0 dr_cX17_behind_0 (by decide +kernel) ?_
  refine G_istore_n (L' := [(2, .int 0), (0, .ref q214933), (1, .ref q214934)]) dr_cX17_behind_1 (Nat.le_of_ble_eq_true rfl) rfl ?_
  have hlp2_217333 : ∀ (n2_217333 : Nat) (F217328 : Nat → va_E) (g217327 : Int32), gB g217327 0 32 → RS D I P214931 F217328 γ el → rStr γ [] F214932 F217328 → (∀ j : Nat, (j : Int) < g217327.toInt → cL (F217328 (γ 9 2)) j = 0) → rLv γ F214932 F217328 → (F217328 q214933 = F214932 q214933) → ((33 : Int) - g217327.toInt).toNat < n2_217333 → G (gV D I) l (gRm 1 21 0 0) (gMA (gV D I) (pt_214935_SpillForgeModel_behind D I γ el P214931 F214932 q214933 q214934) gNA 0 0) ky_214935_SpillForgeModel_behind 2 [(2, .int g217327), (0, .ref q214933), (1, .ref q214934)] [] (va_pl P214931 F217328) 0 0 := by
    intro n2_217333
    induction n2_217333 with
    | zero => intro F217328 g217327 bg217327 hT217329 hs217330 x217331 x217332 x217333 hm2_217333; exact absurd hm2_217333 (Nat.not_lt_zero _)
    | succ n2_217333 ih2_217333 =>
      intro F217328 g217327 bg217327 hT217329 hs217330 x217331 x217332 x217333 hm2_217333
      have hs217335 : rStr γ [] F214932 F217328 := fun b h0 hb hw => (hs217330 b h0 hb hw).trans ((rStr_rf (γ := γ) (W := []) (F := F214932)) b h0 hb hw).symm
      have he217336 : F217328 q214934 = .inr (17, [.ref q214988, .ref q214989, .int p214990, .int p214991]) := (hs217335 q214934 (rT0 htq214934 (by decide)) (rT1 htq214934 (by decide)) (rT2 htq214934 (by decide))).trans he214987
      have he217337 : F217328 q214989 = .inr (20, [.int p215003, .int p215004, .int p215005, .int p215006, .int p215007, .int p215008, .int p215009]) := (hs217335 q214989 (rT0 ht214994 (by decide)) (rT1 ht214994 (by decide)) (rT2 ht214994 (by decide))).trans he215002
      have hs217338 : rStr γ [] F214932 F217328 := rStr_tr (rStr_rf (γ := γ) (W := []) (F := F214932)) hs217335
      refine G_iload_n 0 dr_cX17_behind_2 rfl ?_
      refine G_bipush 32 dr_cX17_behind_3 (by decide +kernel) ?_
      refine G_icmp_ge 21 dr_cX17_behind_5 (by decide +kernel) (fun hc217339 => ?_) (fun hc217339 => ?_)
      · have r217340 : 32 ≤ g217327.toInt := gj_leL hc217339 (show Int32.toInt 32 = 32 by decide)
        have bg217327' : gB g217327 32 32 := ⟨by omega, by omega⟩
        refine G_iconst 0 dr_cX17_behind_21 (by decide +kernel) ?_
        refine G_istore_n (L' := [(2, .int 0), (0, .ref q214933), (1, .ref q214934)]) dr_cX17_behind_22 (Nat.le_of_ble_eq_true rfl) rfl ?_
        have hlp23_217614 : ∀ (n23_217614 : Nat) (F217608 : Nat → va_E) (g217607 : Int32), gB g217607 0 2 → RS D I P214931 F217608 γ el → rStr γ [] F214932 F217608 → (∀ k : Nat, k < 2048 → rbt (cL (F217608 (γ 9 2))) k = wyV g217607.toInt (fI (F214932 q214934) 2).toInt (fI (F214932 q214934) 3).toInt (lvS γ F214932) k) → rLv γ F214932 F217608 → (g217607.toInt = 0 ∨ ((fI (F214932 (γ 15 q214934)) 0).toInt ≠ 32 ∧ (g217607.toInt = 1 ∨ (g217607.toInt = 2 ∧ (fI (F214932 (γ 15 q214934)) 0).toInt ≠ 30 ∧ (fI (F214932 q214934) 2).toInt ≠ (fI (F214932 q214934) 3).toInt)))) → (F217608 q214933 = F214932 q214933) → ((3 : Int) - g217607.toInt).toNat < n23_217614 → G (gV D I) l (gRm 1 21 0 0) (gMA (gV D I) (pt_214935_SpillForgeModel_behind D I γ el P214931 F214932 q214933 q214934) gNA 0 0) ky_214935_SpillForgeModel_behind 23 [(2, .int g217607), (0, .ref q214933), (1, .ref q214934)] [] (va_pl P214931 F217608) 0 0 := by
          intro n23_217614
          induction n23_217614 with
          | zero => intro F217608 g217607 bg217607 hT217609 hs217610 x217611 x217612 x217613 x217614 hm23_217614; exact absurd hm23_217614 (Nat.not_lt_zero _)
          | succ n23_217614 ih23_217614 =>
            intro F217608 g217607 bg217607 hT217609 hs217610 x217611 x217612 x217613 x217614 hm23_217614
            have hs217616 : rStr γ [] F217328 F217608 := fun b h0 hb hw => (hs217610 b h0 hb hw).trans (hs217330 b h0 hb hw).symm
            have he217617 : F217608 q214934 = .inr (17, [.ref q214988, .ref q214989, .int p214990, .int p214991]) := (hs217616 q214934 (rT0 htq214934 (by decide)) (rT1 htq214934 (by decide)) (rT2 htq214934 (by decide))).trans he217336
            have he217618 : F217608 q214989 = .inr (20, [.int p215003, .int p215004, .int p215005, .int p215006, .int p215007, .int p215008, .int p215009]) := (hs217616 q214989 (rT0 ht214994 (by decide)) (rT1 ht214994 (by decide)) (rT2 ht214994 (by decide))).trans he217337
            have hs217619 : rStr γ [] F214932 F217608 := rStr_tr hs217330 hs217616
            refine G_iload_n 0 dr_cX17_behind_23 rfl ?_
            refine G_aload_n 2 dr_cX17_behind_24 rfl ?_
            refine Gw_callV (As := []) (gV_ok D I) (cp_215192_Block_ways l hl0 D I P214931 F217608 q214934 q214989 q214988 p214990 p214991 p215003 p215004 p215005 p215006 p215007 p215008 p215009 hm214986 hm215001 he217617 he217618 bp214990 bp214991 bp215003 bp215004 bp215007 bp215008 bp215009) dr_cX17_behind_25 ⟨wr_10_166, wr_1_38, wr_10_169, by decide, rfl, (Nat.le_of_ble_eq_true rfl), (Nat.le_of_ble_eq_true rfl)⟩ wr_10_167 wr_10_168 hm214986 he217617 rfl (show 0 + 0 ≤ 0 by first | omega | decide) (show 0 + 0 ≤ 0 by first | omega | decide) (Nat.le_of_ble_eq_true rfl) (fun r217623 w217624 dc217620 ds217621 hp217622 => ?_) (fun _ _ _ _ _ z => z.elim)
            obtain ⟨o217625, rfl, rfl, hdc, hds, bo217625, x217626⟩ := hp217622
            change G _ _ _ _ _ _ _ (.int o217625 :: _) _ _ _
            refine G_widen (cs' := 0) (sl' := 0) (by omega) (by omega) ?_
            refine G_icmp_ge 72 dr_cX17_behind_28 (by decide +kernel) (fun hc217627 => ?_) (fun hc217627 => ?_)
            · have r217628 : o217625.toInt ≤ g217607.toInt := gC_le hc217627
              have hm217629 : q214933 ∈ P214931 := RS_m hT217609 htq214933 (by decide)
              obtain ⟨q217631, q217632, p217633, p217634, p217635, p217636, p217637, p217638, p217639, p217640, p217641, p217642, p217643, p217644, p217645, p217646, p217647, he217630, hB217674, ht217648, ht217649, ht217650, ht217651, ht217652, ht217653, ht217654, ht217655, ht217656, ht217657, ht217658, ht217659, ht217660, ht217661, ht217662, ht217663, ht217664, ht217665, ht217666, ht217667, ht217668, ht217669, ht217670, ht217671, hB217675⟩ := show rk_10 γ (F217608 q214933) from RS_o hT217609 htq214933
              exact G_vretA dr_cX17_behind_72 rfl (Nat.le_of_ble_eq_true rfl) (Nat.le_of_ble_eq_true rfl) ⟨F217608, rfl, rfl, hT217609, hs217610, (Nat.le_of_ble_eq_true rfl), (Nat.le_of_ble_eq_true rfl), (fun k hk => (x217611 k hk).trans (bh_of (by omega))), x217612, x217614⟩
            · have r217676 : g217607.toInt < o217625.toInt := gC_nle hc217627
              have bg217607' : gB g217607 0 1 := ⟨by omega, by omega⟩
              have bo217625' : gB o217625 1 2 := ⟨by omega, by omega⟩
              refine G_iconst 0 dr_cX17_behind_31 (by decide +kernel) ?_
              refine G_istore_n (L' := [(3, .int 0), (2, .int g217607), (0, .ref q214933), (1, .ref q214934)]) dr_cX17_behind_32 (Nat.le_of_ble_eq_true rfl) rfl ?_
              have hlp33_217782 : ∀ (n33_217782 : Nat) (F217776 : Nat → va_E) (g217775 : Int32), gB g217775 0 32 → RS D I P214931 F217776 γ el → rStr γ [] F214932 F217776 → (∀ k : Nat, k < 2048 → rbt (cL (F217776 (γ 9 2))) k = if (k : Int) < 64 * g217775.toInt then wyV (g217607.toInt + 1) (fI (F214932 q214934) 2).toInt (fI (F214932 q214934) 3).toInt (lvS γ F214932) k else wyV g217607.toInt (fI (F214932 q214934) 2).toInt (fI (F214932 q214934) 3).toInt (lvS γ F214932) k) → rLv γ F214932 F217776 → ((g217607.toInt = 0 ∧ (fI (F214932 (γ 15 q214934)) 0).toInt ≠ 32) ∨ (g217607.toInt = 1 ∧ (fI (F214932 (γ 15 q214934)) 0).toInt ≠ 32 ∧ (fI (F214932 (γ 15 q214934)) 0).toInt ≠ 30 ∧ (fI (F214932 q214934) 2).toInt ≠ (fI (F214932 q214934) 3).toInt)) → (F217776 q214933 = F214932 q214933) → ((33 : Int) - g217775.toInt).toNat < n33_217782 → G (gV D I) l (gRm 1 21 0 0) (gMA (gV D I) (pt_214935_SpillForgeModel_behind D I γ el P214931 F214932 q214933 q214934) gNA 0 0) ky_214935_SpillForgeModel_behind 33 [(3, .int g217775), (2, .int g217607), (0, .ref q214933), (1, .ref q214934)] [] (va_pl P214931 F217776) 0 0 := by
                intro n33_217782
                induction n33_217782 with
                | zero => intro F217776 g217775 bg217775 hT217777 hs217778 x217779 x217780 x217781 x217782 hm33_217782; exact absurd hm33_217782 (Nat.not_lt_zero _)
                | succ n33_217782 ih33_217782 =>
                  intro F217776 g217775 bg217775 hT217777 hs217778 x217779 x217780 x217781 x217782 hm33_217782
                  have hs217784 : rStr γ [] F217608 F217776 := fun b h0 hb hw => (hs217778 b h0 hb hw).trans (hs217610 b h0 hb hw).symm
                  have he217785 : F217776 q214934 = .inr (17, [.ref q214988, .ref q214989, .int p214990, .int p214991]) := (hs217784 q214934 (rT0 htq214934 (by decide)) (rT1 htq214934 (by decide)) (rT2 htq214934 (by decide))).trans he217617
                  have he217786 : F217776 q214989 = .inr (20, [.int p215003, .int p215004, .int p215005, .int p215006, .int p215007, .int p215008, .int p215009]) := (hs217784 q214989 (rT0 ht214994 (by decide)) (rT1 ht214994 (by decide)) (rT2 ht214994 (by decide))).trans he217618
                  have hs217787 : rStr γ [] F214932 F217776 := rStr_tr hs217610 hs217784
                  refine G_iload_n 0 dr_cX17_behind_33 rfl ?_
                  refine G_bipush 32 dr_cX17_behind_34 (by decide +kernel) ?_
                  refine G_icmp_ge 66 dr_cX17_behind_36 (by decide +kernel) (fun hc217788 => ?_) (fun hc217788 => ?_)
                  · have r217789 : 32 ≤ g217775.toInt := gj_leL hc217788 (show Int32.toInt 32 = 32 by decide)
                    have bg217775' : gB g217775 32 32 := ⟨by omega, by omega⟩
                    obtain ⟨z217790, hz217790⟩ : ∃ z : Int32, z = g217607 + Int32.ofInt 1 := ⟨_, rfl⟩
                    have ez217790 : z217790.toInt = g217607.toInt + 1 := gI_inc hz217790 (by decide) bg217607' (by decide) (by decide)
                    have bz217790 : gB z217790 1 2 := ⟨by omega, by omega⟩
                    refine G_iinc (L' := [(2, .int z217790), (3, .int g217775), (0, .ref q214933), (1, .ref q214934)]) z217790 1 dr_cX17_behind_66 rfl hz217790.symm (Nat.le_of_ble_eq_true rfl) rfl ?_
                    refine G_goto 23 dr_cX17_behind_69 (by decide +kernel) ?_
                    refine G_lv (L' := [(2, .int z217790), (0, .ref q214933), (1, .ref q214934)]) [0, 2, 3] rfl ?_
                    exact ih23_217614 F217776 z217790 (gB_w bz217790 (by decide) (by decide)) hT217777 hs217778 (fun k hk => by have q := x217779 k hk; rw [if_pos (by omega)] at q; rw [ez217790]; exact q) x217780 (by rw [show fI (F214932 q214934) 2 = p214990 from by rw [he214987]; rfl, show fI (F214932 q214934) 3 = p214991 from by rw [he214987]; rfl] <;> (omega)) x217782 (by omega)
                  · have r217791 : g217775.toInt < 32 := gj_nleL hc217788 (show Int32.toInt 32 = 32 by decide)
                    have bg217775' : gB g217775 0 31 := ⟨by omega, by omega⟩
                    refine G_aload_n 2 dr_cX17_behind_39 rfl ?_
                    have hm217792 : q214933 ∈ P214931 := RS_m hT217777 htq214933 (by decide)
                    obtain ⟨q217794, q217795, p217796, p217797, p217798, p217799, p217800, p217801, p217802, p217803, p217804, p217805, p217806, p217807, p217808, p217809, p217810, he217793, hB217837, ht217811, ht217812, ht217813, ht217814, ht217815, ht217816, ht217817, ht217818, ht217819, ht217820, ht217821, ht217822, ht217823, ht217824, ht217825, ht217826, ht217827, ht217828, ht217829, ht217830, ht217831, ht217832, ht217833, ht217834, hB217838⟩ := show rk_10 γ (F217776 q214933) from RS_o hT217777 htq214933
                    refine Gp_get 2 hm217792 he217793 dr_cX17_behind_40 (gk_X17 D I) (Nat.le_of_ble_eq_true rfl) wr_7_76 rfl ?_
                    refine G_iload_n 0 dr_cX17_behind_43 rfl ?_
                    refine G_dup2_11 dr_cX17_behind_44 rfl rfl ?_
                    have hm217839 : (γ 9 2) ∈ P214931 := RS_m hT217777 ht217815 (by decide)
                    obtain ⟨f217841, he217840, wf217841⟩ := show rk_35 I (F217776 (γ 9 2)) from RS_o hT217777 ht217815
                    refine Gp_lald 2 hm217839 he217840 dr_cX17_behind_45 rfl (gB_in bg217775' (by decide) (by decide)) (G_namL fun u217842 hu217842 => ?_)
                    have qu217842 : lb_Q u217842 (2000 - 64 * g217775.toInt) := lb_Wld hu217842 wf217841 (by omega) (by omega) (lb_Mod0 (by omega) (by omega))
                    refine G_aload_n 2 dr_cX17_behind_46 rfl ?_
                    refine Gp_get 0 hm217792 he217793 dr_cX17_behind_47 (gk_X17 D I) (Nat.le_of_ble_eq_true rfl) wr_7_74 rfl ?_
                    refine G_aload_n 3 dr_cX17_behind_50 rfl ?_
                    refine G_iload_n 1 dr_cX17_behind_51 rfl ?_
                    refine Gw_callV (As := [.int g217607]) (gV_ok D I) (cp_215326_Block_way l hl0 D I P214931 F217776 q214934 q214989 g217607 q214988 p214990 p214991 p215003 p215004 p215005 p215006 p215007 p215008 p215009 hm214986 hm215001 he217785 he217786 bp214990 bp214991 bp215003 bp215004 bp215007 bp215008 bp215009) dr_cX17_behind_52 ⟨wr_10_170, wr_1_38, wr_10_173, by decide, rfl, (Nat.le_of_ble_eq_true rfl), (Nat.le_of_ble_eq_true rfl)⟩ wr_10_171 wr_10_172 hm214986 he217785 rfl (show 0 + 0 ≤ 0 by first | omega | decide) (show 0 + 0 ≤ 0 by first | omega | decide) (Nat.le_of_ble_eq_true rfl) (fun r217846 w217847 dc217843 ds217844 hp217845 => ?_) (fun _ _ _ _ _ z => z.elim)
                    obtain ⟨o217848, rfl, rfl, hdc, hds, bo217848, x217849⟩ := hp217845
                    change G _ _ _ _ _ _ _ (.int o217848 :: _) _ _ _
                    refine G_widen (cs' := 0) (sl' := 0) (by omega) (by omega) ?_
                    have hm217850 : (γ 9 0) ∈ P214931 := RS_m hT217777 ht217813 (by decide)
                    obtain ⟨f217852, he217851, hg217853⟩ := show rk_12 I γ (F217776 (γ 9 0)) from RS_o hT217777 ht217813
                    obtain ⟨q217854, hx217856⟩ : ∃ x, x = γ 10 o217848.toInt.toNat := ⟨_, rfl⟩
                    have ht217855 : rKd γ q217854 11 := by rw [hx217856]; exact (hg217853 _ (show o217848.toInt.toNat < 40 by omega)).2.1
                    refine Gp_aald 5 hm217850 he217851 dr_cX17_behind_55 rfl rfl (gB_in bo217848 (by decide) (by decide)) ?_
                    rw [show f217852 o217848.toNatClampNeg = some q217854 from (hg217853 _ (show o217848.toInt.toNat < 40 by omega)).1.trans (by rw [hx217856])]
                    change G _ _ _ _ _ _ _ (.ref q217854 :: _) _ _ _
                    refine G_iload_n 0 dr_cX17_behind_56 rfl ?_
                    have hm217857 : q217854 ∈ P214931 := RS_m hT217777 ht217855 (by decide)
                    obtain ⟨f217859, he217858, wf217859⟩ := show rk_11 I (F217776 q217854) from RS_o hT217777 ht217855
                    refine Gp_lald 2 hm217857 he217858 dr_cX17_behind_57 rfl (gB_in bg217775' (by decide) (by decide)) (G_namL fun u217860 hu217860 => ?_)
                    have qu217860 : lb_Q u217860 (2000 - 64 * g217775.toInt) := lb_Wld hu217860 wf217859 (by omega) (by omega) (lb_Mod0 (by omega) (by omega))
                    have hg217861 : ∀ k : Nat, lvS γ F214932 o217848.toInt.toNat k = rbt f217859 k := fun k => by unfold lvS; rw [← x217780 _ (show o217848.toInt.toNat < 40 by omega), ← hx217856, cL_of he217858]
                    refine G_lor dr_cX17_behind_58 (G_namL fun u217862 hu217862 => ?_)
                    have qu217862 : lb_Q u217862 (2000 - 64 * g217775.toInt) := lb_Qor hu217862 qu217842 qu217860
                    refine Gp_last 2 hm217839 he217840 dr_cX17_behind_59 rfl (gB_in bg217775' (by decide) (by decide)) (fun F217863 e217864 n217865 => ?_)
                    obtain ⟨f217866, hf217866⟩ : ∃ z, z = vp_updL f217841 g217775.toNatClampNeg u217862 := ⟨_, rfl⟩
                    rw [← hf217866] at e217864
                    have he217867 : F217863 q214934 = .inr (17, [.ref q214988, .ref q214989, .int p214990, .int p214991]) := (n217865 q214934 (rn_oa he217785 he217840)).trans he217785
                    have he217868 : F217863 q214989 = .inr (20, [.int p215003, .int p215004, .int p215005, .int p215006, .int p215007, .int p215008, .int p215009]) := (n217865 q214989 (rn_oa he217786 he217840)).trans he217786
                    have he217869 : F217863 q214933 = .inr (22, [.ref (γ 9 0), .ref (γ 9 1), .ref (γ 9 2), .ref (γ 9 3), .ref (γ 9 4), .ref (γ 9 5), .ref (γ 9 6), .ref (γ 9 7), .ref (γ 9 8), .int p217796, .int p217797, .int p217798, .int p217799, .int p217800, .int p217801, .ref (γ 9 15), .ref (γ 9 16), .ref (γ 9 17), .ref (γ 9 18), .ref (γ 9 19), .ref (γ 9 20), .ref (γ 9 21), .ref (γ 9 22), .int p217802, .int p217803, .int p217804, .int p217805, .int p217806, .ref q217794, .ref (γ 9 29), .int p217807, .ref (γ 9 31), .int p217808, .int p217809, .int p217810, .ref q217795]) := (n217865 q214933 (rn_oa he217793 he217840)).trans he217793
                    have he217870 : F217863 (γ 9 0) = .inl (I (.array .long), 40, .inr (.inr (.inr (.inr f217852)))) := (n217865 (γ 9 0) (rn_ref_long he217851 he217840)).trans he217851
                    have he217871 : F217863 q217854 = .inl (I .long, 32, .inr (.inl f217859)) := (n217865 q217854 (rn_ty ht217855 ht217815 (by decide))).trans he217858
                    have he217872 : F217863 (γ 9 2) = .inl (I .long, 32, .inr (.inl f217866)) := e217864
                    have hs217873 : rStr γ [] F214932 F217863 := rStr_put hs217778 n217865 ht217815 (by decide)
                    have kp217874 : F217863 q214933 = F214932 q214933 := (n217865 q214933 (rn_ty htq214933 ht217815 (by decide))).trans x217782
                    have wf217866 : lb_W f217866 (32) (32) (2000) := lb_Wst hf217866 wf217841 (by omega) (lb_Mod0 (by omega) (by omega)) qu217862
                    obtain ⟨z217875, hz217875⟩ : ∃ z : Int32, z = g217775 + Int32.ofInt 1 := ⟨_, rfl⟩
                    have ez217875 : z217875.toInt = g217775.toInt + 1 := gI_inc hz217875 (by decide) bg217775' (by decide) (by decide)
                    have bz217875 : gB z217875 1 32 := ⟨by omega, by omega⟩
                    refine G_iinc (L' := [(3, .int z217875), (2, .int g217607), (0, .ref q214933), (1, .ref q214934)]) z217875 0 dr_cX17_behind_60 rfl hz217875.symm (Nat.le_of_ble_eq_true rfl) rfl ?_
                    refine G_goto 33 dr_cX17_behind_63 (by decide +kernel) ?_
                    have hT217876 : RS D I P214931 F217863 γ el := RS_set hT217777 n217865 ht217815 (by decide) ⟨f217866, he217872, wf217866⟩
                    have lv217877 : rLv γ F214932 F217863 := rLv_put hT217777 ht217813 x217780 n217865 ht217815 (by decide)
                    exact ih33_217782 F217863 z217875 (gB_w bz217875 (by decide) (by decide)) hT217876 hs217873 (by rw [cL_of he217872]; exact or_st hu217842 hu217860 (by assumption) hf217866 bg217775'.1 ez217875 (by have q := x217779; rw [cL_of he217840] at q; exact q) (fun k => (wy_s (y := o217848.toInt) (by omega)).trans (by rw [hg217861 k]))) lv217877 (by rw [show fI (F214932 q214934) 2 = p214990 from by rw [he214987]; rfl, show fI (F214932 q214934) 3 = p214991 from by rw [he214987]; rfl] <;> (omega)) kp217874 (by omega)
              exact hlp33_217782 (((33 : Int) - 0).toNat + 1) F217608 0 (gB_w (gBl (show Int32.toInt 0 = 0 by decide)) (by decide) (by decide)) hT217609 hs217610 (fun k hk => by rw [if_neg (by have qa : Int32.toInt 0 = 0 := (by decide); omega)]; exact x217611 k hk) x217612 (by rw [show fI (F214932 q214934) 2 = p214990 from by rw [he214987]; rfl, show fI (F214932 q214934) 3 = p214991 from by rw [he214987]; rfl] <;> (omega)) x217614 (Nat.lt_succ_self _)
        exact hlp23_217614 (((3 : Int) - 0).toNat + 1) F217328 0 (gB_w (gBl (show Int32.toInt 0 = 0 by decide)) (by decide) (by decide)) hT217329 hs217330 (fun k hk => (rbt_z (x217331 _ (by omega))).trans wy_0.symm) x217332 (Or.inl (by decide)) x217333 (Nat.lt_succ_self _)
      · have r217878 : g217327.toInt < 32 := gj_nleL hc217339 (show Int32.toInt 32 = 32 by decide)
        have bg217327' : gB g217327 0 31 := ⟨by omega, by omega⟩
        refine G_aload_n 1 dr_cX17_behind_8 rfl ?_
        have hm217879 : q214933 ∈ P214931 := RS_m hT217329 htq214933 (by decide)
        obtain ⟨q217881, q217882, p217883, p217884, p217885, p217886, p217887, p217888, p217889, p217890, p217891, p217892, p217893, p217894, p217895, p217896, p217897, he217880, hB217924, ht217898, ht217899, ht217900, ht217901, ht217902, ht217903, ht217904, ht217905, ht217906, ht217907, ht217908, ht217909, ht217910, ht217911, ht217912, ht217913, ht217914, ht217915, ht217916, ht217917, ht217918, ht217919, ht217920, ht217921, hB217925⟩ := show rk_10 γ (F217328 q214933) from RS_o hT217329 htq214933
        refine Gp_get 2 hm217879 he217880 dr_cX17_behind_9 (gk_X17 D I) (Nat.le_of_ble_eq_true rfl) wr_7_76 rfl ?_
        refine G_iload_n 0 dr_cX17_behind_12 rfl ?_
        refine G_lconst 0 dr_cX17_behind_13 rfl ?_
        have hm217926 : (γ 9 2) ∈ P214931 := RS_m hT217329 ht217902 (by decide)
        obtain ⟨f217928, he217927, wf217928⟩ := show rk_35 I (F217328 (γ 9 2)) from RS_o hT217329 ht217902
        refine Gp_last 2 hm217926 he217927 dr_cX17_behind_14 rfl (gB_in bg217327' (by decide) (by decide)) (fun F217929 e217930 n217931 => ?_)
        obtain ⟨f217932, hf217932⟩ : ∃ z, z = vp_updL f217928 g217327.toNatClampNeg 0 := ⟨_, rfl⟩
        rw [← hf217932] at e217930
        have he217933 : F217929 q214934 = .inr (17, [.ref q214988, .ref q214989, .int p214990, .int p214991]) := (n217931 q214934 (rn_oa he217336 he217927)).trans he217336
        have he217934 : F217929 q214989 = .inr (20, [.int p215003, .int p215004, .int p215005, .int p215006, .int p215007, .int p215008, .int p215009]) := (n217931 q214989 (rn_oa he217337 he217927)).trans he217337
        have he217935 : F217929 q214933 = .inr (22, [.ref (γ 9 0), .ref (γ 9 1), .ref (γ 9 2), .ref (γ 9 3), .ref (γ 9 4), .ref (γ 9 5), .ref (γ 9 6), .ref (γ 9 7), .ref (γ 9 8), .int p217883, .int p217884, .int p217885, .int p217886, .int p217887, .int p217888, .ref (γ 9 15), .ref (γ 9 16), .ref (γ 9 17), .ref (γ 9 18), .ref (γ 9 19), .ref (γ 9 20), .ref (γ 9 21), .ref (γ 9 22), .int p217889, .int p217890, .int p217891, .int p217892, .int p217893, .ref q217881, .ref (γ 9 29), .int p217894, .ref (γ 9 31), .int p217895, .int p217896, .int p217897, .ref q217882]) := (n217931 q214933 (rn_oa he217880 he217927)).trans he217880
        have he217936 : F217929 (γ 9 2) = .inl (I .long, 32, .inr (.inl f217932)) := e217930
        have hs217937 : rStr γ [] F214932 F217929 := rStr_put hs217330 n217931 ht217902 (by decide)
        have kp217938 : F217929 q214933 = F214932 q214933 := (n217931 q214933 (rn_ty htq214933 ht217902 (by decide))).trans x217333
        have wf217932 : lb_W f217932 (32) (32) (2000) := lb_Wst hf217932 wf217928 (by omega) (lb_Mod0 (by omega) (by omega)) lb_Q0
        obtain ⟨z217939, hz217939⟩ : ∃ z : Int32, z = g217327 + Int32.ofInt 1 := ⟨_, rfl⟩
        have ez217939 : z217939.toInt = g217327.toInt + 1 := gI_inc hz217939 (by decide) bg217327' (by decide) (by decide)
        have bz217939 : gB z217939 1 32 := ⟨by omega, by omega⟩
        refine G_iinc (L' := [(2, .int z217939), (0, .ref q214933), (1, .ref q214934)]) z217939 0 dr_cX17_behind_15 rfl hz217939.symm (Nat.le_of_ble_eq_true rfl) rfl ?_
        refine G_goto 2 dr_cX17_behind_18 (by decide +kernel) ?_
        have hT217940 : RS D I P214931 F217929 γ el := RS_set hT217329 n217931 ht217902 (by decide) ⟨f217932, he217936, wf217932⟩
        have lv217941 : rLv γ F214932 F217929 := rLv_put hT217329 ht217900 x217332 n217931 ht217902 (by decide)
        exact ih2_217333 F217929 z217939 (gB_w bz217939 (by decide) (by decide)) hT217940 hs217937 (by rw [cL_of he217936]; exact zr_st hf217932 (by have q := x217331; rw [cL_of he217927] at q; exact q) ez217939 bg217327'.1) lv217941 kp217938 (by omega)
  exact hlp2_217333 (((33 : Int) - 0).toNat + 1) F214932 0 (gB_w (gBl (show Int32.toInt 0 = 0 by decide)) (by decide) (by decide)) hT (rStr_rf (γ := γ) (W := []) (F := F214932)) (fun j hj => absurd hj (by have qa : Int32.toInt 0 = 0 := (by decide); omega)) (rLv_rf (γ := γ) (F := F214932)) rfl (Nat.lt_succ_self _)
abbrev ky_217949_SpillForgeModel_findLive : gKey := (cX17_findLive, 7, "SpillForgeModel", none, [], "findLive", fun _ _ => True)
def pt_217949_SpillForgeModel_findLive (D : va_G) (I : FieldType → ClassId) (γ el : Nat → Nat → Nat) (P217943 : List Nat) (F217944 : Nat → va_E) (q217945 : Nat) (q217946 : Nat) (p217947 : Int32) : Option Value → va_W → Nat → Nat → Prop := fun r w dc ds => ∃ (F270941 : Nat → va_E), r = none ∧ w = va_pl P217943 F270941 ∧ RS D I P217943 F270941 γ el ∧ rStr γ [] F217944 F270941 ∧ dc ≤ 0 ∧ ds ≤ 0 ∧ (F270941 q217945 = F217944 q217945)
set_option maxRecDepth 100000 in
set_option maxHeartbeats 4000000 in
theorem ct_217949_SpillForgeModel_findLive (l : Launch) (hl0 : l.stackTraces = false) (D : va_G) (I : FieldType → ClassId) (γ el : Nat → Nat → Nat) (P217943 : List Nat) (F217944 : Nat → va_E) (q217945 : Nat) (q217946 : Nat) (p217947 : Int32) (hT : RS D I P217943 F217944 γ el) (htq217945 : rKd γ q217945 10) (htq217946 : rKd γ q217946 9) (bp217947 : gB p217947 0 1) (x217948 : 0 < γ 6 (γ 1 q217946)) : CtA (gV D I) l yX17_findLive cX17_findLive 7 none 4 85 0 0 [.ref q217945, .ref q217946, .int p217947] (va_pl P217943 F217944) (pt_217949_SpillForgeModel_findLive D I γ el P217943 F217944 q217945 q217946 p217947) gNA := by
  refine CtA_of hl0 (by decide) (Nat.le_of_ble_eq_true rfl) ?_
  have hm217950 : q217945 ∈ P217943 := RS_m hT htq217945 (by decide)
  obtain ⟨q217952, q217953, p217954, p217955, p217956, p217957, p217958, p217959, p217960, p217961, p217962, p217963, p217964, p217965, p217966, p217967, p217968, he217951, hB217995, ht217969, ht217970, ht217971, ht217972, ht217973, ht217974, ht217975, ht217976, ht217977, ht217978, ht217979, ht217980, ht217981, ht217982, ht217983, ht217984, ht217985, ht217986, ht217987, ht217988, ht217989, ht217990, ht217991, ht217992, hB217996⟩ := show rk_10 γ (F217944 q217945) from RS_o hT htq217945
  have hm217997 : (γ 9 2) ∈ P217943 := RS_m hT ht217973 (by decide)
  obtain ⟨f217999, he217998, wf217999⟩ := show rk_35 I (F217944 (γ 9 2)) from RS_o hT ht217973
  refine G_iconst 0 dr_cX17_findLive_0 (by decide +kernel) ?_
  refine G_istore_n (L' := [(3, .int 0), (0, .ref q217945), (1, .ref q217946), (2, .int p217947)]) dr_cX17_findLive_1 (Nat.le_of_ble_eq_true rfl) rfl ?_
  have hlp2_265666 : ∀ (n2_265666 : Nat) (F265662 : Nat → va_E) (g265661 : Int32), gB g265661 0 1000000 → RS D I P217943 F265662 γ el → rStr γ [] F217944 F265662 → (∀ i : Nat, (i : Int) < g265661.toInt → ∀ j : Nat, j < 32 → cL (F265662 (γ 10 i)) j = 0) → (F265662 q217945 = F217944 q217945) → ((1000001 : Int) - g265661.toInt).toNat < n2_265666 → G (gV D I) l (gRm 4 85 0 0) (gMA (gV D I) (pt_217949_SpillForgeModel_findLive D I γ el P217943 F217944 q217945 q217946 p217947) gNA 0 0) ky_217949_SpillForgeModel_findLive 2 [(3, .int g265661), (0, .ref q217945), (1, .ref q217946), (2, .int p217947)] [] (va_pl P217943 F265662) 0 0 := by
    intro n2_265666
    induction n2_265666 with
    | zero => intro F265662 g265661 bg265661 hT265663 hs265664 x265665 x265666 hm2_265666; exact absurd hm2_265666 (Nat.not_lt_zero _)
    | succ n2_265666 ih2_265666 =>
      intro F265662 g265661 bg265661 hT265663 hs265664 x265665 x265666 hm2_265666
      have hs265668 : rStr γ [] F217944 F265662 := fun b h0 hb hw => (hs265664 b h0 hb hw).trans ((rStr_rf (γ := γ) (W := []) (F := F217944)) b h0 hb hw).symm
      have hs265669 : rStr γ [] F217944 F265662 := rStr_tr (rStr_rf (γ := γ) (W := []) (F := F217944)) hs265668
      refine G_iload_n 0 dr_cX17_findLive_2 rfl ?_
      refine G_aload_n 2 dr_cX17_findLive_3 rfl ?_
      have hm265670 : q217946 ∈ P217943 := RS_m hT265663 htq217946 (by decide)
      obtain ⟨q265672, q265673, p265674, p265675, he265671, ht265691, ht265676, ht265677, ht265678, ht265679, r265680, r265681, r265682, r265683, r265684, r265685, r265686, r265687, r265688, r265689, r265690⟩ := show rk_9 γ el q217946 (F265662 q217946) from RS_o hT265663 htq217946
      have bp265674 : gB p265674 0 1000000 := ⟨by omega, by omega⟩
      have bp265675 : gB p265675 0 1000000 := ⟨by omega, by omega⟩
      refine Gw_callV (As := []) (gV_ok D I) (cp_12451_Code_size l hl0 D I P217943 F265662 q217946 q265672 q265673 p265674 p265675 hm265670 he265671) dr_cX17_findLive_4 ⟨wr_10_160, wr_1_15, wr_9_131, by decide, rfl, (Nat.le_of_ble_eq_true rfl), (Nat.le_of_ble_eq_true rfl)⟩ wr_9_129 wr_9_130 hm265670 he265671 rfl (show 0 + 0 ≤ 0 by first | omega | decide) (show 0 + 0 ≤ 0 by first | omega | decide) (Nat.le_of_ble_eq_true rfl) (fun r265695 w265696 dc265692 ds265693 hp265694 => ?_) (fun _ _ _ _ _ z => z.elim)
      obtain ⟨rfl, rfl, hdc, hds⟩ := hp265694
      change G _ _ _ _ _ _ _ (.int p265675 :: _) _ _ _
      refine G_widen (cs' := 0) (sl' := 0) (by omega) (by omega) ?_
      refine G_icmp_ge 42 dr_cX17_findLive_7 (by decide +kernel) (fun hc265697 => ?_) (fun hc265697 => ?_)
      · have r265698 : p265675.toInt ≤ g265661.toInt := gC_le hc265697
        refine G_iconst 1 dr_cX17_findLive_42 (by decide +kernel) ?_
        refine G_istore_n (L' := [(3, .int 1), (0, .ref q217945), (1, .ref q217946), (2, .int p217947)]) dr_cX17_findLive_43 (Nat.le_of_ble_eq_true rfl) rfl ?_
        have hlp44_268241 : ∀ (n44_268241 : Nat) (F268237 : Nat → va_E) (g268236 : Int32), gB g268236 0 1 → RS D I P217943 F268237 γ el → rStr γ [] F217944 F268237 → rJv γ el F217944 F268237 q217946 (decide (p217947.toInt = 1)) (γ 6 (γ 1 q217946)) → (F268237 q217945 = F217944 q217945) → ((81920 - lvT γ F268237) + (g268236.toInt : Int).toNat) < n44_268241 → G (gV D I) l (gRm 4 85 0 0) (gMA (gV D I) (pt_217949_SpillForgeModel_findLive D I γ el P217943 F217944 q217945 q217946 p217947) gNA 0 0) ky_217949_SpillForgeModel_findLive 44 [(3, .int g268236), (0, .ref q217945), (1, .ref q217946), (2, .int p217947)] [] (va_pl P217943 F268237) 0 0 := by
          intro n44_268241
          induction n44_268241 with
          | zero => intro F268237 g268236 bg268236 hT268238 hs268239 x268240 x268241 hm44_268241; exact absurd hm44_268241 (Nat.not_lt_zero _)
          | succ n44_268241 ih44_268241 =>
            intro F268237 g268236 bg268236 hT268238 hs268239 x268240 x268241 hm44_268241
            have hs268243 : rStr γ [] F265662 F268237 := fun b h0 hb hw => (hs268239 b h0 hb hw).trans (hs265664 b h0 hb hw).symm
            have he268244 : F268237 q217946 = .inr (18, [.ref q265672, .ref q265673, .int p265674, .int p265675]) := (hs268243 q217946 (rT0 htq217946 (by decide)) (rT1 htq217946 (by decide)) (rT2 htq217946 (by decide))).trans he265671
            have hs268245 : rStr γ [] F217944 F268237 := rStr_tr hs265664 hs268243
            refine G_iload_n 0 dr_cX17_findLive_44 rfl ?_
            refine G_if_eq 201 dr_cX17_findLive_45 (by decide +kernel) (fun hc268246 => ?_) (fun hc268246 => ?_)
            · have r268247 : g268236.toInt = 0 := gj_eq hc268246 (show Int32.toInt 0 = 0 by decide)
              have bg268236' : gB g268236 0 0 := ⟨by omega, by omega⟩
              exact G_vretA dr_cX17_findLive_201 rfl (Nat.le_of_ble_eq_true rfl) (Nat.le_of_ble_eq_true rfl) ⟨F268237, rfl, rfl, hT268238, hs268239, (Nat.le_of_ble_eq_true rfl), (Nat.le_of_ble_eq_true rfl), x268241⟩
            · have r268248 : g268236.toInt ≠ 0 := gj_neq hc268246 (show Int32.toInt 0 = 0 by decide)
              have bg268236' : gB g268236 1 1 := ⟨by omega, by omega⟩
              refine G_iconst 0 dr_cX17_findLive_48 (by decide +kernel) ?_
              refine G_istore_n (L' := [(3, .int 0), (0, .ref q217945), (1, .ref q217946), (2, .int p217947)]) dr_cX17_findLive_49 (Nat.le_of_ble_eq_true rfl) rfl ?_
              refine G_aload_n 2 dr_cX17_findLive_50 rfl ?_
              refine Gw_callV (As := []) (gV_ok D I) (cp_12451_Code_size l hl0 D I P217943 F268237 q217946 q265672 q265673 p265674 p265675 hm265670 he268244) dr_cX17_findLive_51 ⟨wr_10_160, wr_1_15, wr_9_131, by decide, rfl, (Nat.le_of_ble_eq_true rfl), (Nat.le_of_ble_eq_true rfl)⟩ wr_9_129 wr_9_130 hm265670 he268244 rfl (show 0 + 0 ≤ 0 by first | omega | decide) (show 0 + 0 ≤ 0 by first | omega | decide) (Nat.le_of_ble_eq_true rfl) (fun r268252 w268253 dc268249 ds268250 hp268251 => ?_) (fun _ _ _ _ _ z => z.elim)
              obtain ⟨rfl, rfl, hdc, hds⟩ := hp268251
              change G _ _ _ _ _ _ _ (.int p265675 :: _) _ _ _
              refine G_widen (cs' := 0) (sl' := 0) (by omega) (by omega) ?_
              refine G_iconst 1 dr_cX17_findLive_54 (by decide +kernel) ?_
              refine G_isub dr_cX17_findLive_55 (G_nam fun z268254 hz268254 => ?_)
              have ez268254 : z268254.toInt = p265675.toInt - 1 := by rw [gI_sub hz268254 bp265675 (gBl (show Int32.toInt 1 = 1 by decide)) (by decide) (by decide), show Int32.toInt 1 = 1 from by decide]
              have bz268254 : gB z268254 (-1) 999999 := gB_sub (gI_sub hz268254 bp265675 (gBl (show Int32.toInt 1 = 1 by decide)) (by decide) (by decide)) bp265675 (gBl (show Int32.toInt 1 = 1 by decide)) (by decide) (by decide)
              refine G_istore (L' := [(4, .int z268254), (3, .int 0), (0, .ref q217945), (1, .ref q217946), (2, .int p217947)]) dr_cX17_findLive_56 (Nat.le_of_ble_eq_true rfl) rfl ?_
              have hlp58_269521 : ∀ (n58_269521 : Nat) (F269515 : Nat → va_E) (g269513 : Int32) (g269514 : Int32), gB g269513 (-1) 999999 → gB g269514 0 1 → RS D I P217943 F269515 γ el → rStr γ [] F217944 F269515 → rJv γ el F217944 F269515 q217946 (decide (p217947.toInt = 1)) (γ 6 (γ 1 q217946)) → (lvT γ F268237 + (g269514.toInt : Int).toNat ≤ lvT γ F269515) → ((g269513.toInt : Int) < γ 6 (γ 1 q217946)) → (F269515 q217945 = F217944 q217945) → ((g269513.toInt : Int) - (-2)).toNat < n58_269521 → G (gV D I) l (gRm 4 85 0 0) (gMA (gV D I) (pt_217949_SpillForgeModel_findLive D I γ el P217943 F217944 q217945 q217946 p217947) gNA 0 0) ky_217949_SpillForgeModel_findLive 58 [(4, .int g269513), (3, .int g269514), (0, .ref q217945), (1, .ref q217946), (2, .int p217947)] [] (va_pl P217943 F269515) 0 0 := by
                intro n58_269521
                induction n58_269521 with
                | zero => intro F269515 g269513 g269514 bg269513 bg269514 hT269516 hs269517 x269518 x269519 x269520 x269521 hm58_269521; exact absurd hm58_269521 (Nat.not_lt_zero _)
                | succ n58_269521 ih58_269521 =>
                  intro F269515 g269513 g269514 bg269513 bg269514 hT269516 hs269517 x269518 x269519 x269520 x269521 hm58_269521
                  have hs269523 : rStr γ [] F268237 F269515 := fun b h0 hb hw => (hs269517 b h0 hb hw).trans (hs268239 b h0 hb hw).symm
                  have he269524 : F269515 q217946 = .inr (18, [.ref q265672, .ref q265673, .int p265674, .int p265675]) := (hs269523 q217946 (rT0 htq217946 (by decide)) (rT1 htq217946 (by decide)) (rT2 htq217946 (by decide))).trans he268244
                  have hs269525 : rStr γ [] F217944 F269515 := rStr_tr hs268239 hs269523
                  refine G_iload 0 dr_cX17_findLive_58 rfl ?_
                  refine G_if_lt 198 dr_cX17_findLive_60 (by decide +kernel) (fun hc269526 => ?_) (fun hc269526 => ?_)
                  · have r269527 : g269513.toInt < 0 := gj_lt hc269526 (show Int32.toInt 0 = 0 by decide)
                    have bg269513' : gB g269513 (-1) (-1) := ⟨by omega, by omega⟩
                    have lt269528 := lvT_le (γ := γ) (F := F269515)
                    have lt269529 := lvT_le (γ := γ) (F := F268237)
                    refine G_goto 44 dr_cX17_findLive_198 (by decide +kernel) ?_
                    refine G_lv (L' := [(3, .int g269514), (0, .ref q217945), (1, .ref q217946), (2, .int p217947)]) [1, 2, 3, 4] rfl ?_
                    exact ih44_268241 F269515 g269514 bg269514 hT269516 hs269517 x269518 x269521 (by omega)
                  · have r269530 : 0 ≤ g269513.toInt := gj_nlt hc269526 (show Int32.toInt 0 = 0 by decide)
                    have bg269513' : gB g269513 0 999999 := ⟨by omega, by omega⟩
                    refine G_aload_n 3 dr_cX17_findLive_63 rfl ?_
                    refine G_iload 0 dr_cX17_findLive_64 rfl ?_
                    have hm269531 : q265672 ∈ P217943 := RS_m hT269516 ht265676 (by decide)
                    obtain ⟨⟨p269533, p269534, q269535, he269532, r269536, r269537, r269538, r269540⟩, r269539⟩ := show rk_4 D I γ el F269515 q265672 from RS_o hT269516 ht265676
                    have bp269533 := gB_any p269533
                    have bp269534 : gB p269534 0 1000000 := ⟨by omega, by omega⟩
                    obtain ⟨r269541, r269542, n269549, f269550, r269543, r269544, r269545, r269546, r269547, r269548⟩ := rLC_n r269538 (by omega)
                    have hm269551 : q269535 ∈ P217943 := RS_m hT269516 r269541 (by decide)
                    obtain ⟨q269552, hx269553⟩ : ∃ x, x = el q265672 g269513.toInt.toNat := ⟨_, rfl⟩
                    have hx269554 : f269550 g269513.toNatClampNeg = some q269552 := (r269547 _ (show g269513.toInt.toNat < γ 2 q265672 by omega)).trans (by rw [hx269553])
                    have ht269557 : rKd γ q269552 2 := by rw [hx269553]; exact (r265687 _ (by omega)).resolve_right (fun z => absurd z.1 (by omega))
                    have ht269558 : rFm γ q269552 q265672 := by rw [hx269553]; exact (r269539 _ (show g269513.toInt.toNat < γ 2 q265672 by omega)).2.1
                    have hm269559 : q269552 ∈ P217943 := RS_m hT269516 ht269557 (by decide)
                    obtain ⟨q269561, q269562, p269563, p269564, he269560, ht269571, ht269565, ht269566, ht269567, ht269568, ht269569, bp269563, bp269564, r269570, r269572, r269573⟩ := show rk_2 γ q269552 (F269515 q269552) from RS_o hT269516 ht269557
                    refine Gw_callV (As := [.int g269513]) (gV_ok D I) (cp_7723_Code_get l hl0 D I P217943 F269515 q217946 q265672 q269535 g269513 q265673 p265674 p265675 p269533 p269534 f269550 n269549 q269552 q269561 q269562 p269563 p269564 hm265670 hm269531 hm269551 hm269559 he269524 he269532 r269543 he269560 (gB_w bg269513' (by decide) (by decide)) (gB_w bp269534 (by decide) (by decide)) (by omega) (by omega) (by assumption) (by omega)) dr_cX17_findLive_66 ⟨wr_10_161, wr_1_15, wr_10_141, by decide, rfl, (Nat.le_of_ble_eq_true rfl), (Nat.le_of_ble_eq_true rfl)⟩ wr_10_139 wr_10_140 hm265670 he269524 rfl (show 0 + 0 ≤ 0 by first | omega | decide) (show 0 + 0 ≤ 0 by first | omega | decide) (Nat.le_of_ble_eq_true rfl) (fun r269577 w269578 dc269574 ds269575 hp269576 => ?_) (fun _ _ _ _ _ z => z.elim)
                    obtain ⟨rfl, rfl, hdc, hds⟩ := hp269576
                    change G _ _ _ _ _ _ _ (.ref q269552 :: _) _ _ _
                    refine G_widen (cs' := 0) (sl' := 0) (by omega) (by omega) ?_
                    refine G_astore (L' := [(5, .ref q269552), (4, .int g269513), (3, .int g269514), (0, .ref q217945), (1, .ref q217946), (2, .int p217947)]) dr_cX17_findLive_69 (Nat.le_of_ble_eq_true rfl) rfl ?_
                    refine G_aload_n 3 dr_cX17_findLive_71 rfl ?_
                    refine G_aload 0 dr_cX17_findLive_72 rfl ?_
                    have fl269579 : F269515 q269552 = F217944 q269552 := hs269517 q269552 (rT0 ht269557 (by decide)) (rT1 ht269557 (by decide)) (rT2 ht269557 (by decide))
                    have fl269580 : F269515 q269562 = F217944 q269562 := hs269517 q269562 (rT0 ht269567 (by decide)) (rT1 ht269567 (by decide)) (rT2 ht269567 (by decide))
                    have fl269581 : (fI (F217944 q269552) 2).toInt = p269563.toInt := by rw [← fl269579, he269560]; rfl
                    have fl269582 : (fI (F217944 q269552) 3).toInt = p269564.toInt := by rw [← fl269579, he269560]; rfl
                    have fl269583 : γ 2 (γ 14 q269552) = γ 2 q269561 := by rw [ht269571.1]
                    have fl269584 : q269552 = el (γ 14 q217946) (g269513.toInt : Int).toNat := by rw [hx269553, ht265691.1]
                    have hm269590 : q217945 ∈ P217943 := RS_m hT269516 htq217945 (by decide)
                    obtain ⟨q269592, q269593, p269594, p269595, p269596, p269597, p269598, p269599, p269600, p269601, p269602, p269603, p269604, p269605, p269606, p269607, p269608, he269591, hB269635, ht269609, ht269610, ht269611, ht269612, ht269613, ht269614, ht269615, ht269616, ht269617, ht269618, ht269619, ht269620, ht269621, ht269622, ht269623, ht269624, ht269625, ht269626, ht269627, ht269628, ht269629, ht269630, ht269631, ht269632, hB269636⟩ := show rk_10 γ (F269515 q217945) from RS_o hT269516 htq217945
                    refine Gw_callV (As := [.ref q269552]) (gV_ok D I) (ct_214935_SpillForgeModel_behind l hl0 D I γ el P217943 F269515 q217945 q269552 hT269516 htq217945 ht269557) dr_cX17_findLive_74 ⟨wr_10_162, wr_1_14, wr_10_165, by decide, rfl, (Nat.le_of_ble_eq_true rfl), (Nat.le_of_ble_eq_true rfl)⟩ wr_10_164 wr_p_95 hm269590 he269591 rfl (show 0 + 0 ≤ 0 by first | omega | decide) (show 0 + 0 ≤ 0 by first | omega | decide) (Nat.le_of_ble_eq_true rfl) (fun r269588 w269589 dc269585 ds269586 hp269587 => ?_) (fun _ _ _ _ _ z => z.elim)
                    obtain ⟨F269640, rfl, rfl, hT269641, hs269642, hdc, hds, x269637, x269638, x269639⟩ := hp269587
                    have he269643 : F269640 q217946 = .inr (18, [.ref q265672, .ref q265673, .int p265674, .int p265675]) := (hs269642 q217946 (rT0 htq217946 (by decide)) (rT1 htq217946 (by decide)) (rT2 htq217946 (by decide))).trans he269524
                    have he269644 : F269640 q265672 = .inr (4, [.int p269533, .ref q269535, .int p269534]) := (hs269642 q265672 (rT0 ht265676 (by decide)) (rT1 ht265676 (by decide)) (rT2 ht265676 (by decide))).trans he269532
                    have he269645 : F269640 q269535 = .inl (I (.object "java/lang/Object"), n269549, .inr (.inr (.inr (.inr f269550)))) := (hs269642 q269535 (rT0 r269541 (by decide)) (rT1 r269541 (by decide)) (rT2 r269541 (by decide))).trans r269543
                    have he269646 : F269640 q269552 = .inr (17, [.ref q269561, .ref q269562, .int p269563, .int p269564]) := (hs269642 q269552 (rT0 ht269557 (by decide)) (rT1 ht269557 (by decide)) (rT2 ht269557 (by decide))).trans he269560
                    have hs269647 : rStr γ [] F217944 F269640 := rStr_tr hs269517 hs269642
                    have kp269648 : F269640 q217945 = F217944 q217945 := (x269639).trans x269521
                    change G _ _ _ _ _ _ _ _ _ _ _
                    refine G_widen (cs' := 0) (sl' := 0) (by omega) (by omega) ?_
                    refine G_aload_n 3 dr_cX17_findLive_77 rfl ?_
                    refine G_aload 0 dr_cX17_findLive_78 rfl ?_
                    refine Gp_get 1 hm269559 he269646 dr_cX17_findLive_80 (gk_X12 D I) (Nat.le_of_ble_eq_true rfl) wr_9_223 rfl ?_
                    refine G_iload_n 5 dr_cX17_findLive_83 rfl ?_
                    have fl269649 : F269640 q269562 = F217944 (γ 15 q269552) := by rw [ht269571.2.1]; exact hs269647 q269562 (rT0 ht269567 (by decide)) (rT1 ht269567 (by decide)) (rT2 ht269567 (by decide))
                    have hm269655 : q217945 ∈ P217943 := RS_m hT269641 htq217945 (by decide)
                    obtain ⟨q269657, q269658, p269659, p269660, p269661, p269662, p269663, p269664, p269665, p269666, p269667, p269668, p269669, p269670, p269671, p269672, p269673, he269656, hB269700, ht269674, ht269675, ht269676, ht269677, ht269678, ht269679, ht269680, ht269681, ht269682, ht269683, ht269684, ht269685, ht269686, ht269687, ht269688, ht269689, ht269690, ht269691, ht269692, ht269693, ht269694, ht269695, ht269696, ht269697, hB269701⟩ := show rk_10 γ (F269640 q217945) from RS_o hT269641 htq217945
                    refine Gw_callV (As := [.ref q269562, .int p217947]) (gV_ok D I) (ct_214613_SpillForgeModel_back l hl0 D I γ el P217943 F269640 q217945 q269562 p217947 hT269641 htq217945 ht269567 bp217947) dr_cX17_findLive_84 ⟨wr_10_174, wr_1_14, wr_10_177, by decide, rfl, (Nat.le_of_ble_eq_true rfl), (Nat.le_of_ble_eq_true rfl)⟩ wr_10_176 wr_p_96 hm269655 he269656 rfl (show 0 + 0 ≤ 0 by first | omega | decide) (show 0 + 0 ≤ 0 by first | omega | decide) (Nat.le_of_ble_eq_true rfl) (fun r269653 w269654 dc269650 ds269651 hp269652 => ?_) (fun _ _ _ _ _ z => z.elim)
                    obtain ⟨F269705, rfl, rfl, hT269706, hs269707, hdc, hds, x269702, x269703, x269704⟩ := hp269652
                    have he269708 : F269705 q217946 = .inr (18, [.ref q265672, .ref q265673, .int p265674, .int p265675]) := (hs269707 q217946 (rT0 htq217946 (by decide)) (rT1 htq217946 (by decide)) (rT2 htq217946 (by decide))).trans he269643
                    have he269709 : F269705 q265672 = .inr (4, [.int p269533, .ref q269535, .int p269534]) := (hs269707 q265672 (rT0 ht265676 (by decide)) (rT1 ht265676 (by decide)) (rT2 ht265676 (by decide))).trans he269644
                    have he269710 : F269705 q269535 = .inl (I (.object "java/lang/Object"), n269549, .inr (.inr (.inr (.inr f269550)))) := (hs269707 q269535 (rT0 r269541 (by decide)) (rT1 r269541 (by decide)) (rT2 r269541 (by decide))).trans he269645
                    have he269711 : F269705 q269552 = .inr (17, [.ref q269561, .ref q269562, .int p269563, .int p269564]) := (hs269707 q269552 (rT0 ht269557 (by decide)) (rT1 ht269557 (by decide)) (rT2 ht269557 (by decide))).trans he269646
                    have hs269712 : rStr γ [] F217944 F269705 := rStr_tr hs269647 hs269707
                    have kp269713 : F269705 q217945 = F217944 q217945 := (x269704).trans kp269648
                    change G _ _ _ _ _ _ _ _ _ _ _
                    refine G_widen (cs' := 0) (sl' := 0) (by omega) (by omega) ?_
                    refine G_aload 0 dr_cX17_findLive_87 rfl ?_
                    refine Gp_get 0 hm269559 he269711 dr_cX17_findLive_89 (gk_X12 D I) (Nat.le_of_ble_eq_true rfl) wr_9_220 rfl ?_
                    have hm269714 : q269561 ∈ P217943 := RS_m hT269706 ht269565 (by decide)
                    obtain ⟨⟨p269716, p269717, q269718, he269715, r269719, r269720, r269721, r269723⟩, r269722⟩ := show rk_3 D I γ el F269705 q269561 from RS_o hT269706 ht269565
                    have bp269716 := gB_any p269716
                    have bp269717 : gB p269717 0 1000000 := ⟨by omega, by omega⟩
                    refine Gw_callV (As := []) (gV_ok D I) (cp_7_ArrayList_size l hl0 D I P217943 F269705 q269561 p269716 q269718 p269717 hm269714 he269715 (gB_w bp269717 (by decide) (by decide))) dr_cX17_findLive_92 ⟨wr_10_200, wr_1_18, wr_9_160, by decide, rfl, (Nat.le_of_ble_eq_true rfl), (Nat.le_of_ble_eq_true rfl)⟩ wr_9_158 wr_9_159 hm269714 he269715 rfl (show 0 + 0 ≤ 0 by first | omega | decide) (show 0 + 0 ≤ 0 by first | omega | decide) (Nat.le_of_ble_eq_true rfl) (fun r269727 w269728 dc269724 ds269725 hp269726 => ?_) (fun _ _ _ _ _ z => z.elim)
                    obtain ⟨rfl, rfl, hdc, hds⟩ := hp269726
                    change G _ _ _ _ _ _ _ (.int p269717 :: _) _ _ _
                    refine G_widen (cs' := 0) (sl' := 0) (by omega) (by omega) ?_
                    refine G_iconst 1 dr_cX17_findLive_95 (by decide +kernel) ?_
                    refine G_isub dr_cX17_findLive_96 (G_nam fun z269729 hz269729 => ?_)
                    have ez269729 : z269729.toInt = p269717.toInt - 1 := by rw [gI_sub hz269729 bp269717 (gBl (show Int32.toInt 1 = 1 by decide)) (by decide) (by decide), show Int32.toInt 1 = 1 from by decide]
                    have bz269729 : gB z269729 (-1) 999999 := gB_sub (gI_sub hz269729 bp269717 (gBl (show Int32.toInt 1 = 1 by decide)) (by decide) (by decide)) bp269717 (gBl (show Int32.toInt 1 = 1 by decide)) (by decide) (by decide)
                    refine G_istore (L' := [(6, .int z269729), (5, .ref q269552), (4, .int g269513), (3, .int g269514), (0, .ref q217945), (1, .ref q217946), (2, .int p217947)]) dr_cX17_findLive_97 (Nat.le_of_ble_eq_true rfl) rfl ?_
                    have hlp99_270258 : ∀ (n99_270258 : Nat) (F270251 : Nat → va_E) (g270250 : Int32), gB g270250 (-1) 999999 → RS D I P217943 F270251 γ el → rStr γ [] F217944 F270251 → rLv γ F269515 F270251 → (∀ k : Nat, k < 2048 → rbt (cL (F270251 (γ 9 2))) k = trS γ el F217944 (decide (p217947.toInt = 1)) q269552 (lvM γ F269515) ((((γ 2 (γ 14 q269552) : Nat) : Int) - 1 - g270250.toInt).toNat) k) → ((g270250.toInt : Int) < γ 2 (γ 14 q269552)) → (q269552 = el (γ 14 q217946) (g269513.toInt : Int).toNat) → (F270251 q217945 = F217944 q217945) → ((g270250.toInt : Int) - (-2)).toNat < n99_270258 → G (gV D I) l (gRm 4 85 0 0) (gMA (gV D I) (pt_217949_SpillForgeModel_findLive D I γ el P217943 F217944 q217945 q217946 p217947) gNA 0 0) ky_217949_SpillForgeModel_findLive 99 [(6, .int g270250), (5, .ref q269552), (4, .int g269513), (3, .int g269514), (0, .ref q217945), (1, .ref q217946), (2, .int p217947)] [] (va_pl P217943 F270251) 0 0 := by
                      intro n99_270258
                      induction n99_270258 with
                      | zero => intro F270251 g270250 bg270250 hT270252 hs270253 x270254 x270255 x270256 x270257 x270258 hm99_270258; exact absurd hm99_270258 (Nat.not_lt_zero _)
                      | succ n99_270258 ih99_270258 =>
                        intro F270251 g270250 bg270250 hT270252 hs270253 x270254 x270255 x270256 x270257 x270258 hm99_270258
                        have hs270260 : rStr γ [] F269705 F270251 := fun b h0 hb hw => (hs270253 b h0 hb hw).trans (hs269712 b h0 hb hw).symm
                        have he270261 : F270251 q217946 = .inr (18, [.ref q265672, .ref q265673, .int p265674, .int p265675]) := (hs270260 q217946 (rT0 htq217946 (by decide)) (rT1 htq217946 (by decide)) (rT2 htq217946 (by decide))).trans he269708
                        have he270262 : F270251 q265672 = .inr (4, [.int p269533, .ref q269535, .int p269534]) := (hs270260 q265672 (rT0 ht265676 (by decide)) (rT1 ht265676 (by decide)) (rT2 ht265676 (by decide))).trans he269709
                        have he270263 : F270251 q269535 = .inl (I (.object "java/lang/Object"), n269549, .inr (.inr (.inr (.inr f269550)))) := (hs270260 q269535 (rT0 r269541 (by decide)) (rT1 r269541 (by decide)) (rT2 r269541 (by decide))).trans he269710
                        have he270264 : F270251 q269552 = .inr (17, [.ref q269561, .ref q269562, .int p269563, .int p269564]) := (hs270260 q269552 (rT0 ht269557 (by decide)) (rT1 ht269557 (by decide)) (rT2 ht269557 (by decide))).trans he269711
                        have he270265 : F270251 q269561 = .inr (4, [.int p269716, .ref q269718, .int p269717]) := (hs270260 q269561 (rT0 ht269565 (by decide)) (rT1 ht269565 (by decide)) (rT2 ht269565 (by decide))).trans he269715
                        have hs270266 : rStr γ [] F217944 F270251 := rStr_tr hs269712 hs270260
                        refine G_iload 0 dr_cX17_findLive_99 rfl ?_
                        refine G_if_lt 128 dr_cX17_findLive_101 (by decide +kernel) (fun hc270267 => ?_) (fun hc270267 => ?_)
                        · have r270268 : g270250.toInt < 0 := gj_lt hc270267 (show Int32.toInt 0 = 0 by decide)
                          have bg270250' : gB g270250 (-1) (-1) := ⟨by omega, by omega⟩
                          refine G_iconst 0 dr_cX17_findLive_128 (by decide +kernel) ?_
                          refine G_istore (L' := [(6, .int 0), (5, .ref q269552), (4, .int g269513), (3, .int g269514), (0, .ref q217945), (1, .ref q217946), (2, .int p217947)]) dr_cX17_findLive_129 (Nat.le_of_ble_eq_true rfl) rfl ?_
                          have hlp131_270472 : ∀ (n131_270472 : Nat) (F270464 : Nat → va_E) (g270462 : Int32) (g270463 : Int32), gB g270462 0 32 → gB g270463 0 1 → RS D I P217943 F270464 γ el → rStr γ [] F217944 F270464 → (∀ i : Nat, i < 40 → (i : Int) ≠ g269513.toInt → F270464 (γ 10 i) = F269515 (γ 10 i)) → (∀ k : Nat, k < 2048 → rbt (cL (F270464 (γ 9 2))) k = trS γ el F217944 (decide (p217947.toInt = 1)) q269552 (lvM γ F269515) (γ 2 (γ 14 q269552)) k) → (∀ k : Nat, k < 2048 → lvS γ F270464 (g269513.toInt : Int).toNat k = if (k : Int) < 64 * g270462.toInt then trS γ el F217944 (decide (p217947.toInt = 1)) q269552 (lvM γ F269515) (γ 2 (γ 14 q269552)) k else lvS γ F269515 (g269513.toInt : Int).toNat k) → (lvT γ F268237 + (g270463.toInt : Int).toNat ≤ lvT γ F270464) → (q269552 = el (γ 14 q217946) (g269513.toInt : Int).toNat) → (F270464 q217945 = F217944 q217945) → ((33 : Int) - g270462.toInt).toNat < n131_270472 → G (gV D I) l (gRm 4 85 0 0) (gMA (gV D I) (pt_217949_SpillForgeModel_findLive D I γ el P217943 F217944 q217945 q217946 p217947) gNA 0 0) ky_217949_SpillForgeModel_findLive 131 [(6, .int g270462), (5, .ref q269552), (4, .int g269513), (3, .int g270463), (0, .ref q217945), (1, .ref q217946), (2, .int p217947)] [] (va_pl P217943 F270464) 0 0 := by
                            intro n131_270472
                            induction n131_270472 with
                            | zero => intro F270464 g270462 g270463 bg270462 bg270463 hT270465 hs270466 x270467 x270468 x270469 x270470 x270471 x270472 hm131_270472; exact absurd hm131_270472 (Nat.not_lt_zero _)
                            | succ n131_270472 ih131_270472 =>
                              intro F270464 g270462 g270463 bg270462 bg270463 hT270465 hs270466 x270467 x270468 x270469 x270470 x270471 x270472 hm131_270472
                              have hs270474 : rStr γ [] F270251 F270464 := fun b h0 hb hw => (hs270466 b h0 hb hw).trans (hs270253 b h0 hb hw).symm
                              have he270475 : F270464 q217946 = .inr (18, [.ref q265672, .ref q265673, .int p265674, .int p265675]) := (hs270474 q217946 (rT0 htq217946 (by decide)) (rT1 htq217946 (by decide)) (rT2 htq217946 (by decide))).trans he270261
                              have he270476 : F270464 q265672 = .inr (4, [.int p269533, .ref q269535, .int p269534]) := (hs270474 q265672 (rT0 ht265676 (by decide)) (rT1 ht265676 (by decide)) (rT2 ht265676 (by decide))).trans he270262
                              have he270477 : F270464 q269535 = .inl (I (.object "java/lang/Object"), n269549, .inr (.inr (.inr (.inr f269550)))) := (hs270474 q269535 (rT0 r269541 (by decide)) (rT1 r269541 (by decide)) (rT2 r269541 (by decide))).trans he270263
                              have he270478 : F270464 q269552 = .inr (17, [.ref q269561, .ref q269562, .int p269563, .int p269564]) := (hs270474 q269552 (rT0 ht269557 (by decide)) (rT1 ht269557 (by decide)) (rT2 ht269557 (by decide))).trans he270264
                              have hs270479 : rStr γ [] F217944 F270464 := rStr_tr hs270253 hs270474
                              refine G_iload 0 dr_cX17_findLive_131 rfl ?_
                              refine G_bipush 32 dr_cX17_findLive_133 (by decide +kernel) ?_
                              refine G_icmp_ge 192 dr_cX17_findLive_135 (by decide +kernel) (fun hc270480 => ?_) (fun hc270480 => ?_)
                              · have r270481 : 32 ≤ g270462.toInt := gj_leL hc270480 (show Int32.toInt 32 = 32 by decide)
                                have bg270462' : gB g270462 32 32 := ⟨by omega, by omega⟩
                                obtain ⟨z270482, hz270482⟩ : ∃ z : Int32, z = g269513 + Int32.ofInt (-1) := ⟨_, rfl⟩
                                have ez270482 : z270482.toInt = g269513.toInt + (-1) := gI_inc hz270482 (by decide) bg269513' (by decide) (by decide)
                                have bz270482 : gB z270482 (-1) 999998 := ⟨by omega, by omega⟩
                                refine G_iinc (L' := [(4, .int z270482), (6, .int g270462), (5, .ref q269552), (3, .int g270463), (0, .ref q217945), (1, .ref q217946), (2, .int p217947)]) z270482 2 dr_cX17_findLive_192 rfl hz270482.symm (Nat.le_of_ble_eq_true rfl) rfl ?_
                                refine G_goto 58 dr_cX17_findLive_195 (by decide +kernel) ?_
                                refine G_lv (L' := [(4, .int z270482), (3, .int g270463), (0, .ref q217945), (1, .ref q217946), (2, .int p217947)]) [0, 3, 4, 5, 6] rfl ?_
                                exact ih58_269521 F270464 z270482 g270463 (gB_w bz270482 (by decide) (by decide)) bg270463 hT270465 hs270466 (rJv_s x269518 (i0 := g269513.toInt.toNat) (by omega) (by omega) (fun i hi hne => x270467 i hi (by omega)) (fun k hk => by have q := x270469 k hk; rw [if_pos (by omega)] at q; rw [q, ← x270471])) (by have q := x270470; omega) (by omega) x270472 (by omega)
                              · have r270483 : g270462.toInt < 32 := gj_nleL hc270480 (show Int32.toInt 32 = 32 by decide)
                                have bg270462' : gB g270462 0 31 := ⟨by omega, by omega⟩
                                refine G_iload_n 3 dr_cX17_findLive_138 rfl ?_
                                refine G_if_ne 163 dr_cX17_findLive_139 (by decide +kernel) (fun hc270484 => ?_) (fun hc270484 => ?_)
                                · have r270485 : g270463.toInt ≠ 0 := gj_neq hc270484 (show Int32.toInt 0 = 0 by decide)
                                  have bg270463' : gB g270463 1 1 := ⟨by omega, by omega⟩
                                  refine G_iconst 1 dr_cX17_findLive_163 (by decide +kernel) ?_
                                  refine G_goto 168 dr_cX17_findLive_164 (by decide +kernel) ?_
                                  refine G_istore_n (L' := [(3, .int 1), (6, .int g270462), (5, .ref q269552), (4, .int g269513), (0, .ref q217945), (1, .ref q217946), (2, .int p217947)]) dr_cX17_findLive_168 (Nat.le_of_ble_eq_true rfl) rfl ?_
                                  refine G_aload_n 4 dr_cX17_findLive_169 rfl ?_
                                  have hm270486 : q217945 ∈ P217943 := RS_m hT270465 htq217945 (by decide)
                                  obtain ⟨q270488, q270489, p270490, p270491, p270492, p270493, p270494, p270495, p270496, p270497, p270498, p270499, p270500, p270501, p270502, p270503, p270504, he270487, hB270531, ht270505, ht270506, ht270507, ht270508, ht270509, ht270510, ht270511, ht270512, ht270513, ht270514, ht270515, ht270516, ht270517, ht270518, ht270519, ht270520, ht270521, ht270522, ht270523, ht270524, ht270525, ht270526, ht270527, ht270528, hB270532⟩ := show rk_10 γ (F270464 q217945) from RS_o hT270465 htq217945
                                  refine Gp_get 0 hm270486 he270487 dr_cX17_findLive_170 (gk_X17 D I) (Nat.le_of_ble_eq_true rfl) wr_7_74 rfl ?_
                                  refine G_iload 3 dr_cX17_findLive_173 rfl ?_
                                  have hm270533 : (γ 9 0) ∈ P217943 := RS_m hT270465 ht270507 (by decide)
                                  obtain ⟨f270535, he270534, hg270536⟩ := show rk_12 I γ (F270464 (γ 9 0)) from RS_o hT270465 ht270507
                                  obtain ⟨q270537, hx270539⟩ : ∃ x, x = γ 10 g269513.toInt.toNat := ⟨_, rfl⟩
                                  have ht270538 : rKd γ q270537 11 := by rw [hx270539]; exact (hg270536 _ (show g269513.toInt.toNat < 40 by omega)).2.1
                                  refine Gp_aald 5 hm270533 he270534 dr_cX17_findLive_175 rfl rfl (gB_inr (by omega) (by omega)) ?_
                                  rw [show f270535 g269513.toNatClampNeg = some q270537 from (hg270536 _ (show g269513.toInt.toNat < 40 by omega)).1.trans (by rw [hx270539])]
                                  change G _ _ _ _ _ _ _ (.ref q270537 :: _) _ _ _
                                  refine G_iload 1 dr_cX17_findLive_176 rfl ?_
                                  refine G_aload_n 4 dr_cX17_findLive_178 rfl ?_
                                  refine Gp_get 2 hm270486 he270487 dr_cX17_findLive_179 (gk_X17 D I) (Nat.le_of_ble_eq_true rfl) wr_7_76 rfl ?_
                                  refine G_iload 1 dr_cX17_findLive_182 rfl ?_
                                  have hm270540 : (γ 9 2) ∈ P217943 := RS_m hT270465 ht270509 (by decide)
                                  obtain ⟨f270542, he270541, wf270542⟩ := show rk_35 I (F270464 (γ 9 2)) from RS_o hT270465 ht270509
                                  refine Gp_lald 2 hm270540 he270541 dr_cX17_findLive_184 rfl (gB_in bg270462' (by decide) (by decide)) (G_namL fun u270543 hu270543 => ?_)
                                  have qu270543 : lb_Q u270543 (2000 - 64 * g270462.toInt) := lb_Wld hu270543 wf270542 (by omega) (by omega) (lb_Mod0 (by omega) (by omega))
                                  have hm270544 : q270537 ∈ P217943 := RS_m hT270465 ht270538 (by decide)
                                  obtain ⟨f270546, he270545, wf270546⟩ := show rk_11 I (F270464 q270537) from RS_o hT270465 ht270538
                                  refine Gp_last 2 hm270544 he270545 dr_cX17_findLive_185 rfl (gB_in bg270462' (by decide) (by decide)) (fun F270547 e270548 n270549 => ?_)
                                  obtain ⟨f270550, hf270550⟩ : ∃ z, z = vp_updL f270546 g270462.toNatClampNeg u270543 := ⟨_, rfl⟩
                                  rw [← hf270550] at e270548
                                  have he270551 : F270547 q217946 = .inr (18, [.ref q265672, .ref q265673, .int p265674, .int p265675]) := (n270549 q217946 (rn_oa he270475 he270545)).trans he270475
                                  have he270552 : F270547 q265672 = .inr (4, [.int p269533, .ref q269535, .int p269534]) := (n270549 q265672 (rn_oa he270476 he270545)).trans he270476
                                  have he270553 : F270547 q269535 = .inl (I (.object "java/lang/Object"), n269549, .inr (.inr (.inr (.inr f269550)))) := (n270549 q269535 (rn_ref_long he270477 he270545)).trans he270477
                                  have he270554 : F270547 q269552 = .inr (17, [.ref q269561, .ref q269562, .int p269563, .int p269564]) := (n270549 q269552 (rn_oa he270478 he270545)).trans he270478
                                  have he270555 : F270547 q217945 = .inr (22, [.ref (γ 9 0), .ref (γ 9 1), .ref (γ 9 2), .ref (γ 9 3), .ref (γ 9 4), .ref (γ 9 5), .ref (γ 9 6), .ref (γ 9 7), .ref (γ 9 8), .int p270490, .int p270491, .int p270492, .int p270493, .int p270494, .int p270495, .ref (γ 9 15), .ref (γ 9 16), .ref (γ 9 17), .ref (γ 9 18), .ref (γ 9 19), .ref (γ 9 20), .ref (γ 9 21), .ref (γ 9 22), .int p270496, .int p270497, .int p270498, .int p270499, .int p270500, .ref q270488, .ref (γ 9 29), .int p270501, .ref (γ 9 31), .int p270502, .int p270503, .int p270504, .ref q270489]) := (n270549 q217945 (rn_oa he270487 he270545)).trans he270487
                                  have he270556 : F270547 (γ 9 0) = .inl (I (.array .long), 40, .inr (.inr (.inr (.inr f270535)))) := (n270549 (γ 9 0) (rn_ref_long he270534 he270545)).trans he270534
                                  have he270557 : F270547 (γ 9 2) = .inl (I .long, 32, .inr (.inl f270542)) := (n270549 (γ 9 2) (rn_ty ht270509 ht270538 (by decide))).trans he270541
                                  have he270558 : F270547 q270537 = .inl (I .long, 32, .inr (.inl f270550)) := e270548
                                  have hs270559 : rStr γ [] F217944 F270547 := rStr_put hs270466 n270549 ht270538 (by decide)
                                  have kp270560 : F270547 q217945 = F217944 q217945 := (n270549 q217945 (rn_ty htq217945 ht270538 (by decide))).trans x270472
                                  have wf270550 : lb_W f270550 (32) (32) (2000) := lb_Wst hf270550 wf270546 (by omega) (lb_Mod0 (by omega) (by omega)) qu270543
                                  obtain ⟨z270561, hz270561⟩ : ∃ z : Int32, z = g270462 + Int32.ofInt 1 := ⟨_, rfl⟩
                                  have ez270561 : z270561.toInt = g270462.toInt + 1 := gI_inc hz270561 (by decide) bg270462' (by decide) (by decide)
                                  have bz270561 : gB z270561 1 32 := ⟨by omega, by omega⟩
                                  refine G_iinc (L' := [(6, .int z270561), (3, .int 1), (5, .ref q269552), (4, .int g269513), (0, .ref q217945), (1, .ref q217946), (2, .int p217947)]) z270561 1 dr_cX17_findLive_186 rfl hz270561.symm (Nat.le_of_ble_eq_true rfl) rfl ?_
                                  refine G_goto 131 dr_cX17_findLive_189 (by decide +kernel) ?_
                                  have hT270562 : RS D I P217943 F270547 γ el := RS_set hT270465 n270549 ht270538 (by decide) ⟨f270550, he270558, wf270550⟩
                                  refine G_lv (L' := [(6, .int z270561), (5, .ref q269552), (4, .int g269513), (3, .int 1), (0, .ref q217945), (1, .ref q217946), (2, .int p217947)]) [0, 2, 3, 1, 4, 5, 6] rfl ?_
                                  exact ih131_270472 F270547 z270561 1 (gB_w bz270561 (by decide) (by decide)) (gB_w (gBl (show Int32.toInt 1 = 1 by decide)) (by decide) (by decide)) hT270562 hs270559 (fun i hi hne => (n270549 _ (by rw [hx270539]; exact RS_lne hT270562 ht270507 hi (by omega) (by omega))).trans (x270467 i hi hne)) (fun k hk => by rw [n270549 (γ 9 2) (rn_ty ht270509 ht270538 (by decide))]; exact x270468 k hk) (fun k hk => by unfold lvS; rw [← hx270539, cL_of he270558]; exact cp_st hu270543 hf270550 bg270462'.1 ez270561 (fun k hk => by have q := x270469 k hk; unfold lvS at q; rw [← hx270539, cL_of he270545] at q; exact q) (fun k hk => by have q := x270468 k hk; rw [cL_of he270541] at q; exact q) k hk) (by have gz : (g270462.toNatClampNeg : Int) = g270462.toInt := g_nn bg270462'.1; have hU := lvT_u (γ := γ) (F := F270464) (i := g269513.toInt.toNat) (z := g270462.toNatClampNeg) (by omega) (cl32 bg270462'.1 (by omega)) (fun i hi hne => n270549 _ (by rw [hx270539]; exact RS_lne hT270562 ht270507 hi (by omega) hne)) (by rw [← hx270539]; exact cL_of he270545) (by rw [← hx270539]; exact cL_of he270558) hf270550; have hS := rpop_sub (lv_w (f := f270546) (g := f270542) (A := trS γ el F217944 (decide (p217947.toInt = 1)) q269552 (lvM γ F269515) (γ 2 (γ 14 q269552))) (z := g270462.toNatClampNeg) (cl32 bg270462'.1 (by omega)) (fun k' h1 h2 h3 => by have q := x270469 k' h1; unfold lvS at q; rw [← hx270539, cL_of he270545, if_neg (by omega)] at q; rw [q] at h3; rw [x270471]; exact x269518 _ (by omega) k' ((lvM_e (by omega) h1).trans (by unfold lvS; rw [← hx270539]; exact h3))) (fun k hk => by have q := x270468 k hk; rw [cL_of he270541] at q; exact q)); rw [← hu270543] at hS; have q := x270470; have qb0 : Int32.toInt 0 = 0 := (by decide); have qb1 : Int32.toInt 1 = 1 := (by decide); omega) x270471 kp270560 (by have qa0 : Int32.toInt 1 = 1 := (by decide); omega)
                                · have r270563 : g270463.toInt = 0 := gj_eq hc270484 (show Int32.toInt 0 = 0 by decide)
                                  have bg270463' : gB g270463 0 0 := ⟨by omega, by omega⟩
                                  refine G_aload_n 4 dr_cX17_findLive_142 rfl ?_
                                  have hm270564 : q217945 ∈ P217943 := RS_m hT270465 htq217945 (by decide)
                                  obtain ⟨q270566, q270567, p270568, p270569, p270570, p270571, p270572, p270573, p270574, p270575, p270576, p270577, p270578, p270579, p270580, p270581, p270582, he270565, hB270609, ht270583, ht270584, ht270585, ht270586, ht270587, ht270588, ht270589, ht270590, ht270591, ht270592, ht270593, ht270594, ht270595, ht270596, ht270597, ht270598, ht270599, ht270600, ht270601, ht270602, ht270603, ht270604, ht270605, ht270606, hB270610⟩ := show rk_10 γ (F270464 q217945) from RS_o hT270465 htq217945
                                  refine Gp_get 0 hm270564 he270565 dr_cX17_findLive_143 (gk_X17 D I) (Nat.le_of_ble_eq_true rfl) wr_7_74 rfl ?_
                                  refine G_iload 2 dr_cX17_findLive_146 rfl ?_
                                  have hm270611 : (γ 9 0) ∈ P217943 := RS_m hT270465 ht270585 (by decide)
                                  obtain ⟨f270613, he270612, hg270614⟩ := show rk_12 I γ (F270464 (γ 9 0)) from RS_o hT270465 ht270585
                                  obtain ⟨q270615, hx270617⟩ : ∃ x, x = γ 10 g269513.toInt.toNat := ⟨_, rfl⟩
                                  have ht270616 : rKd γ q270615 11 := by rw [hx270617]; exact (hg270614 _ (show g269513.toInt.toNat < 40 by omega)).2.1
                                  refine Gp_aald 5 hm270611 he270612 dr_cX17_findLive_148 rfl rfl (gB_inr (by omega) (by omega)) ?_
                                  rw [show f270613 g269513.toNatClampNeg = some q270615 from (hg270614 _ (show g269513.toInt.toNat < 40 by omega)).1.trans (by rw [hx270617])]
                                  change G _ _ _ _ _ _ _ (.ref q270615 :: _) _ _ _
                                  refine G_iload 0 dr_cX17_findLive_149 rfl ?_
                                  have hm270618 : q270615 ∈ P217943 := RS_m hT270465 ht270616 (by decide)
                                  obtain ⟨f270620, he270619, wf270620⟩ := show rk_11 I (F270464 q270615) from RS_o hT270465 ht270616
                                  refine Gp_lald 2 hm270618 he270619 dr_cX17_findLive_151 rfl (gB_in bg270462' (by decide) (by decide)) (G_namL fun u270621 hu270621 => ?_)
                                  have qu270621 : lb_Q u270621 (2000 - 64 * g270462.toInt) := lb_Wld hu270621 wf270620 (by omega) (by omega) (lb_Mod0 (by omega) (by omega))
                                  refine G_aload_n 4 dr_cX17_findLive_152 rfl ?_
                                  refine Gp_get 2 hm270564 he270565 dr_cX17_findLive_153 (gk_X17 D I) (Nat.le_of_ble_eq_true rfl) wr_7_76 rfl ?_
                                  refine G_iload 0 dr_cX17_findLive_156 rfl ?_
                                  have hm270622 : (γ 9 2) ∈ P217943 := RS_m hT270465 ht270587 (by decide)
                                  obtain ⟨f270624, he270623, wf270624⟩ := show rk_35 I (F270464 (γ 9 2)) from RS_o hT270465 ht270587
                                  refine Gp_lald 2 hm270622 he270623 dr_cX17_findLive_158 rfl (gB_in bg270462' (by decide) (by decide)) (G_namL fun u270625 hu270625 => ?_)
                                  have qu270625 : lb_Q u270625 (2000 - 64 * g270462.toInt) := lb_Wld hu270625 wf270624 (by omega) (by omega) (lb_Mod0 (by omega) (by omega))
                                  refine G_lcmp dr_cX17_findLive_159 (G_nam fun z270626 hz270626 => ?_)
                                  have bz270626 : gB z270626 (-1) 1 := gB_cmp hz270626
                                  refine G_if_eq 167 dr_cX17_findLive_160 (by decide +kernel) (fun hc270627 => ?_) (fun hc270627 => ?_)
                                  · have r270628 : z270626.toInt = 0 := gj_eq hc270627 (show Int32.toInt 0 = 0 by decide)
                                    have bz270626' : gB z270626 0 0 := ⟨by omega, by omega⟩
                                    have lhc270627 := gC_cmpE hz270626 hc270627
                                    refine G_iconst 0 dr_cX17_findLive_167 (by decide +kernel) ?_
                                    refine G_istore_n (L' := [(3, .int 0), (6, .int g270462), (5, .ref q269552), (4, .int g269513), (0, .ref q217945), (1, .ref q217946), (2, .int p217947)]) dr_cX17_findLive_168 (Nat.le_of_ble_eq_true rfl) rfl ?_
                                    refine G_aload_n 4 dr_cX17_findLive_169 rfl ?_
                                    refine Gp_get 0 hm270564 he270565 dr_cX17_findLive_170 (gk_X17 D I) (Nat.le_of_ble_eq_true rfl) wr_7_74 rfl ?_
                                    refine G_iload 3 dr_cX17_findLive_173 rfl ?_
                                    refine Gp_aald 5 hm270611 he270612 dr_cX17_findLive_175 rfl rfl (gB_inr (by omega) (by omega)) ?_
                                    rw [show f270613 g269513.toNatClampNeg = some q270615 from (hg270614 _ (show g269513.toInt.toNat < 40 by omega)).1.trans (by rw [hx270617])]
                                    change G _ _ _ _ _ _ _ (.ref q270615 :: _) _ _ _
                                    refine G_iload 1 dr_cX17_findLive_176 rfl ?_
                                    refine G_aload_n 4 dr_cX17_findLive_178 rfl ?_
                                    refine Gp_get 2 hm270564 he270565 dr_cX17_findLive_179 (gk_X17 D I) (Nat.le_of_ble_eq_true rfl) wr_7_76 rfl ?_
                                    refine G_iload 1 dr_cX17_findLive_182 rfl ?_
                                    refine Gp_lald 2 hm270622 he270623 dr_cX17_findLive_184 rfl (gB_in bg270462' (by decide) (by decide)) (G_eql (y := u270625) hu270625.symm ?_)
                                    refine Gp_last 2 hm270618 he270619 dr_cX17_findLive_185 rfl (gB_in bg270462' (by decide) (by decide)) (fun F270629 e270630 n270631 => ?_)
                                    obtain ⟨f270632, hf270632⟩ : ∃ z, z = vp_updL f270620 g270462.toNatClampNeg u270625 := ⟨_, rfl⟩
                                    rw [← hf270632] at e270630
                                    have he270633 : F270629 q217946 = .inr (18, [.ref q265672, .ref q265673, .int p265674, .int p265675]) := (n270631 q217946 (rn_oa he270475 he270619)).trans he270475
                                    have he270634 : F270629 q265672 = .inr (4, [.int p269533, .ref q269535, .int p269534]) := (n270631 q265672 (rn_oa he270476 he270619)).trans he270476
                                    have he270635 : F270629 q269535 = .inl (I (.object "java/lang/Object"), n269549, .inr (.inr (.inr (.inr f269550)))) := (n270631 q269535 (rn_ref_long he270477 he270619)).trans he270477
                                    have he270636 : F270629 q269552 = .inr (17, [.ref q269561, .ref q269562, .int p269563, .int p269564]) := (n270631 q269552 (rn_oa he270478 he270619)).trans he270478
                                    have he270637 : F270629 q217945 = .inr (22, [.ref (γ 9 0), .ref (γ 9 1), .ref (γ 9 2), .ref (γ 9 3), .ref (γ 9 4), .ref (γ 9 5), .ref (γ 9 6), .ref (γ 9 7), .ref (γ 9 8), .int p270568, .int p270569, .int p270570, .int p270571, .int p270572, .int p270573, .ref (γ 9 15), .ref (γ 9 16), .ref (γ 9 17), .ref (γ 9 18), .ref (γ 9 19), .ref (γ 9 20), .ref (γ 9 21), .ref (γ 9 22), .int p270574, .int p270575, .int p270576, .int p270577, .int p270578, .ref q270566, .ref (γ 9 29), .int p270579, .ref (γ 9 31), .int p270580, .int p270581, .int p270582, .ref q270567]) := (n270631 q217945 (rn_oa he270565 he270619)).trans he270565
                                    have he270638 : F270629 (γ 9 0) = .inl (I (.array .long), 40, .inr (.inr (.inr (.inr f270613)))) := (n270631 (γ 9 0) (rn_ref_long he270612 he270619)).trans he270612
                                    have he270639 : F270629 (γ 9 2) = .inl (I .long, 32, .inr (.inl f270624)) := (n270631 (γ 9 2) (rn_ty ht270587 ht270616 (by decide))).trans he270623
                                    have he270640 : F270629 q270615 = .inl (I .long, 32, .inr (.inl f270632)) := e270630
                                    have hs270641 : rStr γ [] F217944 F270629 := rStr_put hs270466 n270631 ht270616 (by decide)
                                    have kp270642 : F270629 q217945 = F217944 q217945 := (n270631 q217945 (rn_ty htq217945 ht270616 (by decide))).trans x270472
                                    have wf270632 : lb_W f270632 (32) (32) (2000) := lb_Wst hf270632 wf270620 (by omega) (lb_Mod0 (by omega) (by omega)) qu270625
                                    obtain ⟨z270643, hz270643⟩ : ∃ z : Int32, z = g270462 + Int32.ofInt 1 := ⟨_, rfl⟩
                                    have ez270643 : z270643.toInt = g270462.toInt + 1 := gI_inc hz270643 (by decide) bg270462' (by decide) (by decide)
                                    have bz270643 : gB z270643 1 32 := ⟨by omega, by omega⟩
                                    refine G_iinc (L' := [(6, .int z270643), (3, .int 0), (5, .ref q269552), (4, .int g269513), (0, .ref q217945), (1, .ref q217946), (2, .int p217947)]) z270643 1 dr_cX17_findLive_186 rfl hz270643.symm (Nat.le_of_ble_eq_true rfl) rfl ?_
                                    refine G_goto 131 dr_cX17_findLive_189 (by decide +kernel) ?_
                                    have hT270644 : RS D I P217943 F270629 γ el := RS_set hT270465 n270631 ht270616 (by decide) ⟨f270632, he270640, wf270632⟩
                                    refine G_lv (L' := [(6, .int z270643), (5, .ref q269552), (4, .int g269513), (3, .int 0), (0, .ref q217945), (1, .ref q217946), (2, .int p217947)]) [0, 2, 3, 1, 4, 5, 6] rfl ?_
                                    exact ih131_270472 F270629 z270643 0 (gB_w bz270643 (by decide) (by decide)) (gB_w (gBl (show Int32.toInt 0 = 0 by decide)) (by decide) (by decide)) hT270644 hs270641 (fun i hi hne => (n270631 _ (by rw [hx270617]; exact RS_lne hT270644 ht270585 hi (by omega) (by omega))).trans (x270467 i hi hne)) (fun k hk => by rw [n270631 (γ 9 2) (rn_ty ht270587 ht270616 (by decide))]; exact x270468 k hk) (fun k hk => by unfold lvS; rw [← hx270617, cL_of he270640]; exact cp_st hu270625 hf270632 bg270462'.1 ez270643 (fun k hk => by have q := x270469 k hk; unfold lvS at q; rw [← hx270617, cL_of he270619] at q; exact q) (fun k hk => by have q := x270468 k hk; rw [cL_of he270623] at q; exact q) k hk) (by have gz : (g270462.toNatClampNeg : Int) = g270462.toInt := g_nn bg270462'.1; have hU := lvT_u (γ := γ) (F := F270464) (i := g269513.toInt.toNat) (z := g270462.toNatClampNeg) (by omega) (cl32 bg270462'.1 (by omega)) (fun i hi hne => n270631 _ (by rw [hx270617]; exact RS_lne hT270644 ht270585 hi (by omega) hne)) (by rw [← hx270617]; exact cL_of he270619) (by rw [← hx270617]; exact cL_of he270640) hf270632; have hS := rpop_sub (lv_w (f := f270620) (g := f270624) (A := trS γ el F217944 (decide (p217947.toInt = 1)) q269552 (lvM γ F269515) (γ 2 (γ 14 q269552))) (z := g270462.toNatClampNeg) (cl32 bg270462'.1 (by omega)) (fun k' h1 h2 h3 => by have q := x270469 k' h1; unfold lvS at q; rw [← hx270617, cL_of he270619, if_neg (by omega)] at q; rw [q] at h3; rw [x270471]; exact x269518 _ (by omega) k' ((lvM_e (by omega) h1).trans (by unfold lvS; rw [← hx270617]; exact h3))) (fun k hk => by have q := x270468 k hk; rw [cL_of he270623] at q; exact q)); rw [← hu270625] at hS; have q := x270470; have qb0 : Int32.toInt 0 = 0 := (by decide); have qb1 : Int32.toInt 1 = 1 := (by decide); omega) x270471 kp270642 (by have qa0 : Int32.toInt 0 = 0 := (by decide); omega)
                                  · have r270645 : z270626.toInt ≠ 0 := gj_neq hc270627 (show Int32.toInt 0 = 0 by decide)
                                    have lhc270627 := gC_cmpN hz270626 hc270627
                                    refine G_iconst 1 dr_cX17_findLive_163 (by decide +kernel) ?_
                                    refine G_goto 168 dr_cX17_findLive_164 (by decide +kernel) ?_
                                    refine G_istore_n (L' := [(3, .int 1), (6, .int g270462), (5, .ref q269552), (4, .int g269513), (0, .ref q217945), (1, .ref q217946), (2, .int p217947)]) dr_cX17_findLive_168 (Nat.le_of_ble_eq_true rfl) rfl ?_
                                    refine G_aload_n 4 dr_cX17_findLive_169 rfl ?_
                                    refine Gp_get 0 hm270564 he270565 dr_cX17_findLive_170 (gk_X17 D I) (Nat.le_of_ble_eq_true rfl) wr_7_74 rfl ?_
                                    refine G_iload 3 dr_cX17_findLive_173 rfl ?_
                                    refine Gp_aald 5 hm270611 he270612 dr_cX17_findLive_175 rfl rfl (gB_inr (by omega) (by omega)) ?_
                                    rw [show f270613 g269513.toNatClampNeg = some q270615 from (hg270614 _ (show g269513.toInt.toNat < 40 by omega)).1.trans (by rw [hx270617])]
                                    change G _ _ _ _ _ _ _ (.ref q270615 :: _) _ _ _
                                    refine G_iload 1 dr_cX17_findLive_176 rfl ?_
                                    refine G_aload_n 4 dr_cX17_findLive_178 rfl ?_
                                    refine Gp_get 2 hm270564 he270565 dr_cX17_findLive_179 (gk_X17 D I) (Nat.le_of_ble_eq_true rfl) wr_7_76 rfl ?_
                                    refine G_iload 1 dr_cX17_findLive_182 rfl ?_
                                    refine Gp_lald 2 hm270622 he270623 dr_cX17_findLive_184 rfl (gB_in bg270462' (by decide) (by decide)) (G_eql (y := u270625) hu270625.symm ?_)
                                    refine Gp_last 2 hm270618 he270619 dr_cX17_findLive_185 rfl (gB_in bg270462' (by decide) (by decide)) (fun F270646 e270647 n270648 => ?_)
                                    obtain ⟨f270649, hf270649⟩ : ∃ z, z = vp_updL f270620 g270462.toNatClampNeg u270625 := ⟨_, rfl⟩
                                    rw [← hf270649] at e270647
                                    have he270650 : F270646 q217946 = .inr (18, [.ref q265672, .ref q265673, .int p265674, .int p265675]) := (n270648 q217946 (rn_oa he270475 he270619)).trans he270475
                                    have he270651 : F270646 q265672 = .inr (4, [.int p269533, .ref q269535, .int p269534]) := (n270648 q265672 (rn_oa he270476 he270619)).trans he270476
                                    have he270652 : F270646 q269535 = .inl (I (.object "java/lang/Object"), n269549, .inr (.inr (.inr (.inr f269550)))) := (n270648 q269535 (rn_ref_long he270477 he270619)).trans he270477
                                    have he270653 : F270646 q269552 = .inr (17, [.ref q269561, .ref q269562, .int p269563, .int p269564]) := (n270648 q269552 (rn_oa he270478 he270619)).trans he270478
                                    have he270654 : F270646 q217945 = .inr (22, [.ref (γ 9 0), .ref (γ 9 1), .ref (γ 9 2), .ref (γ 9 3), .ref (γ 9 4), .ref (γ 9 5), .ref (γ 9 6), .ref (γ 9 7), .ref (γ 9 8), .int p270568, .int p270569, .int p270570, .int p270571, .int p270572, .int p270573, .ref (γ 9 15), .ref (γ 9 16), .ref (γ 9 17), .ref (γ 9 18), .ref (γ 9 19), .ref (γ 9 20), .ref (γ 9 21), .ref (γ 9 22), .int p270574, .int p270575, .int p270576, .int p270577, .int p270578, .ref q270566, .ref (γ 9 29), .int p270579, .ref (γ 9 31), .int p270580, .int p270581, .int p270582, .ref q270567]) := (n270648 q217945 (rn_oa he270565 he270619)).trans he270565
                                    have he270655 : F270646 (γ 9 0) = .inl (I (.array .long), 40, .inr (.inr (.inr (.inr f270613)))) := (n270648 (γ 9 0) (rn_ref_long he270612 he270619)).trans he270612
                                    have he270656 : F270646 (γ 9 2) = .inl (I .long, 32, .inr (.inl f270624)) := (n270648 (γ 9 2) (rn_ty ht270587 ht270616 (by decide))).trans he270623
                                    have he270657 : F270646 q270615 = .inl (I .long, 32, .inr (.inl f270649)) := e270647
                                    have hs270658 : rStr γ [] F217944 F270646 := rStr_put hs270466 n270648 ht270616 (by decide)
                                    have kp270659 : F270646 q217945 = F217944 q217945 := (n270648 q217945 (rn_ty htq217945 ht270616 (by decide))).trans x270472
                                    have wf270649 : lb_W f270649 (32) (32) (2000) := lb_Wst hf270649 wf270620 (by omega) (lb_Mod0 (by omega) (by omega)) qu270625
                                    obtain ⟨z270660, hz270660⟩ : ∃ z : Int32, z = g270462 + Int32.ofInt 1 := ⟨_, rfl⟩
                                    have ez270660 : z270660.toInt = g270462.toInt + 1 := gI_inc hz270660 (by decide) bg270462' (by decide) (by decide)
                                    have bz270660 : gB z270660 1 32 := ⟨by omega, by omega⟩
                                    refine G_iinc (L' := [(6, .int z270660), (3, .int 1), (5, .ref q269552), (4, .int g269513), (0, .ref q217945), (1, .ref q217946), (2, .int p217947)]) z270660 1 dr_cX17_findLive_186 rfl hz270660.symm (Nat.le_of_ble_eq_true rfl) rfl ?_
                                    refine G_goto 131 dr_cX17_findLive_189 (by decide +kernel) ?_
                                    have hT270661 : RS D I P217943 F270646 γ el := RS_set hT270465 n270648 ht270616 (by decide) ⟨f270649, he270657, wf270649⟩
                                    refine G_lv (L' := [(6, .int z270660), (5, .ref q269552), (4, .int g269513), (3, .int 1), (0, .ref q217945), (1, .ref q217946), (2, .int p217947)]) [0, 2, 3, 1, 4, 5, 6] rfl ?_
                                    exact ih131_270472 F270646 z270660 1 (gB_w bz270660 (by decide) (by decide)) (gB_w (gBl (show Int32.toInt 1 = 1 by decide)) (by decide) (by decide)) hT270661 hs270658 (fun i hi hne => (n270648 _ (by rw [hx270617]; exact RS_lne hT270661 ht270585 hi (by omega) (by omega))).trans (x270467 i hi hne)) (fun k hk => by rw [n270648 (γ 9 2) (rn_ty ht270587 ht270616 (by decide))]; exact x270468 k hk) (fun k hk => by unfold lvS; rw [← hx270617, cL_of he270657]; exact cp_st hu270625 hf270649 bg270462'.1 ez270660 (fun k hk => by have q := x270469 k hk; unfold lvS at q; rw [← hx270617, cL_of he270619] at q; exact q) (fun k hk => by have q := x270468 k hk; rw [cL_of he270623] at q; exact q) k hk) (by have gz : (g270462.toNatClampNeg : Int) = g270462.toInt := g_nn bg270462'.1; have hU := lvT_u (γ := γ) (F := F270464) (i := g269513.toInt.toNat) (z := g270462.toNatClampNeg) (by omega) (cl32 bg270462'.1 (by omega)) (fun i hi hne => n270648 _ (by rw [hx270617]; exact RS_lne hT270661 ht270585 hi (by omega) hne)) (by rw [← hx270617]; exact cL_of he270619) (by rw [← hx270617]; exact cL_of he270657) hf270649; have hS := rpop_slt (lv_w (f := f270620) (g := f270624) (A := trS γ el F217944 (decide (p217947.toInt = 1)) q269552 (lvM γ F269515) (γ 2 (γ 14 q269552))) (z := g270462.toNatClampNeg) (cl32 bg270462'.1 (by omega)) (fun k' h1 h2 h3 => by have q := x270469 k' h1; unfold lvS at q; rw [← hx270617, cL_of he270619, if_neg (by omega)] at q; rw [q] at h3; rw [x270471]; exact x269518 _ (by omega) k' ((lvM_e (by omega) h1).trans (by unfold lvS; rw [← hx270617]; exact h3))) (fun k hk => by have q := x270468 k hk; rw [cL_of he270623] at q; exact q)) (fun e => lc_ne hz270626 (by omega) (hu270621.trans (e.trans hu270625.symm))); rw [← hu270625] at hS; have q := x270470; have qb0 : Int32.toInt 0 = 0 := (by decide); have qb1 : Int32.toInt 1 = 1 := (by decide); omega) x270471 kp270659 (by have qa0 : Int32.toInt 1 = 1 := (by decide); omega)
                          exact hlp131_270472 (((33 : Int) - 0).toNat + 1) F270251 0 g269514 (gB_w (gBl (show Int32.toInt 0 = 0 by decide)) (by decide) (by decide)) bg269514 hT270252 hs270253 (fun i hi _ => x270254 i hi) (fun k hk => by have q := x270255 k hk; rw [show ((((γ 2 (γ 14 q269552) : Nat) : Int) - 1 - g270250.toInt).toNat) = γ 2 (γ 14 q269552) by omega] at q; exact q) (fun k hk => by rw [if_neg (by have qa : Int32.toInt 0 = 0 := (by decide); omega)]; exact lvS_l x270254 (by omega)) (by have q := lvT_l x270254; have q2 := x269519; omega) x270257 x270258 (Nat.lt_succ_self _)
                        · have r270662 : 0 ≤ g270250.toInt := gj_nlt hc270267 (show Int32.toInt 0 = 0 by decide)
                          have bg270250' : gB g270250 0 999999 := ⟨by omega, by omega⟩
                          refine G_aload_n 4 dr_cX17_findLive_104 rfl ?_
                          refine G_aload 1 dr_cX17_findLive_105 rfl ?_
                          refine Gp_get 0 hm269559 he270264 dr_cX17_findLive_107 (gk_X12 D I) (Nat.le_of_ble_eq_true rfl) wr_9_220 rfl ?_
                          refine G_iload 0 dr_cX17_findLive_110 rfl ?_
                          have hm270663 : q269561 ∈ P217943 := RS_m hT270252 ht269565 (by decide)
                          obtain ⟨⟨p270665, p270666, q270667, he270664, r270668, r270669, r270670, r270672⟩, r270671⟩ := show rk_3 D I γ el F270251 q269561 from RS_o hT270252 ht269565
                          have bp270665 := gB_any p270665
                          have bp270666 : gB p270666 0 1000000 := ⟨by omega, by omega⟩
                          obtain ⟨r270673, r270674, n270681, f270682, r270675, r270676, r270677, r270678, r270679, r270680⟩ := rLC_n r270670 (by omega)
                          have hm270683 : q270667 ∈ P217943 := RS_m hT270252 r270673 (by decide)
                          obtain ⟨q270684, hx270685⟩ : ∃ x, x = el q269561 g270250.toInt.toNat := ⟨_, rfl⟩
                          have hx270686 : f270682 g270250.toNatClampNeg = some q270684 := (r270679 _ (show g270250.toInt.toNat < γ 2 q269561 by omega)).trans (by rw [hx270685])
                          have ht270687 : rKd γ q270684 1 := by rw [hx270685]; exact (r270671 _ (show g270250.toInt.toNat < γ 2 q269561 by omega)).1
                          have ht270688 : rFm γ q270684 q269561 := by rw [hx270685]; exact (r270671 _ (show g270250.toInt.toNat < γ 2 q269561 by omega)).2.1
                          refine Gw_callV (As := [.int g270250]) (gV_ok D I) (cp_22_ArrayList_get l hl0 D I P217943 F270251 q269561 q270667 g270250 p270665 p270666 f270682 n270681 q270684 hm270663 hm270683 he270664 r270675 (gB_w bg270250' (by decide) (by decide)) (gB_w bp270666 (by decide) (by decide)) (by omega) (by omega) (by assumption) (by omega)) dr_cX17_findLive_112 ⟨wr_10_201, wr_1_18, wr_10_65, by decide, rfl, (Nat.le_of_ble_eq_true rfl), (Nat.le_of_ble_eq_true rfl)⟩ wr_10_63 wr_10_64 hm270663 he270664 rfl (show 0 + 0 ≤ 0 by first | omega | decide) (show 0 + 0 ≤ 0 by first | omega | decide) (Nat.le_of_ble_eq_true rfl) (fun r270692 w270693 dc270689 ds270690 hp270691 => ?_) (fun _ _ _ _ _ z => z.elim)
                          obtain ⟨rfl, rfl, hdc, hds⟩ := hp270691
                          change G _ _ _ _ _ _ _ (.ref q270684 :: _) _ _ _
                          refine G_widen (cs' := 0) (sl' := 0) (by omega) (by omega) ?_
                          have hm270694 : q270684 ∈ P217943 := RS_m hT270252 ht270687 (by decide)
                          obtain ⟨p270696, p270697, p270698, p270699, p270700, p270701, p270702, he270695, bp270696, bp270697, bp270700, bp270701, bp270702, r270703, r270704, r270705, r270706⟩ := show rk_1 γ q270684 (F270251 q270684) from RS_o hT270252 ht270687
                          have bp270698 := gB_any p270698
                          have bp270699 := gB_any p270699
                          refine Gp_cast hm270694 he270695 rfl dr_cX17_findLive_115 wr_10_202 (gr_cast 1 rfl) ?_
                          refine G_iload_n 6 dr_cX17_findLive_118 rfl ?_
                          have fl270707 : F270251 q270684 = F217944 (el (γ 14 q269552) (γ 2 (γ 14 q269552) - 1 - ((((γ 2 (γ 14 q269552) : Nat) : Int) - 1 - g270250.toInt).toNat))) := by rw [show γ 2 (γ 14 q269552) - 1 - ((((γ 2 (γ 14 q269552) : Nat) : Int) - 1 - g270250.toInt).toNat) = g270250.toInt.toNat by omega, ht269571.1, ← hx270685]; exact hs270253 q270684 (rT0 ht270687 (by decide)) (rT1 ht270687 (by decide)) (rT2 ht270687 (by decide))
                          have hm270713 : q217945 ∈ P217943 := RS_m hT270252 htq217945 (by decide)
                          obtain ⟨q270715, q270716, p270717, p270718, p270719, p270720, p270721, p270722, p270723, p270724, p270725, p270726, p270727, p270728, p270729, p270730, p270731, he270714, hB270758, ht270732, ht270733, ht270734, ht270735, ht270736, ht270737, ht270738, ht270739, ht270740, ht270741, ht270742, ht270743, ht270744, ht270745, ht270746, ht270747, ht270748, ht270749, ht270750, ht270751, ht270752, ht270753, ht270754, ht270755, hB270759⟩ := show rk_10 γ (F270251 q217945) from RS_o hT270252 htq217945
                          refine Gw_callV (As := [.ref q270684, .int p217947]) (gV_ok D I) (ct_214613_SpillForgeModel_back l hl0 D I γ el P217943 F270251 q217945 q270684 p217947 hT270252 htq217945 ht270687 bp217947) dr_cX17_findLive_119 ⟨wr_10_174, wr_1_14, wr_10_177, by decide, rfl, (Nat.le_of_ble_eq_true rfl), (Nat.le_of_ble_eq_true rfl)⟩ wr_10_176 wr_p_96 hm270713 he270714 rfl (show 0 + 0 ≤ 0 by first | omega | decide) (show 0 + 0 ≤ 0 by first | omega | decide) (Nat.le_of_ble_eq_true rfl) (fun r270711 w270712 dc270708 ds270709 hp270710 => ?_) (fun _ _ _ _ _ z => z.elim)
                          obtain ⟨F270763, rfl, rfl, hT270764, hs270765, hdc, hds, x270760, x270761, x270762⟩ := hp270710
                          have he270766 : F270763 q217946 = .inr (18, [.ref q265672, .ref q265673, .int p265674, .int p265675]) := (hs270765 q217946 (rT0 htq217946 (by decide)) (rT1 htq217946 (by decide)) (rT2 htq217946 (by decide))).trans he270261
                          have he270767 : F270763 q265672 = .inr (4, [.int p269533, .ref q269535, .int p269534]) := (hs270765 q265672 (rT0 ht265676 (by decide)) (rT1 ht265676 (by decide)) (rT2 ht265676 (by decide))).trans he270262
                          have he270768 : F270763 q269535 = .inl (I (.object "java/lang/Object"), n269549, .inr (.inr (.inr (.inr f269550)))) := (hs270765 q269535 (rT0 r269541 (by decide)) (rT1 r269541 (by decide)) (rT2 r269541 (by decide))).trans he270263
                          have he270769 : F270763 q269552 = .inr (17, [.ref q269561, .ref q269562, .int p269563, .int p269564]) := (hs270765 q269552 (rT0 ht269557 (by decide)) (rT1 ht269557 (by decide)) (rT2 ht269557 (by decide))).trans he270264
                          have he270770 : F270763 q269561 = .inr (4, [.int p270665, .ref q270667, .int p270666]) := (hs270765 q269561 (rT0 ht269565 (by decide)) (rT1 ht269565 (by decide)) (rT2 ht269565 (by decide))).trans he270664
                          have he270771 : F270763 q270667 = .inl (I (.object "java/lang/Object"), n270681, .inr (.inr (.inr (.inr f270682)))) := (hs270765 q270667 (rT0 r270673 (by decide)) (rT1 r270673 (by decide)) (rT2 r270673 (by decide))).trans r270675
                          have he270772 : F270763 q270684 = .inr (20, [.int p270696, .int p270697, .int p270698, .int p270699, .int p270700, .int p270701, .int p270702]) := (hs270765 q270684 (rT0 ht270687 (by decide)) (rT1 ht270687 (by decide)) (rT2 ht270687 (by decide))).trans he270695
                          have hs270773 : rStr γ [] F217944 F270763 := rStr_tr hs270253 hs270765
                          have kp270774 : F270763 q217945 = F217944 q217945 := (x270762).trans x270258
                          change G _ _ _ _ _ _ _ _ _ _ _
                          refine G_widen (cs' := 0) (sl' := 0) (by omega) (by omega) ?_
                          obtain ⟨z270775, hz270775⟩ : ∃ z : Int32, z = g270250 + Int32.ofInt (-1) := ⟨_, rfl⟩
                          have ez270775 : z270775.toInt = g270250.toInt + (-1) := gI_inc hz270775 (by decide) bg270250' (by decide) (by decide)
                          have bz270775 : gB z270775 (-1) 999998 := ⟨by omega, by omega⟩
                          refine G_iinc (L' := [(6, .int z270775), (5, .ref q269552), (4, .int g269513), (3, .int g269514), (0, .ref q217945), (1, .ref q217946), (2, .int p217947)]) z270775 0 dr_cX17_findLive_122 rfl hz270775.symm (Nat.le_of_ble_eq_true rfl) rfl ?_
                          refine G_goto 99 dr_cX17_findLive_125 (by decide +kernel) ?_
                          exact ih99_270258 F270763 z270775 (gB_w bz270775 (by decide) (by decide)) hT270764 hs270773 (rLv_tr x270254 x270761) (by rw [show ((((γ 2 (γ 14 q269552) : Nat) : Int) - 1 - z270775.toInt).toNat) = ((((γ 2 (γ 14 q269552) : Nat) : Int) - 1 - g270250.toInt).toNat) + 1 by omega]; exact tr_b x270255 fl270707 x270760) (by omega) x270257 kp270774 (by omega)
                    exact hlp99_270258 (((z269729.toInt : Int) - (-2)).toNat + 1) F269705 z269729 bz269729 hT269706 hs269712 (rLv_tr x269638 x269703) (by rw [show ((((γ 2 (γ 14 q269552) : Nat) : Int) - 1 - z269729.toInt).toNat) = 0 by omega]; exact tr_0 (fun k hk => by have q := x269637 k hk; rw [ht269571.2.1, fl269580, fl269579] at q; rw [q, ht269571.2.1]; exact bhV_c ⟨by omega, by omega⟩ ⟨by omega, by omega⟩ (fun i hi => (lvM_e hi hk).symm)) fl269649 x269702) (by omega) fl269584 kp269713 (Nat.lt_succ_self _)
              exact hlp58_269521 (((z268254.toInt : Int) - (-2)).toNat + 1) F268237 z268254 0 bz268254 (gB_w (gBl (show Int32.toInt 0 = 0 by decide)) (by decide) (by decide)) hT268238 hs268239 x268240 (by have qa : Int32.toInt 0 = 0 := (by decide); rw [qa]; exact Nat.le_refl _) (by have qa0 : Int32.toInt 0 = 0 := (by decide); omega) x268241 (Nat.lt_succ_self _)
        exact hlp44_268241 (((81920 - lvT γ F265662) + (1 : Int).toNat) + 1) F265662 1 (gB_w (gBl (show Int32.toInt 1 = 1 by decide)) (by decide) (by decide)) hT265663 hs265664 (rJv_0 (fun i hi j hj => x265665 i (by omega) j hj)) x265666 (Nat.lt_succ_self _)
      · have r270776 : g265661.toInt < p265675.toInt := gC_nle hc265697
        have bg265661' : gB g265661 0 999999 := ⟨by omega, by omega⟩
        have bp265675' : gB p265675 1 1000000 := ⟨by omega, by omega⟩
        refine G_iconst 0 dr_cX17_findLive_10 (by decide +kernel) ?_
        refine G_istore (L' := [(4, .int 0), (3, .int g265661), (0, .ref q217945), (1, .ref q217946), (2, .int p217947)]) dr_cX17_findLive_11 (Nat.le_of_ble_eq_true rfl) rfl ?_
        have hlp13_270863 : ∀ (n13_270863 : Nat) (F270858 : Nat → va_E) (g270857 : Int32), gB g270857 0 32 → RS D I P217943 F270858 γ el → rStr γ [] F217944 F270858 → (∀ i : Nat, (i : Int) < g265661.toInt → ∀ j : Nat, j < 32 → cL (F270858 (γ 10 i)) j = 0) → (∀ j : Nat, (j : Int) < g270857.toInt → cL (F270858 (γ 10 (g265661.toInt : Int).toNat)) j = 0) → (F270858 q217945 = F217944 q217945) → ((33 : Int) - g270857.toInt).toNat < n13_270863 → G (gV D I) l (gRm 4 85 0 0) (gMA (gV D I) (pt_217949_SpillForgeModel_findLive D I γ el P217943 F217944 q217945 q217946 p217947) gNA 0 0) ky_217949_SpillForgeModel_findLive 13 [(4, .int g270857), (3, .int g265661), (0, .ref q217945), (1, .ref q217946), (2, .int p217947)] [] (va_pl P217943 F270858) 0 0 := by
          intro n13_270863
          induction n13_270863 with
          | zero => intro F270858 g270857 bg270857 hT270859 hs270860 x270861 x270862 x270863 hm13_270863; exact absurd hm13_270863 (Nat.not_lt_zero _)
          | succ n13_270863 ih13_270863 =>
            intro F270858 g270857 bg270857 hT270859 hs270860 x270861 x270862 x270863 hm13_270863
            have hs270865 : rStr γ [] F265662 F270858 := fun b h0 hb hw => (hs270860 b h0 hb hw).trans (hs265664 b h0 hb hw).symm
            have he270866 : F270858 q217946 = .inr (18, [.ref q265672, .ref q265673, .int p265674, .int p265675]) := (hs270865 q217946 (rT0 htq217946 (by decide)) (rT1 htq217946 (by decide)) (rT2 htq217946 (by decide))).trans he265671
            have hs270867 : rStr γ [] F217944 F270858 := rStr_tr hs265664 hs270865
            refine G_iload 0 dr_cX17_findLive_13 rfl ?_
            refine G_bipush 32 dr_cX17_findLive_15 (by decide +kernel) ?_
            refine G_icmp_ge 36 dr_cX17_findLive_17 (by decide +kernel) (fun hc270868 => ?_) (fun hc270868 => ?_)
            · have r270869 : 32 ≤ g270857.toInt := gj_leL hc270868 (show Int32.toInt 32 = 32 by decide)
              have bg270857' : gB g270857 32 32 := ⟨by omega, by omega⟩
              obtain ⟨z270870, hz270870⟩ : ∃ z : Int32, z = g265661 + Int32.ofInt 1 := ⟨_, rfl⟩
              have ez270870 : z270870.toInt = g265661.toInt + 1 := gI_inc hz270870 (by decide) bg265661' (by decide) (by decide)
              have bz270870 : gB z270870 1 1000000 := ⟨by omega, by omega⟩
              refine G_iinc (L' := [(3, .int z270870), (4, .int g270857), (0, .ref q217945), (1, .ref q217946), (2, .int p217947)]) z270870 1 dr_cX17_findLive_36 rfl hz270870.symm (Nat.le_of_ble_eq_true rfl) rfl ?_
              refine G_goto 2 dr_cX17_findLive_39 (by decide +kernel) ?_
              refine G_lv (L' := [(3, .int z270870), (0, .ref q217945), (1, .ref q217946), (2, .int p217947)]) [0, 2, 3, 4] rfl ?_
              exact ih2_265666 F270858 z270870 (gB_w bz270870 (by decide) (by decide)) hT270859 hs270860 (zl_s x270861 x270862 (by omega) ez270870 bg265661'.1) x270863 (by omega)
            · have r270871 : g270857.toInt < 32 := gj_nleL hc270868 (show Int32.toInt 32 = 32 by decide)
              have bg270857' : gB g270857 0 31 := ⟨by omega, by omega⟩
              refine G_aload_n 2 dr_cX17_findLive_20 rfl ?_
              have hm270872 : q217945 ∈ P217943 := RS_m hT270859 htq217945 (by decide)
              obtain ⟨q270874, q270875, p270876, p270877, p270878, p270879, p270880, p270881, p270882, p270883, p270884, p270885, p270886, p270887, p270888, p270889, p270890, he270873, hB270917, ht270891, ht270892, ht270893, ht270894, ht270895, ht270896, ht270897, ht270898, ht270899, ht270900, ht270901, ht270902, ht270903, ht270904, ht270905, ht270906, ht270907, ht270908, ht270909, ht270910, ht270911, ht270912, ht270913, ht270914, hB270918⟩ := show rk_10 γ (F270858 q217945) from RS_o hT270859 htq217945
              refine Gp_get 0 hm270872 he270873 dr_cX17_findLive_21 (gk_X17 D I) (Nat.le_of_ble_eq_true rfl) wr_7_74 rfl ?_
              refine G_iload_n 1 dr_cX17_findLive_24 rfl ?_
              have hm270919 : (γ 9 0) ∈ P217943 := RS_m hT270859 ht270893 (by decide)
              obtain ⟨f270921, he270920, hg270922⟩ := show rk_12 I γ (F270858 (γ 9 0)) from RS_o hT270859 ht270893
              obtain ⟨q270923, hx270925⟩ : ∃ x, x = γ 10 g265661.toInt.toNat := ⟨_, rfl⟩
              have ht270924 : rKd γ q270923 11 := by rw [hx270925]; exact (hg270922 _ (show g265661.toInt.toNat < 40 by omega)).2.1
              refine Gp_aald 5 hm270919 he270920 dr_cX17_findLive_25 rfl rfl (gB_inr (by omega) (by omega)) ?_
              rw [show f270921 g265661.toNatClampNeg = some q270923 from (hg270922 _ (show g265661.toInt.toNat < 40 by omega)).1.trans (by rw [hx270925])]
              change G _ _ _ _ _ _ _ (.ref q270923 :: _) _ _ _
              refine G_iload 0 dr_cX17_findLive_26 rfl ?_
              refine G_lconst 0 dr_cX17_findLive_28 rfl ?_
              have hm270926 : q270923 ∈ P217943 := RS_m hT270859 ht270924 (by decide)
              obtain ⟨f270928, he270927, wf270928⟩ := show rk_11 I (F270858 q270923) from RS_o hT270859 ht270924
              refine Gp_last 2 hm270926 he270927 dr_cX17_findLive_29 rfl (gB_in bg270857' (by decide) (by decide)) (fun F270929 e270930 n270931 => ?_)
              obtain ⟨f270932, hf270932⟩ : ∃ z, z = vp_updL f270928 g270857.toNatClampNeg 0 := ⟨_, rfl⟩
              rw [← hf270932] at e270930
              have he270933 : F270929 q217946 = .inr (18, [.ref q265672, .ref q265673, .int p265674, .int p265675]) := (n270931 q217946 (rn_oa he270866 he270927)).trans he270866
              have he270934 : F270929 q217945 = .inr (22, [.ref (γ 9 0), .ref (γ 9 1), .ref (γ 9 2), .ref (γ 9 3), .ref (γ 9 4), .ref (γ 9 5), .ref (γ 9 6), .ref (γ 9 7), .ref (γ 9 8), .int p270876, .int p270877, .int p270878, .int p270879, .int p270880, .int p270881, .ref (γ 9 15), .ref (γ 9 16), .ref (γ 9 17), .ref (γ 9 18), .ref (γ 9 19), .ref (γ 9 20), .ref (γ 9 21), .ref (γ 9 22), .int p270882, .int p270883, .int p270884, .int p270885, .int p270886, .ref q270874, .ref (γ 9 29), .int p270887, .ref (γ 9 31), .int p270888, .int p270889, .int p270890, .ref q270875]) := (n270931 q217945 (rn_oa he270873 he270927)).trans he270873
              have he270935 : F270929 (γ 9 0) = .inl (I (.array .long), 40, .inr (.inr (.inr (.inr f270921)))) := (n270931 (γ 9 0) (rn_ref_long he270920 he270927)).trans he270920
              have he270936 : F270929 q270923 = .inl (I .long, 32, .inr (.inl f270932)) := e270930
              have hs270937 : rStr γ [] F217944 F270929 := rStr_put hs270860 n270931 ht270924 (by decide)
              have kp270938 : F270929 q217945 = F217944 q217945 := (n270931 q217945 (rn_ty htq217945 ht270924 (by decide))).trans x270863
              have wf270932 : lb_W f270932 (32) (32) (2000) := lb_Wst hf270932 wf270928 (by omega) (lb_Mod0 (by omega) (by omega)) lb_Q0
              obtain ⟨z270939, hz270939⟩ : ∃ z : Int32, z = g270857 + Int32.ofInt 1 := ⟨_, rfl⟩
              have ez270939 : z270939.toInt = g270857.toInt + 1 := gI_inc hz270939 (by decide) bg270857' (by decide) (by decide)
              have bz270939 : gB z270939 1 32 := ⟨by omega, by omega⟩
              refine G_iinc (L' := [(4, .int z270939), (3, .int g265661), (0, .ref q217945), (1, .ref q217946), (2, .int p217947)]) z270939 0 dr_cX17_findLive_30 rfl hz270939.symm (Nat.le_of_ble_eq_true rfl) rfl ?_
              refine G_goto 13 dr_cX17_findLive_33 (by decide +kernel) ?_
              have hT270940 : RS D I P217943 F270929 γ el := RS_set hT270859 n270931 ht270924 (by decide) ⟨f270932, he270936, wf270932⟩
              exact ih13_270863 F270929 z270939 (gB_w bz270939 (by decide) (by decide)) hT270940 hs270937 (zl_r x270861 (fun i hi => n270931 _ (by rw [hx270925]; exact RS_lne hT270940 ht270893 (by omega) (by omega) (by omega)))) (by rw [← hx270925, cL_of he270936]; exact zr_st hf270932 (by have q := x270862; rw [← hx270925, cL_of he270927] at q; exact q) ez270939 bg270857'.1) kp270938 (by omega)
        exact hlp13_270863 (((33 : Int) - 0).toNat + 1) F265662 0 (gB_w (gBl (show Int32.toInt 0 = 0 by decide)) (by decide) (by decide)) hT265663 hs265664 x265665 (fun j hj => absurd hj (by have qa : Int32.toInt 0 = 0 := (by decide); omega)) x265666 (Nat.lt_succ_self _)
  exact hlp2_265666 (((1000001 : Int) - 0).toNat + 1) F217944 0 (gB_w (gBl (show Int32.toInt 0 = 0 by decide)) (by decide) (by decide)) hT (rStr_rf (γ := γ) (W := []) (F := F217944)) (fun i hi => absurd hi (by have qa : Int32.toInt 0 = 0 := (by decide); omega)) rfl (Nat.lt_succ_self _)
