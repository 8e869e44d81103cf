theorem dr_cX17_findLive_0 : decode cX17_findLive 0 = .ok (.iconst 0, 1) := by decide +kernel
theorem dr_cX17_findLive_1 : decode cX17_findLive 1 = .ok (.istore_n 3, 1) := by decide +kernel
theorem dr_cX17_findLive_2 : decode cX17_findLive 2 = .ok (.iload_n 3, 1) := by decide +kernel
theorem dr_cX17_findLive_3 : decode cX17_findLive 3 = .ok (.aload_n 1, 1) := by decide +kernel
theorem dr_cX17_findLive_4 : decode cX17_findLive 4 = .ok (.invokevirtual 96, 3) := by decide +kernel
theorem dr_cX17_findLive_7 : decode cX17_findLive 7 = .ok (.if_icmp .ge 35, 3) := by decide +kernel
theorem dr_cX17_findLive_42 : decode cX17_findLive 42 = .ok (.iconst 1, 1) := by decide +kernel
theorem dr_cX17_findLive_43 : decode cX17_findLive 43 = .ok (.istore_n 3, 1) := by decide +kernel
theorem dr_cX17_findLive_44 : decode cX17_findLive 44 = .ok (.iload_n 3, 1) := by decide +kernel
theorem dr_cX17_findLive_45 : decode cX17_findLive 45 = .ok (.ifCond .eq 156, 3) := by decide +kernel
theorem dr_cX17_findLive_201 : decode cX17_findLive 201 = .ok (.return_, 1) := by decide +kernel
theorem dr_cX17_findLive_48 : decode cX17_findLive 48 = .ok (.iconst 0, 1) := by decide +kernel
theorem dr_cX17_findLive_49 : decode cX17_findLive 49 = .ok (.istore_n 3, 1) := by decide +kernel
theorem dr_cX17_findLive_50 : decode cX17_findLive 50 = .ok (.aload_n 1, 1) := by decide +kernel
theorem dr_cX17_findLive_51 : decode cX17_findLive 51 = .ok (.invokevirtual 96, 3) := by decide +kernel
theorem dr_cX17_findLive_54 : decode cX17_findLive 54 = .ok (.iconst 1, 1) := by decide +kernel
theorem dr_cX17_findLive_55 : decode cX17_findLive 55 = .ok (.isub, 1) := by decide +kernel
theorem dr_cX17_findLive_56 : decode cX17_findLive 56 = .ok (.istore 4, 2) := by decide +kernel
theorem dr_cX17_findLive_58 : decode cX17_findLive 58 = .ok (.iload 4, 2) := by decide +kernel
theorem dr_cX17_findLive_60 : decode cX17_findLive 60 = .ok (.ifCond .lt 138, 3) := by decide +kernel
theorem dr_cX17_findLive_198 : decode cX17_findLive 198 = .ok (.goto (-154), 3) := by decide +kernel
theorem dr_cX17_findLive_63 : decode cX17_findLive 63 = .ok (.aload_n 1, 1) := by decide +kernel
theorem dr_cX17_findLive_64 : decode cX17_findLive 64 = .ok (.iload 4, 2) := by decide +kernel
theorem dr_cX17_findLive_66 : decode cX17_findLive 66 = .ok (.invokevirtual 101, 3) := by decide +kernel
theorem dr_cX17_findLive_69 : decode cX17_findLive 69 = .ok (.astore 5, 2) := by decide +kernel
theorem dr_cX17_findLive_71 : decode cX17_findLive 71 = .ok (.aload_n 0, 1) := by decide +kernel
theorem dr_cX17_findLive_72 : decode cX17_findLive 72 = .ok (.aload 5, 2) := by decide +kernel
theorem dr_cX17_findLive_74 : decode cX17_findLive 74 = .ok (.invokevirtual 105, 3) := by decide +kernel
theorem wr_10_162 : (Jvm.Cond.methodLink "SpillForgeModel" (105 : Nat) ({ cls := "SpillForgeModel", name := "behind", desc := "(LSpillForgeModel$Block;)V" } : Jvm.MethodName)) ∈ gw := gw_10 162 rfl rfl
theorem wr_10_165 : (Jvm.Cond.code ({ cls := "SpillForgeModel", name := "behind", desc := "(LSpillForgeModel$Block;)V" } : Jvm.MethodName) prog_14_method_8_code (4 : Nat) (Option.none : Option Jvm.ClassFile.FieldType)) ∈ gw := gw_10 165 rfl rfl
theorem wr_10_164 : (Jvm.Cond.instanceMethod ({ cls := "SpillForgeModel", name := "behind", desc := "(LSpillForgeModel$Block;)V" } : Jvm.MethodName)) ∈ gw := gw_10 164 rfl rfl
theorem wr_p_95 : Cond.selects "SpillForgeModel" ⟨"SpillForgeModel", "behind", "(LSpillForgeModel$Block;)V"⟩ ⟨"SpillForgeModel", "behind", "(LSpillForgeModel$Block;)V"⟩ ∈ gw := gw_p _ 95 rfl rfl rfl
theorem dr_cX17_findLive_77 : decode cX17_findLive 77 = .ok (.aload_n 0, 1) := by decide +kernel
theorem dr_cX17_findLive_78 : decode cX17_findLive 78 = .ok (.aload 5, 2) := by decide +kernel
theorem dr_cX17_findLive_80 : decode cX17_findLive 80 = .ok (.getfield 109, 3) := by decide +kernel
theorem dr_cX17_findLive_83 : decode cX17_findLive 83 = .ok (.iload_n 2, 1) := by decide +kernel
theorem dr_cX17_findLive_84 : decode cX17_findLive 84 = .ok (.invokevirtual 113, 3) := by decide +kernel
theorem wr_10_174 : (Jvm.Cond.methodLink "SpillForgeModel" (113 : Nat) ({ cls := "SpillForgeModel", name := "back", desc := "(LSpillForgeModel$Row;Z)V" } : Jvm.MethodName)) ∈ gw := gw_10 174 rfl rfl
theorem wr_10_177 : (Jvm.Cond.code ({ cls := "SpillForgeModel", name := "back", desc := "(LSpillForgeModel$Row;Z)V" } : Jvm.MethodName) prog_14_method_7_code (4 : Nat) (Option.none : Option Jvm.ClassFile.FieldType)) ∈ gw := gw_10 177 rfl rfl
theorem wr_10_176 : (Jvm.Cond.instanceMethod ({ cls := "SpillForgeModel", name := "back", desc := "(LSpillForgeModel$Row;Z)V" } : Jvm.MethodName)) ∈ gw := gw_10 176 rfl rfl
theorem wr_p_96 : Cond.selects "SpillForgeModel" ⟨"SpillForgeModel", "back", "(LSpillForgeModel$Row;Z)V"⟩ ⟨"SpillForgeModel", "back", "(LSpillForgeModel$Row;Z)V"⟩ ∈ gw := gw_p _ 96 rfl rfl rfl
theorem dr_cX17_findLive_87 : decode cX17_findLive 87 = .ok (.aload 5, 2) := by decide +kernel
theorem dr_cX17_findLive_89 : decode cX17_findLive 89 = .ok (.getfield 117, 3) := by decide +kernel
theorem dr_cX17_findLive_92 : decode cX17_findLive 92 = .ok (.invokevirtual 121, 3) := by decide +kernel
theorem dr_cX17_findLive_95 : decode cX17_findLive 95 = .ok (.iconst 1, 1) := by decide +kernel
theorem dr_cX17_findLive_96 : decode cX17_findLive 96 = .ok (.isub, 1) := by decide +kernel
theorem dr_cX17_findLive_97 : decode cX17_findLive 97 = .ok (.istore 6, 2) := by decide +kernel
theorem dr_cX17_findLive_99 : decode cX17_findLive 99 = .ok (.iload 6, 2) := by decide +kernel
theorem dr_cX17_findLive_101 : decode cX17_findLive 101 = .ok (.ifCond .lt 27, 3) := by decide +kernel
theorem dr_cX17_findLive_128 : decode cX17_findLive 128 = .ok (.iconst 0, 1) := by decide +kernel
theorem dr_cX17_findLive_129 : decode cX17_findLive 129 = .ok (.istore 6, 2) := by decide +kernel
theorem dr_cX17_findLive_131 : decode cX17_findLive 131 = .ok (.iload 6, 2) := by decide +kernel
theorem dr_cX17_findLive_133 : decode cX17_findLive 133 = .ok (.bipush 32, 2) := by decide +kernel
theorem dr_cX17_findLive_135 : decode cX17_findLive 135 = .ok (.if_icmp .ge 57, 3) := by decide +kernel
theorem dr_cX17_findLive_192 : decode cX17_findLive 192 = .ok (.iinc 4 (-1), 3) := by decide +kernel
theorem dr_cX17_findLive_195 : decode cX17_findLive 195 = .ok (.goto (-137), 3) := by decide +kernel
theorem dr_cX17_findLive_138 : decode cX17_findLive 138 = .ok (.iload_n 3, 1) := by decide +kernel
theorem dr_cX17_findLive_139 : decode cX17_findLive 139 = .ok (.ifCond .ne 24, 3) := by decide +kernel
theorem dr_cX17_findLive_163 : decode cX17_findLive 163 = .ok (.iconst 1, 1) := by decide +kernel
theorem dr_cX17_findLive_164 : decode cX17_findLive 164 = .ok (.goto 4, 3) := by decide +kernel
theorem dr_cX17_findLive_168 : decode cX17_findLive 168 = .ok (.istore_n 3, 1) := by decide +kernel
theorem dr_cX17_findLive_169 : decode cX17_findLive 169 = .ok (.aload_n 0, 1) := by decide +kernel
theorem dr_cX17_findLive_170 : decode cX17_findLive 170 = .ok (.getfield 88, 3) := by decide +kernel
theorem dr_cX17_findLive_173 : decode cX17_findLive 173 = .ok (.iload 4, 2) := by decide +kernel
theorem dr_cX17_findLive_175 : decode cX17_findLive 175 = .ok (.aaload, 1) := by decide +kernel
theorem dr_cX17_findLive_176 : decode cX17_findLive 176 = .ok (.iload 6, 2) := by decide +kernel
theorem dr_cX17_findLive_178 : decode cX17_findLive 178 = .ok (.aload_n 0, 1) := by decide +kernel
theorem dr_cX17_findLive_179 : decode cX17_findLive 179 = .ok (.getfield 59, 3) := by decide +kernel
theorem dr_cX17_findLive_182 : decode cX17_findLive 182 = .ok (.iload 6, 2) := by decide +kernel
theorem dr_cX17_findLive_184 : decode cX17_findLive 184 = .ok (.laload, 1) := by decide +kernel
theorem dr_cX17_findLive_185 : decode cX17_findLive 185 = .ok (.lastore, 1) := by decide +kernel
theorem dr_cX17_findLive_186 : decode cX17_findLive 186 = .ok (.iinc 6 1, 3) := by decide +kernel
theorem dr_cX17_findLive_189 : decode cX17_findLive 189 = .ok (.goto (-58), 3) := by decide +kernel
theorem dr_cX17_findLive_142 : decode cX17_findLive 142 = .ok (.aload_n 0, 1) := by decide +kernel
theorem dr_cX17_findLive_143 : decode cX17_findLive 143 = .ok (.getfield 88, 3) := by decide +kernel
theorem dr_cX17_findLive_146 : decode cX17_findLive 146 = .ok (.iload 4, 2) := by decide +kernel
theorem dr_cX17_findLive_148 : decode cX17_findLive 148 = .ok (.aaload, 1) := by decide +kernel
theorem dr_cX17_findLive_149 : decode cX17_findLive 149 = .ok (.iload 6, 2) := by decide +kernel
theorem dr_cX17_findLive_151 : decode cX17_findLive 151 = .ok (.laload, 1) := by decide +kernel
theorem dr_cX17_findLive_152 : decode cX17_findLive 152 = .ok (.aload_n 0, 1) := by decide +kernel
theorem dr_cX17_findLive_153 : decode cX17_findLive 153 = .ok (.getfield 59, 3) := by decide +kernel
theorem dr_cX17_findLive_156 : decode cX17_findLive 156 = .ok (.iload 6, 2) := by decide +kernel
theorem dr_cX17_findLive_158 : decode cX17_findLive 158 = .ok (.laload, 1) := by decide +kernel
theorem dr_cX17_findLive_159 : decode cX17_findLive 159 = .ok (.lcmp, 1) := by decide +kernel
theorem dr_cX17_findLive_160 : decode cX17_findLive 160 = .ok (.ifCond .eq 7, 3) := by decide +kernel
theorem dr_cX17_findLive_167 : decode cX17_findLive 167 = .ok (.iconst 0, 1) := by decide +kernel
theorem dr_cX17_findLive_104 : decode cX17_findLive 104 = .ok (.aload_n 0, 1) := by decide +kernel
theorem dr_cX17_findLive_105 : decode cX17_findLive 105 = .ok (.aload 5, 2) := by decide +kernel
theorem dr_cX17_findLive_107 : decode cX17_findLive 107 = .ok (.getfield 117, 3) := by decide +kernel
theorem dr_cX17_findLive_110 : decode cX17_findLive 110 = .ok (.iload 6, 2) := by decide +kernel
theorem dr_cX17_findLive_112 : decode cX17_findLive 112 = .ok (.invokevirtual 124, 3) := by decide +kernel
theorem dr_cX17_findLive_115 : decode cX17_findLive 115 = .ok (.checkcast 40, 3) := by decide +kernel
theorem dr_cX17_findLive_118 : decode cX17_findLive 118 = .ok (.iload_n 2, 1) := by decide +kernel
theorem dr_cX17_findLive_119 : decode cX17_findLive 119 = .ok (.invokevirtual 113, 3) := by decide +kernel
theorem dr_cX17_findLive_122 : decode cX17_findLive 122 = .ok (.iinc 6 (-1), 3) := by decide +kernel
theorem dr_cX17_findLive_125 : decode cX17_findLive 125 = .ok (.goto (-26), 3) := by decide +kernel
theorem dr_cX17_findLive_10 : decode cX17_findLive 10 = .ok (.iconst 0, 1) := by decide +kernel
theorem dr_cX17_findLive_11 : decode cX17_findLive 11 = .ok (.istore 4, 2) := by decide +kernel
theorem dr_cX17_findLive_13 : decode cX17_findLive 13 = .ok (.iload 4, 2) := by decide +kernel
theorem dr_cX17_findLive_15 : decode cX17_findLive 15 = .ok (.bipush 32, 2) := by decide +kernel
theorem dr_cX17_findLive_17 : decode cX17_findLive 17 = .ok (.if_icmp .ge 19, 3) := by decide +kernel
theorem dr_cX17_findLive_36 : decode cX17_findLive 36 = .ok (.iinc 3 1, 3) := by decide +kernel
theorem dr_cX17_findLive_39 : decode cX17_findLive 39 = .ok (.goto (-37), 3) := by decide +kernel
theorem dr_cX17_findLive_20 : decode cX17_findLive 20 = .ok (.aload_n 0, 1) := by decide +kernel
theorem dr_cX17_findLive_21 : decode cX17_findLive 21 = .ok (.getfield 88, 3) := by decide +kernel
theorem dr_cX17_findLive_24 : decode cX17_findLive 24 = .ok (.iload_n 3, 1) := by decide +kernel
theorem dr_cX17_findLive_25 : decode cX17_findLive 25 = .ok (.aaload, 1) := by decide +kernel
theorem dr_cX17_findLive_26 : decode cX17_findLive 26 = .ok (.iload 4, 2) := by decide +kernel
theorem dr_cX17_findLive_28 : decode cX17_findLive 28 = .ok (.lconst 0, 1) := by decide +kernel
theorem dr_cX17_findLive_29 : decode cX17_findLive 29 = .ok (.lastore, 1) := by decide +kernel
theorem dr_cX17_findLive_30 : decode cX17_findLive 30 = .ok (.iinc 4 1, 3) := by decide +kernel
theorem dr_cX17_findLive_33 : decode cX17_findLive 33 = .ok (.goto (-20), 3) := by decide +kernel
abbrev ky_215180_Block_ways : gKey := (cX12_ways, 1, "SpillForgeModel$Block", (some FieldType.int), [], "ways", fun _ _ => True)
def pp_215180_Block_ways (D : va_G) (I : FieldType → ClassId) (P215166 : List Nat) (F215167 : Nat → va_E) (q215168 : Nat) (q215169 : Nat) (qo215170 : Nat) (p215171 : Int32) (p215172 : Int32) (p215173 : Int32) (p215174 : Int32) (p215175 : Int32) (p215176 : Int32) (p215177 : Int32) (p215178 : Int32) (p215179 : Int32) : Option Value → va_W → Nat → Nat → Prop := fun r w dc ds => ∃ (o215190 : Int32), r = some (.int o215190) ∧ w = va_pl P215166 F215167 ∧ dc ≤ 0 ∧ ds ≤ 0 ∧ gB o215190 0 2 ∧ ((o215190.toInt = 0 ∧ p215173.toInt = 32) ∨ (o215190.toInt = 1 ∧ p215173.toInt ≠ 32 ∧ (p215173.toInt = 30 ∨ p215171.toInt = p215172.toInt)) ∨ (o215190.toInt = 2 ∧ p215173.toInt ≠ 32 ∧ p215173.toInt ≠ 30 ∧ p215171.toInt ≠ p215172.toInt))
set_option maxRecDepth 100000 in
set_option maxHeartbeats 4000000 in
theorem cp_215180_Block_ways (l : Launch) (hl0 : l.stackTraces = false) (D : va_G) (I : FieldType → ClassId) (P215166 : List Nat) (F215167 : Nat → va_E) (q215168 : Nat) (q215169 : Nat) (qo215170 : Nat) (p215171 : Int32) (p215172 : Int32) (p215173 : Int32) (p215174 : Int32) (p215175 : Int32) (p215176 : Int32) (p215177 : Int32) (p215178 : Int32) (p215179 : Int32) (hmq215168 : q215168 ∈ P215166) (hmq215169 : q215169 ∈ P215166) (heq215168 : F215167 q215168 = .inr (17, [.ref qo215170, .ref q215169, .int p215171, .int p215172])) (heq215169 : F215167 q215169 = .inr (20, [.int p215173, .int p215174, .int p215175, .int p215176, .int p215177, .int p215178, .int p215179])) (bp215171 : gB p215171 0 39) (bp215172 : gB p215172 0 39) (bp215173 : gB p215173 0 32) (bp215174 : gB p215174 0 1999) (bp215177 : gB p215177 0 1999) (bp215178 : gB p215178 0 1) (bp215179 : gB p215179 0 1) : CtA (gV D I) l yX12_ways cX12_ways 1 (some FieldType.int) 0 0 0 0 [.ref q215168] (va_pl P215166 F215167) (pp_215180_Block_ways D I P215166 F215167 q215168 q215169 qo215170 p215171 p215172 p215173 p215174 p215175 p215176 p215177 p215178 p215179) gNA := by
  refine CtA_of hl0 (by decide) (Nat.le_of_ble_eq_true rfl) ?_
  have bp215175 := gB_any p215175
  have bp215176 := gB_any p215176
  refine G_aload_n 0 dr_cX12_ways_0 rfl ?_
  refine Gp_get 1 hmq215168 heq215168 dr_cX12_ways_1 (gk_X12 D I) (Nat.le_of_ble_eq_true rfl) wr_9_222 rfl ?_
  refine Gp_get 0 hmq215169 heq215169 dr_cX12_ways_4 (gk_X15 D I) (Nat.le_of_ble_eq_true rfl) wr_9_176 rfl ?_
  refine G_bipush 32 dr_cX12_ways_7 (by decide +kernel) ?_
  refine G_icmp_ne 16 dr_cX12_ways_9 (by decide +kernel) (fun hc215181 => ?_) (fun hc215181 => ?_)
  · have r215182 : p215173.toInt ≠ 32 := gj_neq hc215181 (show Int32.toInt 32 = 32 by decide)
    have bp215173' : gB p215173 0 31 := ⟨by omega, by omega⟩
    refine G_aload_n 0 dr_cX12_ways_16 rfl ?_
    refine Gp_get 1 hmq215168 heq215168 dr_cX12_ways_17 (gk_X12 D I) (Nat.le_of_ble_eq_true rfl) wr_9_222 rfl ?_
    refine Gp_get 0 hmq215169 heq215169 dr_cX12_ways_20 (gk_X15 D I) (Nat.le_of_ble_eq_true rfl) wr_9_176 rfl ?_
    refine G_bipush 30 dr_cX12_ways_23 (by decide +kernel) ?_
    refine G_icmp_eq 39 dr_cX12_ways_25 (by decide +kernel) (fun hc215183 => ?_) (fun hc215183 => ?_)
    · have r215184 : p215173.toInt = 30 := gj_eq hc215183 (show Int32.toInt 30 = 30 by decide)
      have bp215173'' : gB p215173 30 30 := ⟨by omega, by omega⟩
      refine G_iconst 1 dr_cX12_ways_39 (by decide +kernel) ?_
      refine G_goto 44 dr_cX12_ways_40 (by decide +kernel) ?_
      exact G_iretA dr_cX12_ways_44 rfl (Nat.le_of_ble_eq_true rfl) (Nat.le_of_ble_eq_true rfl) ⟨1, rfl, rfl, (Nat.le_of_ble_eq_true rfl), (Nat.le_of_ble_eq_true rfl), (gB_w (gBl (show Int32.toInt 1 = 1 by decide)) (by decide) (by decide)), (by have qa0 : Int32.toInt 1 = 1 := (by decide); omega)⟩
    · have r215185 : p215173.toInt ≠ 30 := gj_neq hc215183 (show Int32.toInt 30 = 30 by decide)
      refine G_aload_n 0 dr_cX12_ways_28 rfl ?_
      refine Gp_get 2 hmq215168 heq215168 dr_cX12_ways_29 (gk_X12 D I) (Nat.le_of_ble_eq_true rfl) wr_9_226 rfl ?_
      refine G_aload_n 0 dr_cX12_ways_32 rfl ?_
      refine Gp_get 3 hmq215168 heq215168 dr_cX12_ways_33 (gk_X12 D I) (Nat.le_of_ble_eq_true rfl) wr_9_230 rfl ?_
      refine G_icmp_ne 43 dr_cX12_ways_36 (by decide +kernel) (fun hc215186 => ?_) (fun hc215186 => ?_)
      · have r215187 : p215171.toInt ≠ p215172.toInt := gC_ne hc215186
        refine G_iconst 2 dr_cX12_ways_43 (by decide +kernel) ?_
        exact G_iretA dr_cX12_ways_44 rfl (Nat.le_of_ble_eq_true rfl) (Nat.le_of_ble_eq_true rfl) ⟨2, rfl, rfl, (Nat.le_of_ble_eq_true rfl), (Nat.le_of_ble_eq_true rfl), (gB_w (gBl (show Int32.toInt 2 = 2 by decide)) (by decide) (by decide)), (by have qa0 : Int32.toInt 2 = 2 := (by decide); omega)⟩
      · have r215188 : p215171.toInt = p215172.toInt := gC_eq hc215186
        refine G_iconst 1 dr_cX12_ways_39 (by decide +kernel) ?_
        refine G_goto 44 dr_cX12_ways_40 (by decide +kernel) ?_
        exact G_iretA dr_cX12_ways_44 rfl (Nat.le_of_ble_eq_true rfl) (Nat.le_of_ble_eq_true rfl) ⟨1, rfl, rfl, (Nat.le_of_ble_eq_true rfl), (Nat.le_of_ble_eq_true rfl), (gB_w (gBl (show Int32.toInt 1 = 1 by decide)) (by decide) (by decide)), (by have qa0 : Int32.toInt 1 = 1 := (by decide); omega)⟩
  · have r215189 : p215173.toInt = 32 := gj_eq hc215181 (show Int32.toInt 32 = 32 by decide)
    have bp215173' : gB p215173 32 32 := ⟨by omega, by omega⟩
    refine G_iconst 0 dr_cX12_ways_12 (by decide +kernel) ?_
    refine G_goto 44 dr_cX12_ways_13 (by decide +kernel) ?_
    exact G_iretA dr_cX12_ways_44 rfl (Nat.le_of_ble_eq_true rfl) (Nat.le_of_ble_eq_true rfl) ⟨0, rfl, rfl, (Nat.le_of_ble_eq_true rfl), (Nat.le_of_ble_eq_true rfl), (gB_w (gBl (show Int32.toInt 0 = 0 by decide)) (by decide) (by decide)), (by have qa0 : Int32.toInt 0 = 0 := (by decide); omega)⟩
abbrev ky_215314_Block_way : gKey := (cX12_way, 2, "SpillForgeModel$Block", (some FieldType.int), [], "way", fun _ _ => True)
def pp_215314_Block_way (D : va_G) (I : FieldType → ClassId) (P215299 : List Nat) (F215300 : Nat → va_E) (q215301 : Nat) (q215302 : Nat) (p215303 : Int32) (qo215304 : Nat) (p215305 : Int32) (p215306 : Int32) (p215307 : Int32) (p215308 : Int32) (p215309 : Int32) (p215310 : Int32) (p215311 : Int32) (p215312 : Int32) (p215313 : Int32) : Option Value → va_W → Nat → Nat → Prop := fun r w dc ds => ∃ (o215318 : Int32), r = some (.int o215318) ∧ w = va_pl P215299 F215300 ∧ dc ≤ 0 ∧ ds ≤ 0 ∧ gB o215318 0 39 ∧ ((p215303.toInt = 0 ∧ o215318.toInt = p215305.toInt) ∨ (p215303.toInt ≠ 0 ∧ o215318.toInt = p215306.toInt))
set_option maxRecDepth 100000 in
set_option maxHeartbeats 4000000 in
theorem cp_215314_Block_way (l : Launch) (hl0 : l.stackTraces = false) (D : va_G) (I : FieldType → ClassId) (P215299 : List Nat) (F215300 : Nat → va_E) (q215301 : Nat) (q215302 : Nat) (p215303 : Int32) (qo215304 : Nat) (p215305 : Int32) (p215306 : Int32) (p215307 : Int32) (p215308 : Int32) (p215309 : Int32) (p215310 : Int32) (p215311 : Int32) (p215312 : Int32) (p215313 : Int32) (hmq215301 : q215301 ∈ P215299) (hmq215302 : q215302 ∈ P215299) (heq215301 : F215300 q215301 = .inr (17, [.ref qo215304, .ref q215302, .int p215305, .int p215306])) (heq215302 : F215300 q215302 = .inr (20, [.int p215307, .int p215308, .int p215309, .int p215310, .int p215311, .int p215312, .int p215313])) (bp215305 : gB p215305 0 39) (bp215306 : gB p215306 0 39) (bp215307 : gB p215307 0 32) (bp215308 : gB p215308 0 1999) (bp215311 : gB p215311 0 1999) (bp215312 : gB p215312 0 1) (bp215313 : gB p215313 0 1) : CtA (gV D I) l yX12_way cX12_way 2 (some FieldType.int) 0 0 0 0 [.ref q215301, .int p215303] (va_pl P215299 F215300) (pp_215314_Block_way D I P215299 F215300 q215301 q215302 p215303 qo215304 p215305 p215306 p215307 p215308 p215309 p215310 p215311 p215312 p215313) gNA := by
  refine CtA_of hl0 (by decide) (Nat.le_of_ble_eq_true rfl) ?_
  have bp215303 := gB_any p215303
  have bp215309 := gB_any p215309
  have bp215310 := gB_any p215310
  refine G_iload_n 1 dr_cX12_way_0 rfl ?_
  refine G_if_ne 11 dr_cX12_way_1 (by decide +kernel) (fun hc215315 => ?_) (fun hc215315 => ?_)
  · have r215316 : p215303.toInt ≠ 0 := gj_neq hc215315 (show Int32.toInt 0 = 0 by decide)
    refine G_aload_n 0 dr_cX12_way_11 rfl ?_
    refine Gp_get 3 hmq215301 heq215301 dr_cX12_way_12 (gk_X12 D I) (Nat.le_of_ble_eq_true rfl) wr_9_230 rfl ?_
    exact G_iretA dr_cX12_way_15 rfl (Nat.le_of_ble_eq_true rfl) (Nat.le_of_ble_eq_true rfl) ⟨p215306, rfl, rfl, (Nat.le_of_ble_eq_true rfl), (Nat.le_of_ble_eq_true rfl), bp215306, (by omega)⟩
  · have r215317 : p215303.toInt = 0 := gj_eq hc215315 (show Int32.toInt 0 = 0 by decide)
    have bp215303' : gB p215303 0 0 := ⟨by omega, by omega⟩
    refine G_aload_n 0 dr_cX12_way_4 rfl ?_
    refine Gp_get 2 hmq215301 heq215301 dr_cX12_way_5 (gk_X12 D I) (Nat.le_of_ble_eq_true rfl) wr_9_226 rfl ?_
    refine G_goto 15 dr_cX12_way_8 (by decide +kernel) ?_
    exact G_iretA dr_cX12_way_15 rfl (Nat.le_of_ble_eq_true rfl) (Nat.le_of_ble_eq_true rfl) ⟨p215305, rfl, rfl, (Nat.le_of_ble_eq_true rfl), (Nat.le_of_ble_eq_true rfl), bp215305, (by omega)⟩
abbrev ky_214926_SpillForgeModel_behind : gKey := (cX17_behind, 4, "SpillForgeModel", none, [], "behind", fun _ _ => True)
def pt_214926_SpillForgeModel_behind (D : va_G) (I : FieldType → ClassId) (γ el : Nat → Nat → Nat) (P214922 : List Nat) (F214923 : Nat → va_E) (q214924 : Nat) (q214925 : Nat) : Option Value → va_W → Nat → Nat → Prop := fun r w dc ds => ∃ (F217895 : Nat → va_E), r = none ∧ w = va_pl P214922 F217895 ∧ RS D I P214922 F217895 γ el ∧ rStr γ [] F214923 F217895 ∧ dc ≤ 0 ∧ ds ≤ 0 ∧ (∀ k : Nat, k < 2048 → rbt (cL (F217895 (γ 9 2))) k = bhV (fI (F214923 (γ 15 q214925)) 0).toInt (fI (F214923 q214925) 2).toInt (fI (F214923 q214925) 3).toInt (lvS γ F214923) k) ∧ rLv γ F214923 F217895
set_option maxRecDepth 100000 in
set_option maxHeartbeats 4000000 in
theorem ct_214926_SpillForgeModel_behind (l : Launch) (hl0 : l.stackTraces = false) (D : va_G) (I : FieldType → ClassId) (γ el : Nat → Nat → Nat) (P214922 : List Nat) (F214923 : Nat → va_E) (q214924 : Nat) (q214925 : Nat) (hT : RS D I P214922 F214923 γ el) (htq214924 : rKd γ q214924 10) (htq214925 : rKd γ q214925 2) : CtA (gV D I) l yX17_behind cX17_behind 4 none 1 21 0 0 [.ref q214924, .ref q214925] (va_pl P214922 F214923) (pt_214926_SpillForgeModel_behind D I γ el P214922 F214923 q214924 q214925) gNA := by
  refine CtA_of hl0 (by decide) (Nat.le_of_ble_eq_true rfl) ?_
  have hm214927 : q214924 ∈ P214922 := RS_m hT htq214924 (by decide)
  obtain ⟨q214929, q214930, p214931, p214932, p214933, p214934, p214935, p214936, p214937, p214938, p214939, p214940, p214941, p214942, p214943, p214944, p214945, he214928, hB214972, ht214946, ht214947, ht214948, ht214949, ht214950, ht214951, ht214952, ht214953, ht214954, ht214955, ht214956, ht214957, ht214958, ht214959, ht214960, ht214961, ht214962, ht214963, ht214964, ht214965, ht214966, ht214967, ht214968, ht214969, hB214973⟩ := show rk_10 γ (F214923 q214924) from RS_o hT htq214924
  have hm214974 : (γ 9 2) ∈ P214922 := RS_m hT ht214950 (by decide)
  obtain ⟨f214976, he214975, wf214976⟩ := show rk_35 I (F214923 (γ 9 2)) from RS_o hT ht214950
  have hm214977 : q214925 ∈ P214922 := RS_m hT htq214925 (by decide)
  obtain ⟨q214979, q214980, p214981, p214982, he214978, ht214989, ht214983, ht214984, ht214985, ht214986, ht214987, bp214981, bp214982, r214988, r214990, r214991⟩ := show rk_2 γ q214925 (F214923 q214925) from RS_o hT htq214925
  have hm214992 : q214980 ∈ P214922 := RS_m hT ht214985 (by decide)
  obtain ⟨p214994, p214995, p214996, p214997, p214998, p214999, p215000, he214993, bp214994, bp214995, bp214998, bp214999, bp215000, r215001, r215002, r215003, r215004⟩ := show rk_1 γ q214980 (F214923 q214980) from RS_o hT ht214985
  have bp214996 := gB_any p214996
  have bp214997 := gB_any p214997
  have fe1 : (fI (F214923 q214925) 2).toInt = p214981.toInt := by rw [he214978]; rfl
  have fe2 : (fI (F214923 q214925) 3).toInt = p214982.toInt := by rw [he214978]; rfl
  have fe3 : (fI (F214923 (γ 15 q214925)) 0).toInt = p214994.toInt := by rw [ht214989.2.1, he214993]; rfl
  refine G_iconst 0 dr_cX17_behind_0 (by decide +kernel) ?_
  refine G_istore_n (L' := [(2, .int 0), (0, .ref q214924), (1, .ref q214925)]) dr_cX17_behind_1 (Nat.le_of_ble_eq_true rfl) rfl ?_
  have hlp2_217294 : ∀ (n2_217294 : Nat) (F217290 : Nat → va_E) (g217289 : Int32), gB g217289 0 32 → RS D I P214922 F217290 γ el → rStr γ [] F214923 F217290 → (∀ j : Nat, (j : Int) < g217289.toInt → cL (F217290 (γ 9 2)) j = 0) → rLv γ F214923 F217290 → ((33 : Int) - g217289.toInt).toNat < n2_217294 → G (gV D I) l (gRm 1 21 0 0) (gMA (gV D I) (pt_214926_SpillForgeModel_behind D I γ el P214922 F214923 q214924 q214925) gNA 0 0) ky_214926_SpillForgeModel_behind 2 [(2, .int g217289), (0, .ref q214924), (1, .ref q214925)] [] (va_pl P214922 F217290) 0 0 := by
    intro n2_217294
    induction n2_217294 with
    | zero => intro F217290 g217289 bg217289 hT217291 hs217292 x217293 x217294 hm2_217294; exact absurd hm2_217294 (Nat.not_lt_zero _)
    | succ n2_217294 ih2_217294 =>
      intro F217290 g217289 bg217289 hT217291 hs217292 x217293 x217294 hm2_217294
      have hs217296 : rStr γ [] F214923 F217290 := fun b h0 hb hw => (hs217292 b h0 hb hw).trans ((rStr_rf (γ := γ) (W := []) (F := F214923)) b h0 hb hw).symm
      have he217297 : F217290 q214925 = .inr (17, [.ref q214979, .ref q214980, .int p214981, .int p214982]) := (hs217296 q214925 (rT0 htq214925 (by decide)) (rT1 htq214925 (by decide)) (rT2 htq214925 (by decide))).trans he214978
      have he217298 : F217290 q214980 = .inr (20, [.int p214994, .int p214995, .int p214996, .int p214997, .int p214998, .int p214999, .int p215000]) := (hs217296 q214980 (rT0 ht214985 (by decide)) (rT1 ht214985 (by decide)) (rT2 ht214985 (by decide))).trans he214993
      have hs217299 : rStr γ [] F214923 F217290 := rStr_tr (rStr_rf (γ := γ) (W := []) (F := F214923)) hs217296
      refine G_iload_n 0 dr_cX17_behind_2 rfl ?_
      refine G_bipush 32 dr_cX17_behind_3 (by decide +kernel) ?_
      refine G_icmp_ge 21 dr_cX17_behind_5 (by decide +kernel) (fun hc217300 => ?_) (fun hc217300 => ?_)
      · have r217301 : 32 ≤ g217289.toInt := gj_leL hc217300 (show Int32.toInt 32 = 32 by decide)
        have bg217289' : gB g217289 32 32 := ⟨by omega, by omega⟩
        refine G_iconst 0 dr_cX17_behind_21 (by decide +kernel) ?_
        refine G_istore_n (L' := [(2, .int 0), (0, .ref q214924), (1, .ref q214925)]) dr_cX17_behind_22 (Nat.le_of_ble_eq_true rfl) rfl ?_
        have hlp23_217571 : ∀ (n23_217571 : Nat) (F217566 : Nat → va_E) (g217565 : Int32), gB g217565 0 2 → RS D I P214922 F217566 γ el → rStr γ [] F214923 F217566 → (∀ k : Nat, k < 2048 → rbt (cL (F217566 (γ 9 2))) k = wyV g217565.toInt (fI (F214923 q214925) 2).toInt (fI (F214923 q214925) 3).toInt (lvS γ F214923) k) → rLv γ F214923 F217566 → (g217565.toInt = 0 ∨ ((fI (F214923 (γ 15 q214925)) 0).toInt ≠ 32 ∧ (g217565.toInt = 1 ∨ (g217565.toInt = 2 ∧ (fI (F214923 (γ 15 q214925)) 0).toInt ≠ 30 ∧ (fI (F214923 q214925) 2).toInt ≠ (fI (F214923 q214925) 3).toInt)))) → ((3 : Int) - g217565.toInt).toNat < n23_217571 → G (gV D I) l (gRm 1 21 0 0) (gMA (gV D I) (pt_214926_SpillForgeModel_behind D I γ el P214922 F214923 q214924 q214925) gNA 0 0) ky_214926_SpillForgeModel_behind 23 [(2, .int g217565), (0, .ref q214924), (1, .ref q214925)] [] (va_pl P214922 F217566) 0 0 := by
          intro n23_217571
          induction n23_217571 with
          | zero => intro F217566 g217565 bg217565 hT217567 hs217568 x217569 x217570 x217571 hm23_217571; exact absurd hm23_217571 (Nat.not_lt_zero _)
          | succ n23_217571 ih23_217571 =>
            intro F217566 g217565 bg217565 hT217567 hs217568 x217569 x217570 x217571 hm23_217571
            have hs217573 : rStr γ [] F217290 F217566 := fun b h0 hb hw => (hs217568 b h0 hb hw).trans (hs217292 b h0 hb hw).symm
            have he217574 : F217566 q214925 = .inr (17, [.ref q214979, .ref q214980, .int p214981, .int p214982]) := (hs217573 q214925 (rT0 htq214925 (by decide)) (rT1 htq214925 (by decide)) (rT2 htq214925 (by decide))).trans he217297
            have he217575 : F217566 q214980 = .inr (20, [.int p214994, .int p214995, .int p214996, .int p214997, .int p214998, .int p214999, .int p215000]) := (hs217573 q214980 (rT0 ht214985 (by decide)) (rT1 ht214985 (by decide)) (rT2 ht214985 (by decide))).trans he217298
            have hs217576 : rStr γ [] F214923 F217566 := rStr_tr hs217292 hs217573
            refine G_iload_n 0 dr_cX17_behind_23 rfl ?_
            refine G_aload_n 2 dr_cX17_behind_24 rfl ?_
            refine Gw_callV (As := []) (gV_ok D I) (cp_215180_Block_ways l hl0 D I P214922 F217566 q214925 q214980 q214979 p214981 p214982 p214994 p214995 p214996 p214997 p214998 p214999 p215000 hm214977 hm214992 he217574 he217575 bp214981 bp214982 bp214994 bp214995 bp214998 bp214999 bp215000) dr_cX17_behind_25 ⟨wr_10_166, wr_1_38, wr_10_169, by decide, rfl, (Nat.le_of_ble_eq_true rfl), (Nat.le_of_ble_eq_true rfl)⟩ wr_10_167 wr_10_168 hm214977 he217574 rfl (show 0 + 0 ≤ 0 by first | omega | decide) (show 0 + 0 ≤ 0 by first | omega | decide) (Nat.le_of_ble_eq_true rfl) (fun r217580 w217581 dc217577 ds217578 hp217579 => ?_) (fun _ _ _ _ _ z => z.elim)
            obtain ⟨o217582, rfl, rfl, hdc, hds, bo217582, x217583⟩ := hp217579
            change G _ _ _ _ _ _ _ (.int o217582 :: _) _ _ _
            refine G_widen (cs' := 0) (sl' := 0) (by omega) (by omega) ?_
            refine G_icmp_ge 72 dr_cX17_behind_28 (by decide +kernel) (fun hc217584 => ?_) (fun hc217584 => ?_)
            · have r217585 : o217582.toInt ≤ g217565.toInt := gC_le hc217584
              have hm217586 : q214924 ∈ P214922 := RS_m hT217567 htq214924 (by decide)
              obtain ⟨q217588, q217589, p217590, p217591, p217592, p217593, p217594, p217595, p217596, p217597, p217598, p217599, p217600, p217601, p217602, p217603, p217604, he217587, hB217631, ht217605, ht217606, ht217607, ht217608, ht217609, ht217610, ht217611, ht217612, ht217613, ht217614, ht217615, ht217616, ht217617, ht217618, ht217619, ht217620, ht217621, ht217622, ht217623, ht217624, ht217625, ht217626, ht217627, ht217628, hB217632⟩ := show rk_10 γ (F217566 q214924) from RS_o hT217567 htq214924
              exact G_vretA dr_cX17_behind_72 rfl (Nat.le_of_ble_eq_true rfl) (Nat.le_of_ble_eq_true rfl) ⟨F217566, rfl, rfl, hT217567, hs217568, (Nat.le_of_ble_eq_true rfl), (Nat.le_of_ble_eq_true rfl), (fun k hk => (x217569 k hk).trans (bh_of (by omega))), x217570⟩
            · have r217633 : g217565.toInt < o217582.toInt := gC_nle hc217584
              have bg217565' : gB g217565 0 1 := ⟨by omega, by omega⟩
              have bo217582' : gB o217582 1 2 := ⟨by omega, by omega⟩
              refine G_iconst 0 dr_cX17_behind_31 (by decide +kernel) ?_
              refine G_istore_n (L' := [(3, .int 0), (2, .int g217565), (0, .ref q214924), (1, .ref q214925)]) dr_cX17_behind_32 (Nat.le_of_ble_eq_true rfl) rfl ?_
              have hlp33_217737 : ∀ (n33_217737 : Nat) (F217732 : Nat → va_E) (g217731 : Int32), gB g217731 0 32 → RS D I P214922 F217732 γ el → rStr γ [] F214923 F217732 → (∀ k : Nat, k < 2048 → rbt (cL (F217732 (γ 9 2))) k = if (k : Int) < 64 * g217731.toInt then wyV (g217565.toInt + 1) (fI (F214923 q214925) 2).toInt (fI (F214923 q214925) 3).toInt (lvS γ F214923) k else wyV g217565.toInt (fI (F214923 q214925) 2).toInt (fI (F214923 q214925) 3).toInt (lvS γ F214923) k) → rLv γ F214923 F217732 → ((g217565.toInt = 0 ∧ (fI (F214923 (γ 15 q214925)) 0).toInt ≠ 32) ∨ (g217565.toInt = 1 ∧ (fI (F214923 (γ 15 q214925)) 0).toInt ≠ 32 ∧ (fI (F214923 (γ 15 q214925)) 0).toInt ≠ 30 ∧ (fI (F214923 q214925) 2).toInt ≠ (fI (F214923 q214925) 3).toInt)) → ((33 : Int) - g217731.toInt).toNat < n33_217737 → G (gV D I) l (gRm 1 21 0 0) (gMA (gV D I) (pt_214926_SpillForgeModel_behind D I γ el P214922 F214923 q214924 q214925) gNA 0 0) ky_214926_SpillForgeModel_behind 33 [(3, .int g217731), (2, .int g217565), (0, .ref q214924), (1, .ref q214925)] [] (va_pl P214922 F217732) 0 0 := by
                intro n33_217737
                induction n33_217737 with
                | zero => intro F217732 g217731 bg217731 hT217733 hs217734 x217735 x217736 x217737 hm33_217737; exact absurd hm33_217737 (Nat.not_lt_zero _)
                | succ n33_217737 ih33_217737 =>
                  intro F217732 g217731 bg217731 hT217733 hs217734 x217735 x217736 x217737 hm33_217737
                  have hs217739 : rStr γ [] F217566 F217732 := fun b h0 hb hw => (hs217734 b h0 hb hw).trans (hs217568 b h0 hb hw).symm
                  have he217740 : F217732 q214925 = .inr (17, [.ref q214979, .ref q214980, .int p214981, .int p214982]) := (hs217739 q214925 (rT0 htq214925 (by decide)) (rT1 htq214925 (by decide)) (rT2 htq214925 (by decide))).trans he217574
                  have he217741 : F217732 q214980 = .inr (20, [.int p214994, .int p214995, .int p214996, .int p214997, .int p214998, .int p214999, .int p215000]) := (hs217739 q214980 (rT0 ht214985 (by decide)) (rT1 ht214985 (by decide)) (rT2 ht214985 (by decide))).trans he217575
                  have hs217742 : rStr γ [] F214923 F217732 := rStr_tr hs217568 hs217739
                  refine G_iload_n 0 dr_cX17_behind_33 rfl ?_
                  refine G_bipush 32 dr_cX17_behind_34 (by decide +kernel) ?_
                  refine G_icmp_ge 66 dr_cX17_behind_36 (by decide +kernel) (fun hc217743 => ?_) (fun hc217743 => ?_)
                  · have r217744 : 32 ≤ g217731.toInt := gj_leL hc217743 (show Int32.toInt 32 = 32 by decide)
                    have bg217731' : gB g217731 32 32 := ⟨by omega, by omega⟩
                    obtain ⟨z217745, hz217745⟩ : ∃ z : Int32, z = g217565 + Int32.ofInt 1 := ⟨_, rfl⟩
                    have ez217745 : z217745.toInt = g217565.toInt + 1 := gI_inc hz217745 (by decide) bg217565' (by decide) (by decide)
                    have bz217745 : gB z217745 1 2 := ⟨by omega, by omega⟩
                    refine G_iinc (L' := [(2, .int z217745), (3, .int g217731), (0, .ref q214924), (1, .ref q214925)]) z217745 1 dr_cX17_behind_66 rfl hz217745.symm (Nat.le_of_ble_eq_true rfl) rfl ?_
                    refine G_goto 23 dr_cX17_behind_69 (by decide +kernel) ?_
                    refine G_lv (L' := [(2, .int z217745), (0, .ref q214924), (1, .ref q214925)]) [0, 2, 3] rfl ?_
                    exact ih23_217571 F217732 z217745 (gB_w bz217745 (by decide) (by decide)) hT217733 hs217734 (fun k hk => by have q := x217735 k hk; rw [if_pos (by omega)] at q; rw [ez217745]; exact q) x217736 (by rw [show fI (F214923 q214925) 2 = p214981 from by rw [he214978]; rfl, show fI (F214923 q214925) 3 = p214982 from by rw [he214978]; rfl] <;> (omega)) (by omega)
                  · have r217746 : g217731.toInt < 32 := gj_nleL hc217743 (show Int32.toInt 32 = 32 by decide)
                    have bg217731' : gB g217731 0 31 := ⟨by omega, by omega⟩
                    refine G_aload_n 2 dr_cX17_behind_39 rfl ?_
                    have hm217747 : q214924 ∈ P214922 := RS_m hT217733 htq214924 (by decide)
                    obtain ⟨q217749, q217750, p217751, p217752, p217753, p217754, p217755, p217756, p217757, p217758, p217759, p217760, p217761, p217762, p217763, p217764, p217765, he217748, hB217792, ht217766, ht217767, ht217768, ht217769, ht217770, ht217771, ht217772, ht217773, ht217774, ht217775, ht217776, ht217777, ht217778, ht217779, ht217780, ht217781, ht217782, ht217783, ht217784, ht217785, ht217786, ht217787, ht217788, ht217789, hB217793⟩ := show rk_10 γ (F217732 q214924) from RS_o hT217733 htq214924
                    refine Gp_get 2 hm217747 he217748 dr_cX17_behind_40 (gk_X17 D I) (Nat.le_of_ble_eq_true rfl) wr_7_76 rfl ?_
                    refine G_iload_n 0 dr_cX17_behind_43 rfl ?_
                    refine G_dup2_11 dr_cX17_behind_44 rfl rfl ?_
                    have hm217794 : (γ 9 2) ∈ P214922 := RS_m hT217733 ht217770 (by decide)
                    obtain ⟨f217796, he217795, wf217796⟩ := show rk_35 I (F217732 (γ 9 2)) from RS_o hT217733 ht217770
                    refine Gp_lald 2 hm217794 he217795 dr_cX17_behind_45 rfl (gB_in bg217731' (by decide) (by decide)) (G_namL fun u217797 hu217797 => ?_)
                    have qu217797 : lb_Q u217797 (2000 - 64 * g217731.toInt) := lb_Wld hu217797 wf217796 (by omega) (by omega) (lb_Mod0 (by omega) (by omega))
                    refine G_aload_n 2 dr_cX17_behind_46 rfl ?_
                    refine Gp_get 0 hm217747 he217748 dr_cX17_behind_47 (gk_X17 D I) (Nat.le_of_ble_eq_true rfl) wr_7_74 rfl ?_
                    refine G_aload_n 3 dr_cX17_behind_50 rfl ?_
                    refine G_iload_n 1 dr_cX17_behind_51 rfl ?_
                    refine Gw_callV (As := [.int g217565]) (gV_ok D I) (cp_215314_Block_way l hl0 D I P214922 F217732 q214925 q214980 g217565 q214979 p214981 p214982 p214994 p214995 p214996 p214997 p214998 p214999 p215000 hm214977 hm214992 he217740 he217741 bp214981 bp214982 bp214994 bp214995 bp214998 bp214999 bp215000) dr_cX17_behind_52 ⟨wr_10_170, wr_1_38, wr_10_173, by decide, rfl, (Nat.le_of_ble_eq_true rfl), (Nat.le_of_ble_eq_true rfl)⟩ wr_10_171 wr_10_172 hm214977 he217740 rfl (show 0 + 0 ≤ 0 by first | omega | decide) (show 0 + 0 ≤ 0 by first | omega | decide) (Nat.le_of_ble_eq_true rfl) (fun r217801 w217802 dc217798 ds217799 hp217800 => ?_) (fun _ _ _ _ _ z => z.elim)
                    obtain ⟨o217803, rfl, rfl, hdc, hds, bo217803, x217804⟩ := hp217800
                    change G _ _ _ _ _ _ _ (.int o217803 :: _) _ _ _
                    refine G_widen (cs' := 0) (sl' := 0) (by omega) (by omega) ?_
                    have hm217805 : (γ 9 0) ∈ P214922 := RS_m hT217733 ht217768 (by decide)
                    obtain ⟨f217807, he217806, hg217808⟩ := show rk_12 I γ (F217732 (γ 9 0)) from RS_o hT217733 ht217768
                    obtain ⟨q217809, hx217811⟩ : ∃ x, x = γ 10 o217803.toInt.toNat := ⟨_, rfl⟩
                    have ht217810 : rKd γ q217809 11 := by rw [hx217811]; exact (hg217808 _ (show o217803.toInt.toNat < 40 by omega)).2.1
                    refine Gp_aald 5 hm217805 he217806 dr_cX17_behind_55 rfl rfl (gB_in bo217803 (by decide) (by decide)) ?_
                    rw [show f217807 o217803.toNatClampNeg = some q217809 from (hg217808 _ (show o217803.toInt.toNat < 40 by omega)).1.trans (by rw [hx217811])]
                    change G _ _ _ _ _ _ _ (.ref q217809 :: _) _ _ _
                    refine G_iload_n 0 dr_cX17_behind_56 rfl ?_
                    have hm217812 : q217809 ∈ P214922 := RS_m hT217733 ht217810 (by decide)
                    obtain ⟨f217814, he217813, wf217814⟩ := show rk_11 I (F217732 q217809) from RS_o hT217733 ht217810
                    refine Gp_lald 2 hm217812 he217813 dr_cX17_behind_57 rfl (gB_in bg217731' (by decide) (by decide)) (G_namL fun u217815 hu217815 => ?_)
                    have qu217815 : lb_Q u217815 (2000 - 64 * g217731.toInt) := lb_Wld hu217815 wf217814 (by omega) (by omega) (lb_Mod0 (by omega) (by omega))
                    have hg217816 : ∀ k : Nat, lvS γ F214923 o217803.toInt.toNat k = rbt f217814 k := fun k => by unfold lvS; rw [← x217736 _ (show o217803.toInt.toNat < 40 by omega), ← hx217811, cL_of he217813]
                    refine G_lor dr_cX17_behind_58 (G_namL fun u217817 hu217817 => ?_)
                    have qu217817 : lb_Q u217817 (2000 - 64 * g217731.toInt) := lb_Qor hu217817 qu217797 qu217815
                    refine Gp_last 2 hm217794 he217795 dr_cX17_behind_59 rfl (gB_in bg217731' (by decide) (by decide)) (fun F217818 e217819 n217820 => ?_)
                    obtain ⟨f217821, hf217821⟩ : ∃ z, z = vp_updL f217796 g217731.toNatClampNeg u217817 := ⟨_, rfl⟩
                    rw [← hf217821] at e217819
                    have he217822 : F217818 q214925 = .inr (17, [.ref q214979, .ref q214980, .int p214981, .int p214982]) := (n217820 q214925 (rn_oa he217740 he217795)).trans he217740
                    have he217823 : F217818 q214980 = .inr (20, [.int p214994, .int p214995, .int p214996, .int p214997, .int p214998, .int p214999, .int p215000]) := (n217820 q214980 (rn_oa he217741 he217795)).trans he217741
                    have he217824 : F217818 q214924 = .inr (22, [.ref (γ 9 0), .ref (γ 9 1), .ref (γ 9 2), .ref (γ 9 3), .ref (γ 9 4), .ref (γ 9 5), .ref (γ 9 6), .ref (γ 9 7), .ref (γ 9 8), .int p217751, .int p217752, .int p217753, .int p217754, .int p217755, .int p217756, .ref (γ 9 15), .ref (γ 9 16), .ref (γ 9 17), .ref (γ 9 18), .ref (γ 9 19), .ref (γ 9 20), .ref (γ 9 21), .ref (γ 9 22), .int p217757, .int p217758, .int p217759, .int p217760, .int p217761, .ref q217749, .ref (γ 9 29), .int p217762, .ref (γ 9 31), .int p217763, .int p217764, .int p217765, .ref q217750]) := (n217820 q214924 (rn_oa he217748 he217795)).trans he217748
                    have he217825 : F217818 (γ 9 0) = .inl (I (.array .long), 40, .inr (.inr (.inr (.inr f217807)))) := (n217820 (γ 9 0) (rn_ref_long he217806 he217795)).trans he217806
                    have he217826 : F217818 q217809 = .inl (I .long, 32, .inr (.inl f217814)) := (n217820 q217809 (rn_ty ht217810 ht217770 (by decide))).trans he217813
                    have he217827 : F217818 (γ 9 2) = .inl (I .long, 32, .inr (.inl f217821)) := e217819
                    have hs217828 : rStr γ [] F214923 F217818 := rStr_put hs217734 n217820 ht217770 (by decide)
                    have wf217821 : lb_W f217821 (32) (32) (2000) := lb_Wst hf217821 wf217796 (by omega) (lb_Mod0 (by omega) (by omega)) qu217817
                    obtain ⟨z217829, hz217829⟩ : ∃ z : Int32, z = g217731 + Int32.ofInt 1 := ⟨_, rfl⟩
                    have ez217829 : z217829.toInt = g217731.toInt + 1 := gI_inc hz217829 (by decide) bg217731' (by decide) (by decide)
                    have bz217829 : gB z217829 1 32 := ⟨by omega, by omega⟩
                    refine G_iinc (L' := [(3, .int z217829), (2, .int g217565), (0, .ref q214924), (1, .ref q214925)]) z217829 0 dr_cX17_behind_60 rfl hz217829.symm (Nat.le_of_ble_eq_true rfl) rfl ?_
                    refine G_goto 33 dr_cX17_behind_63 (by decide +kernel) ?_
                    have hT217830 : RS D I P214922 F217818 γ el := RS_set hT217733 n217820 ht217770 (by decide) ⟨f217821, he217827, wf217821⟩
                    have lv217831 : rLv γ F214923 F217818 := rLv_put hT217733 ht217768 x217736 n217820 ht217770 (by decide)
                    exact ih33_217737 F217818 z217829 (gB_w bz217829 (by decide) (by decide)) hT217830 hs217828 (by rw [cL_of he217827]; exact or_st hu217797 hu217815 (by assumption) hf217821 bg217731'.1 ez217829 (by have q := x217735; rw [cL_of he217795] at q; exact q) (fun k => (wy_s (y := o217803.toInt) (by omega)).trans (by rw [hg217816 k]))) lv217831 (by rw [show fI (F214923 q214925) 2 = p214981 from by rw [he214978]; rfl, show fI (F214923 q214925) 3 = p214982 from by rw [he214978]; rfl] <;> (omega)) (by omega)
              exact hlp33_217737 (((33 : Int) - 0).toNat + 1) F217566 0 (gB_w (gBl (show Int32.toInt 0 = 0 by decide)) (by decide) (by decide)) hT217567 hs217568 (fun k hk => by rw [if_neg (by have qa : Int32.toInt 0 = 0 := (by decide); omega)]; exact x217569 k hk) x217570 (by rw [show fI (F214923 q214925) 2 = p214981 from by rw [he214978]; rfl, show fI (F214923 q214925) 3 = p214982 from by rw [he214978]; rfl] <;> (omega)) (Nat.lt_succ_self _)
        exact hlp23_217571 (((3 : Int) - 0).toNat + 1) F217290 0 (gB_w (gBl (show Int32.toInt 0 = 0 by decide)) (by decide) (by decide)) hT217291 hs217292 (fun k hk => (rbt_z (x217293 _ (by omega))).trans wy_0.symm) x217294 (Or.inl (by decide)) (Nat.lt_succ_self _)
      · have r217832 : g217289.toInt < 32 := gj_nleL hc217300 (show Int32.toInt 32 = 32 by decide)
        have bg217289' : gB g217289 0 31 := ⟨by omega, by omega⟩
        refine G_aload_n 1 dr_cX17_behind_8 rfl ?_
        have hm217833 : q214924 ∈ P214922 := RS_m hT217291 htq214924 (by decide)
        obtain ⟨q217835, q217836, p217837, p217838, p217839, p217840, p217841, p217842, p217843, p217844, p217845, p217846, p217847, p217848, p217849, p217850, p217851, he217834, hB217878, ht217852, ht217853, ht217854, ht217855, ht217856, ht217857, ht217858, ht217859, ht217860, ht217861, ht217862, ht217863, ht217864, ht217865, ht217866, ht217867, ht217868, ht217869, ht217870, ht217871, ht217872, ht217873, ht217874, ht217875, hB217879⟩ := show rk_10 γ (F217290 q214924) from RS_o hT217291 htq214924
        refine Gp_get 2 hm217833 he217834 dr_cX17_behind_9 (gk_X17 D I) (Nat.le_of_ble_eq_true rfl) wr_7_76 rfl ?_
        refine G_iload_n 0 dr_cX17_behind_12 rfl ?_
        refine G_lconst 0 dr_cX17_behind_13 rfl ?_
        have hm217880 : (γ 9 2) ∈ P214922 := RS_m hT217291 ht217856 (by decide)
        obtain ⟨f217882, he217881, wf217882⟩ := show rk_35 I (F217290 (γ 9 2)) from RS_o hT217291 ht217856
        refine Gp_last 2 hm217880 he217881 dr_cX17_behind_14 rfl (gB_in bg217289' (by decide) (by decide)) (fun F217883 e217884 n217885 => ?_)
        obtain ⟨f217886, hf217886⟩ : ∃ z, z = vp_updL f217882 g217289.toNatClampNeg 0 := ⟨_, rfl⟩
        rw [← hf217886] at e217884
        have he217887 : F217883 q214925 = .inr (17, [.ref q214979, .ref q214980, .int p214981, .int p214982]) := (n217885 q214925 (rn_oa he217297 he217881)).trans he217297
        have he217888 : F217883 q214980 = .inr (20, [.int p214994, .int p214995, .int p214996, .int p214997, .int p214998, .int p214999, .int p215000]) := (n217885 q214980 (rn_oa he217298 he217881)).trans he217298
        have he217889 : F217883 q214924 = .inr (22, [.ref (γ 9 0), .ref (γ 9 1), .ref (γ 9 2), .ref (γ 9 3), .ref (γ 9 4), .ref (γ 9 5), .ref (γ 9 6), .ref (γ 9 7), .ref (γ 9 8), .int p217837, .int p217838, .int p217839, .int p217840, .int p217841, .int p217842, .ref (γ 9 15), .ref (γ 9 16), .ref (γ 9 17), .ref (γ 9 18), .ref (γ 9 19), .ref (γ 9 20), .ref (γ 9 21), .ref (γ 9 22), .int p217843, .int p217844, .int p217845, .int p217846, .int p217847, .ref q217835, .ref (γ 9 29), .int p217848, .ref (γ 9 31), .int p217849, .int p217850, .int p217851, .ref q217836]) := (n217885 q214924 (rn_oa he217834 he217881)).trans he217834
        have he217890 : F217883 (γ 9 2) = .inl (I .long, 32, .inr (.inl f217886)) := e217884
        have hs217891 : rStr γ [] F214923 F217883 := rStr_put hs217292 n217885 ht217856 (by decide)
        have wf217886 : lb_W f217886 (32) (32) (2000) := lb_Wst hf217886 wf217882 (by omega) (lb_Mod0 (by omega) (by omega)) lb_Q0
        obtain ⟨z217892, hz217892⟩ : ∃ z : Int32, z = g217289 + Int32.ofInt 1 := ⟨_, rfl⟩
        have ez217892 : z217892.toInt = g217289.toInt + 1 := gI_inc hz217892 (by decide) bg217289' (by decide) (by decide)
        have bz217892 : gB z217892 1 32 := ⟨by omega, by omega⟩
        refine G_iinc (L' := [(2, .int z217892), (0, .ref q214924), (1, .ref q214925)]) z217892 0 dr_cX17_behind_15 rfl hz217892.symm (Nat.le_of_ble_eq_true rfl) rfl ?_
        refine G_goto 2 dr_cX17_behind_18 (by decide +kernel) ?_
        have hT217893 : RS D I P214922 F217883 γ el := RS_set hT217291 n217885 ht217856 (by decide) ⟨f217886, he217890, wf217886⟩
        have lv217894 : rLv γ F214923 F217883 := rLv_put hT217291 ht217854 x217294 n217885 ht217856 (by decide)
        exact ih2_217294 F217883 z217892 (gB_w bz217892 (by decide) (by decide)) hT217893 hs217891 (by rw [cL_of he217890]; exact zr_st hf217886 (by have q := x217293; rw [cL_of he217881] at q; exact q) ez217892 bg217289'.1) lv217894 (by omega)
  exact hlp2_217294 (((33 : Int) - 0).toNat + 1) F214923 0 (gB_w (gBl (show Int32.toInt 0 = 0 by decide)) (by decide) (by decide)) hT (rStr_rf (γ := γ) (W := []) (F := F214923)) (fun j hj => absurd hj (by have qa : Int32.toInt 0 = 0 := (by decide); omega)) (rLv_rf (γ := γ) (F := F214923)) (Nat.lt_succ_self _)
abbrev ky_217902_SpillForgeModel_findLive : gKey := (cX17_findLive, 7, "SpillForgeModel", none, [], "findLive", fun _ _ => True)
def pt_217902_SpillForgeModel_findLive (D : va_G) (I : FieldType → ClassId) (γ el : Nat → Nat → Nat) (P217896 : List Nat) (F217897 : Nat → va_E) (q217898 : Nat) (q217899 : Nat) (p217900 : Int32) : Option Value → va_W → Nat → Nat → Prop := fun r w dc ds => ∃ (F269914 : Nat → va_E), r = none ∧ w = va_pl P217896 F269914 ∧ RS D I P217896 F269914 γ el ∧ rStr γ [] F217897 F269914 ∧ dc ≤ 0 ∧ ds ≤ 0
set_option maxRecDepth 100000 in
set_option maxHeartbeats 4000000 in
theorem ct_217902_SpillForgeModel_findLive (l : Launch) (hl0 : l.stackTraces = false) (D : va_G) (I : FieldType → ClassId) (γ el : Nat → Nat → Nat) (P217896 : List Nat) (F217897 : Nat → va_E) (q217898 : Nat) (q217899 : Nat) (p217900 : Int32) (hT : RS D I P217896 F217897 γ el) (htq217898 : rKd γ q217898 10) (htq217899 : rKd γ q217899 9) (bp217900 : gB p217900 0 1) (x217901 : 0 < γ 6 (γ 1 q217899)) : CtA (gV D I) l yX17_findLive cX17_findLive 7 none 4 85 0 0 [.ref q217898, .ref q217899, .int p217900] (va_pl P217896 F217897) (pt_217902_SpillForgeModel_findLive D I γ el P217896 F217897 q217898 q217899 p217900) gNA := by
  refine CtA_of hl0 (by decide) (Nat.le_of_ble_eq_true rfl) ?_
  have hm217903 : q217898 ∈ P217896 := RS_m hT htq217898 (by decide)
  obtain ⟨q217905, q217906, p217907, p217908, p217909, p217910, p217911, p217912, p217913, p217914, p217915, p217916, p217917, p217918, p217919, p217920, p217921, he217904, hB217948, ht217922, ht217923, ht217924, ht217925, ht217926, ht217927, ht217928, ht217929, ht217930, ht217931, ht217932, ht217933, ht217934, ht217935, ht217936, ht217937, ht217938, ht217939, ht217940, ht217941, ht217942, ht217943, ht217944, ht217945, hB217949⟩ := show rk_10 γ (F217897 q217898) from RS_o hT htq217898
  have hm217950 : (γ 9 2) ∈ P217896 := RS_m hT ht217926 (by decide)
  obtain ⟨f217952, he217951, wf217952⟩ := show rk_35 I (F217897 (γ 9 2)) from RS_o hT ht217926
  refine G_iconst 0 dr_cX17_findLive_0 (by decide +kernel) ?_
  refine G_istore_n (L' := [(3, .int 0), (0, .ref q217898), (1, .ref q217899), (2, .int p217900)]) dr_cX17_findLive_1 (Nat.le_of_ble_eq_true rfl) rfl ?_
  have hlp2_264737 : ∀ (n2_264737 : Nat) (F264734 : Nat → va_E) (g264733 : Int32), gB g264733 0 1000000 → RS D I P217896 F264734 γ el → rStr γ [] F217897 F264734 → (∀ i : Nat, (i : Int) < g264733.toInt → ∀ j : Nat, j < 32 → cL (F264734 (γ 10 i)) j = 0) → ((1000001 : Int) - g264733.toInt).toNat < n2_264737 → G (gV D I) l (gRm 4 85 0 0) (gMA (gV D I) (pt_217902_SpillForgeModel_findLive D I γ el P217896 F217897 q217898 q217899 p217900) gNA 0 0) ky_217902_SpillForgeModel_findLive 2 [(3, .int g264733), (0, .ref q217898), (1, .ref q217899), (2, .int p217900)] [] (va_pl P217896 F264734) 0 0 := by
    intro n2_264737
    induction n2_264737 with
    | zero => intro F264734 g264733 bg264733 hT264735 hs264736 x264737 hm2_264737; exact absurd hm2_264737 (Nat.not_lt_zero _)
    | succ n2_264737 ih2_264737 =>
      intro F264734 g264733 bg264733 hT264735 hs264736 x264737 hm2_264737
      have hs264739 : rStr γ [] F217897 F264734 := fun b h0 hb hw => (hs264736 b h0 hb hw).trans ((rStr_rf (γ := γ) (W := []) (F := F217897)) b h0 hb hw).symm
      have hs264740 : rStr γ [] F217897 F264734 := rStr_tr (rStr_rf (γ := γ) (W := []) (F := F217897)) hs264739
      refine G_iload_n 0 dr_cX17_findLive_2 rfl ?_
      refine G_aload_n 2 dr_cX17_findLive_3 rfl ?_
      have hm264741 : q217899 ∈ P217896 := RS_m hT264735 htq217899 (by decide)
      obtain ⟨q264743, q264744, p264745, p264746, he264742, ht264762, ht264747, ht264748, ht264749, ht264750, r264751, r264752, r264753, r264754, r264755, r264756, r264757, r264758, r264759, r264760, r264761⟩ := show rk_9 γ el q217899 (F264734 q217899) from RS_o hT264735 htq217899
      have bp264745 : gB p264745 0 1000000 := ⟨by omega, by omega⟩
      have bp264746 : gB p264746 0 1000000 := ⟨by omega, by omega⟩
      refine Gw_callV (As := []) (gV_ok D I) (cp_12451_Code_size l hl0 D I P217896 F264734 q217899 q264743 q264744 p264745 p264746 hm264741 he264742) dr_cX17_findLive_4 ⟨wr_10_160, wr_1_15, wr_9_131, by decide, rfl, (Nat.le_of_ble_eq_true rfl), (Nat.le_of_ble_eq_true rfl)⟩ wr_9_129 wr_9_130 hm264741 he264742 rfl (show 0 + 0 ≤ 0 by first | omega | decide) (show 0 + 0 ≤ 0 by first | omega | decide) (Nat.le_of_ble_eq_true rfl) (fun r264766 w264767 dc264763 ds264764 hp264765 => ?_) (fun _ _ _ _ _ z => z.elim)
      obtain ⟨rfl, rfl, hdc, hds⟩ := hp264765
      change G _ _ _ _ _ _ _ (.int p264746 :: _) _ _ _
      refine G_widen (cs' := 0) (sl' := 0) (by omega) (by omega) ?_
      refine G_icmp_ge 42 dr_cX17_findLive_7 (by decide +kernel) (fun hc264768 => ?_) (fun hc264768 => ?_)
      · have r264769 : p264746.toInt ≤ g264733.toInt := gC_le hc264768
        refine G_iconst 1 dr_cX17_findLive_42 (by decide +kernel) ?_
        refine G_istore_n (L' := [(3, .int 1), (0, .ref q217898), (1, .ref q217899), (2, .int p217900)]) dr_cX17_findLive_43 (Nat.le_of_ble_eq_true rfl) rfl ?_
        have hlp44_267264 : ∀ (n44_267264 : Nat) (F267261 : Nat → va_E) (g267260 : Int32), gB g267260 0 1 → RS D I P217896 F267261 γ el → rStr γ [] F217897 F267261 → rJv γ el F217897 F267261 q217899 (decide (p217900.toInt = 1)) (γ 6 (γ 1 q217899)) → ((81920 - lvT γ F267261) + (g267260.toInt : Int).toNat) < n44_267264 → G (gV D I) l (gRm 4 85 0 0) (gMA (gV D I) (pt_217902_SpillForgeModel_findLive D I γ el P217896 F217897 q217898 q217899 p217900) gNA 0 0) ky_217902_SpillForgeModel_findLive 44 [(3, .int g267260), (0, .ref q217898), (1, .ref q217899), (2, .int p217900)] [] (va_pl P217896 F267261) 0 0 := by
          intro n44_267264
          induction n44_267264 with
          | zero => intro F267261 g267260 bg267260 hT267262 hs267263 x267264 hm44_267264; exact absurd hm44_267264 (Nat.not_lt_zero _)
          | succ n44_267264 ih44_267264 =>
            intro F267261 g267260 bg267260 hT267262 hs267263 x267264 hm44_267264
            have hs267266 : rStr γ [] F264734 F267261 := fun b h0 hb hw => (hs267263 b h0 hb hw).trans (hs264736 b h0 hb hw).symm
            have he267267 : F267261 q217899 = .inr (18, [.ref q264743, .ref q264744, .int p264745, .int p264746]) := (hs267266 q217899 (rT0 htq217899 (by decide)) (rT1 htq217899 (by decide)) (rT2 htq217899 (by decide))).trans he264742
            have hs267268 : rStr γ [] F217897 F267261 := rStr_tr hs264736 hs267266
            refine G_iload_n 0 dr_cX17_findLive_44 rfl ?_
            refine G_if_eq 201 dr_cX17_findLive_45 (by decide +kernel) (fun hc267269 => ?_) (fun hc267269 => ?_)
            · have r267270 : g267260.toInt = 0 := gj_eq hc267269 (show Int32.toInt 0 = 0 by decide)
              have bg267260' : gB g267260 0 0 := ⟨by omega, by omega⟩
              exact G_vretA dr_cX17_findLive_201 rfl (Nat.le_of_ble_eq_true rfl) (Nat.le_of_ble_eq_true rfl) ⟨F267261, rfl, rfl, hT267262, hs267263, (Nat.le_of_ble_eq_true rfl), (Nat.le_of_ble_eq_true rfl)⟩
            · have r267271 : g267260.toInt ≠ 0 := gj_neq hc267269 (show Int32.toInt 0 = 0 by decide)
              have bg267260' : gB g267260 1 1 := ⟨by omega, by omega⟩
              refine G_iconst 0 dr_cX17_findLive_48 (by decide +kernel) ?_
              refine G_istore_n (L' := [(3, .int 0), (0, .ref q217898), (1, .ref q217899), (2, .int p217900)]) dr_cX17_findLive_49 (Nat.le_of_ble_eq_true rfl) rfl ?_
              refine G_aload_n 2 dr_cX17_findLive_50 rfl ?_
              refine Gw_callV (As := []) (gV_ok D I) (cp_12451_Code_size l hl0 D I P217896 F267261 q217899 q264743 q264744 p264745 p264746 hm264741 he267267) dr_cX17_findLive_51 ⟨wr_10_160, wr_1_15, wr_9_131, by decide, rfl, (Nat.le_of_ble_eq_true rfl), (Nat.le_of_ble_eq_true rfl)⟩ wr_9_129 wr_9_130 hm264741 he267267 rfl (show 0 + 0 ≤ 0 by first | omega | decide) (show 0 + 0 ≤ 0 by first | omega | decide) (Nat.le_of_ble_eq_true rfl) (fun r267275 w267276 dc267272 ds267273 hp267274 => ?_) (fun _ _ _ _ _ z => z.elim)
              obtain ⟨rfl, rfl, hdc, hds⟩ := hp267274
              change G _ _ _ _ _ _ _ (.int p264746 :: _) _ _ _
              refine G_widen (cs' := 0) (sl' := 0) (by omega) (by omega) ?_
              refine G_iconst 1 dr_cX17_findLive_54 (by decide +kernel) ?_
              refine G_isub dr_cX17_findLive_55 (G_nam fun z267277 hz267277 => ?_)
              have ez267277 : z267277.toInt = p264746.toInt - 1 := by rw [gI_sub hz267277 bp264746 (gBl (show Int32.toInt 1 = 1 by decide)) (by decide) (by decide), show Int32.toInt 1 = 1 from by decide]
              have bz267277 : gB z267277 (-1) 999999 := gB_sub (gI_sub hz267277 bp264746 (gBl (show Int32.toInt 1 = 1 by decide)) (by decide) (by decide)) bp264746 (gBl (show Int32.toInt 1 = 1 by decide)) (by decide) (by decide)
              refine G_istore (L' := [(4, .int z267277), (3, .int 0), (0, .ref q217898), (1, .ref q217899), (2, .int p217900)]) dr_cX17_findLive_56 (Nat.le_of_ble_eq_true rfl) rfl ?_
              have hlp58_268520 : ∀ (n58_268520 : Nat) (F268515 : Nat → va_E) (g268513 : Int32) (g268514 : Int32), gB g268513 (-1) 999999 → gB g268514 0 1 → RS D I P217896 F268515 γ el → rStr γ [] F217897 F268515 → rJv γ el F217897 F268515 q217899 (decide (p217900.toInt = 1)) (γ 6 (γ 1 q217899)) → (lvT γ F267261 + (g268514.toInt : Int).toNat ≤ lvT γ F268515) → ((g268513.toInt : Int) < γ 6 (γ 1 q217899)) → ((g268513.toInt : Int) - (-2)).toNat < n58_268520 → G (gV D I) l (gRm 4 85 0 0) (gMA (gV D I) (pt_217902_SpillForgeModel_findLive D I γ el P217896 F217897 q217898 q217899 p217900) gNA 0 0) ky_217902_SpillForgeModel_findLive 58 [(4, .int g268513), (3, .int g268514), (0, .ref q217898), (1, .ref q217899), (2, .int p217900)] [] (va_pl P217896 F268515) 0 0 := by
                intro n58_268520
                induction n58_268520 with
                | zero => intro F268515 g268513 g268514 bg268513 bg268514 hT268516 hs268517 x268518 x268519 x268520 hm58_268520; exact absurd hm58_268520 (Nat.not_lt_zero _)
                | succ n58_268520 ih58_268520 =>
                  intro F268515 g268513 g268514 bg268513 bg268514 hT268516 hs268517 x268518 x268519 x268520 hm58_268520
                  have hs268522 : rStr γ [] F267261 F268515 := fun b h0 hb hw => (hs268517 b h0 hb hw).trans (hs267263 b h0 hb hw).symm
                  have he268523 : F268515 q217899 = .inr (18, [.ref q264743, .ref q264744, .int p264745, .int p264746]) := (hs268522 q217899 (rT0 htq217899 (by decide)) (rT1 htq217899 (by decide)) (rT2 htq217899 (by decide))).trans he267267
                  have hs268524 : rStr γ [] F217897 F268515 := rStr_tr hs267263 hs268522
                  refine G_iload 0 dr_cX17_findLive_58 rfl ?_
                  refine G_if_lt 198 dr_cX17_findLive_60 (by decide +kernel) (fun hc268525 => ?_) (fun hc268525 => ?_)
                  · have r268526 : g268513.toInt < 0 := gj_lt hc268525 (show Int32.toInt 0 = 0 by decide)
                    have bg268513' : gB g268513 (-1) (-1) := ⟨by omega, by omega⟩
                    have lt268527 := lvT_le (γ := γ) (F := F268515)
                    have lt268528 := lvT_le (γ := γ) (F := F267261)
                    refine G_goto 44 dr_cX17_findLive_198 (by decide +kernel) ?_
                    refine G_lv (L' := [(3, .int g268514), (0, .ref q217898), (1, .ref q217899), (2, .int p217900)]) [1, 2, 3, 4] rfl ?_
                    exact ih44_267264 F268515 g268514 bg268514 hT268516 hs268517 x268518 (by omega)
                  · have r268529 : 0 ≤ g268513.toInt := gj_nlt hc268525 (show Int32.toInt 0 = 0 by decide)
                    have bg268513' : gB g268513 0 999999 := ⟨by omega, by omega⟩
                    refine G_aload_n 3 dr_cX17_findLive_63 rfl ?_
                    refine G_iload 0 dr_cX17_findLive_64 rfl ?_
                    have hm268530 : q264743 ∈ P217896 := RS_m hT268516 ht264747 (by decide)
                    obtain ⟨⟨p268532, p268533, q268534, he268531, r268535, r268536, r268537, r268539⟩, r268538⟩ := show rk_4 D I γ el F268515 q264743 from RS_o hT268516 ht264747
                    have bp268532 := gB_any p268532
                    have bp268533 : gB p268533 0 1000000 := ⟨by omega, by omega⟩
                    obtain ⟨r268540, r268541, n268548, f268549, r268542, r268543, r268544, r268545, r268546, r268547⟩ := rLC_n r268537 (by omega)
                    have hm268550 : q268534 ∈ P217896 := RS_m hT268516 r268540 (by decide)
                    obtain ⟨q268551, hx268552⟩ : ∃ x, x = el q264743 g268513.toInt.toNat := ⟨_, rfl⟩
                    have hx268553 : f268549 g268513.toNatClampNeg = some q268551 := (r268546 _ (show g268513.toInt.toNat < γ 2 q264743 by omega)).trans (by rw [hx268552])
                    have ht268556 : rKd γ q268551 2 := by rw [hx268552]; exact (r264758 _ (by omega)).resolve_right (fun z => absurd z.1 (by omega))
                    have ht268557 : rFm γ q268551 q264743 := by rw [hx268552]; exact (r268538 _ (show g268513.toInt.toNat < γ 2 q264743 by omega)).2.1
                    have hm268558 : q268551 ∈ P217896 := RS_m hT268516 ht268556 (by decide)
                    obtain ⟨q268560, q268561, p268562, p268563, he268559, ht268570, ht268564, ht268565, ht268566, ht268567, ht268568, bp268562, bp268563, r268569, r268571, r268572⟩ := show rk_2 γ q268551 (F268515 q268551) from RS_o hT268516 ht268556
                    refine Gw_callV (As := [.int g268513]) (gV_ok D I) (cp_7723_Code_get l hl0 D I P217896 F268515 q217899 q264743 q268534 g268513 q264744 p264745 p264746 p268532 p268533 f268549 n268548 q268551 q268560 q268561 p268562 p268563 hm264741 hm268530 hm268550 hm268558 he268523 he268531 r268542 he268559 (gB_w bg268513' (by decide) (by decide)) (gB_w bp268533 (by decide) (by decide)) (by omega) (by omega) (by assumption) (by omega)) dr_cX17_findLive_66 ⟨wr_10_161, wr_1_15, wr_10_141, by decide, rfl, (Nat.le_of_ble_eq_true rfl), (Nat.le_of_ble_eq_true rfl)⟩ wr_10_139 wr_10_140 hm264741 he268523 rfl (show 0 + 0 ≤ 0 by first | omega | decide) (show 0 + 0 ≤ 0 by first | omega | decide) (Nat.le_of_ble_eq_true rfl) (fun r268576 w268577 dc268573 ds268574 hp268575 => ?_) (fun _ _ _ _ _ z => z.elim)
                    obtain ⟨rfl, rfl, hdc, hds⟩ := hp268575
                    change G _ _ _ _ _ _ _ (.ref q268551 :: _) _ _ _
                    refine G_widen (cs' := 0) (sl' := 0) (by omega) (by omega) ?_
                    refine G_astore (L' := [(5, .ref q268551), (4, .int g268513), (3, .int g268514), (0, .ref q217898), (1, .ref q217899), (2, .int p217900)]) dr_cX17_findLive_69 (Nat.le_of_ble_eq_true rfl) rfl ?_
                    refine G_aload_n 3 dr_cX17_findLive_71 rfl ?_
                    refine G_aload 0 dr_cX17_findLive_72 rfl ?_
                    have fl268578 : F268515 q268551 = F217897 q268551 := hs268517 q268551 (rT0 ht268556 (by decide)) (rT1 ht268556 (by decide)) (rT2 ht268556 (by decide))
                    have fl268579 : F268515 q268561 = F217897 q268561 := hs268517 q268561 (rT0 ht268566 (by decide)) (rT1 ht268566 (by decide)) (rT2 ht268566 (by decide))
                    have fl268580 : (fI (F217897 q268551) 2).toInt = p268562.toInt := by rw [← fl268578, he268559]; rfl
                    have fl268581 : (fI (F217897 q268551) 3).toInt = p268563.toInt := by rw [← fl268578, he268559]; rfl
                    have fl268582 : γ 2 (γ 14 q268551) = γ 2 q268560 := by rw [ht268570.1]
                    have fl268583 : q268551 = el (γ 14 q217899) (g268513.toInt : Int).toNat := by rw [hx268552, ht264762.1]
                    have hm268589 : q217898 ∈ P217896 := RS_m hT268516 htq217898 (by decide)
                    obtain ⟨q268591, q268592, p268593, p268594, p268595, p268596, p268597, p268598, p268599, p268600, p268601, p268602, p268603, p268604, p268605, p268606, p268607, he268590, hB268634, ht268608, ht268609, ht268610, ht268611, ht268612, ht268613, ht268614, ht268615, ht268616, ht268617, ht268618, ht268619, ht268620, ht268621, ht268622, ht268623, ht268624, ht268625, ht268626, ht268627, ht268628, ht268629, ht268630, ht268631, hB268635⟩ := show rk_10 γ (F268515 q217898) from RS_o hT268516 htq217898
                    refine Gw_callV (As := [.ref q268551]) (gV_ok D I) (ct_214926_SpillForgeModel_behind l hl0 D I γ el P217896 F268515 q217898 q268551 hT268516 htq217898 ht268556) dr_cX17_findLive_74 ⟨wr_10_162, wr_1_14, wr_10_165, by decide, rfl, (Nat.le_of_ble_eq_true rfl), (Nat.le_of_ble_eq_true rfl)⟩ wr_10_164 wr_p_95 hm268589 he268590 rfl (show 0 + 0 ≤ 0 by first | omega | decide) (show 0 + 0 ≤ 0 by first | omega | decide) (Nat.le_of_ble_eq_true rfl) (fun r268587 w268588 dc268584 ds268585 hp268586 => ?_) (fun _ _ _ _ _ z => z.elim)
                    obtain ⟨F268638, rfl, rfl, hT268639, hs268640, hdc, hds, x268636, x268637⟩ := hp268586
                    have he268641 : F268638 q217899 = .inr (18, [.ref q264743, .ref q264744, .int p264745, .int p264746]) := (hs268640 q217899 (rT0 htq217899 (by decide)) (rT1 htq217899 (by decide)) (rT2 htq217899 (by decide))).trans he268523
                    have he268642 : F268638 q264743 = .inr (4, [.int p268532, .ref q268534, .int p268533]) := (hs268640 q264743 (rT0 ht264747 (by decide)) (rT1 ht264747 (by decide)) (rT2 ht264747 (by decide))).trans he268531
                    have he268643 : F268638 q268534 = .inl (I (.object "java/lang/Object"), n268548, .inr (.inr (.inr (.inr f268549)))) := (hs268640 q268534 (rT0 r268540 (by decide)) (rT1 r268540 (by decide)) (rT2 r268540 (by decide))).trans r268542
                    have he268644 : F268638 q268551 = .inr (17, [.ref q268560, .ref q268561, .int p268562, .int p268563]) := (hs268640 q268551 (rT0 ht268556 (by decide)) (rT1 ht268556 (by decide)) (rT2 ht268556 (by decide))).trans he268559
                    have hs268645 : rStr γ [] F217897 F268638 := rStr_tr hs268517 hs268640
                    change G _ _ _ _ _ _ _ _ _ _ _
                    refine G_widen (cs' := 0) (sl' := 0) (by omega) (by omega) ?_
                    refine G_aload_n 3 dr_cX17_findLive_77 rfl ?_
                    refine G_aload 0 dr_cX17_findLive_78 rfl ?_
                    refine Gp_get 1 hm268558 he268644 dr_cX17_findLive_80 (gk_X12 D I) (Nat.le_of_ble_eq_true rfl) wr_9_223 rfl ?_
                    refine G_iload_n 5 dr_cX17_findLive_83 rfl ?_
                    have fl268646 : F268638 q268561 = F217897 (γ 15 q268551) := by rw [ht268570.2.1]; exact hs268645 q268561 (rT0 ht268566 (by decide)) (rT1 ht268566 (by decide)) (rT2 ht268566 (by decide))
                    have hm268652 : q217898 ∈ P217896 := RS_m hT268639 htq217898 (by decide)
                    obtain ⟨q268654, q268655, p268656, p268657, p268658, p268659, p268660, p268661, p268662, p268663, p268664, p268665, p268666, p268667, p268668, p268669, p268670, he268653, hB268697, ht268671, ht268672, ht268673, ht268674, ht268675, ht268676, ht268677, ht268678, ht268679, ht268680, ht268681, ht268682, ht268683, ht268684, ht268685, ht268686, ht268687, ht268688, ht268689, ht268690, ht268691, ht268692, ht268693, ht268694, hB268698⟩ := show rk_10 γ (F268638 q217898) from RS_o hT268639 htq217898
                    refine Gw_callV (As := [.ref q268561, .int p217900]) (gV_ok D I) (ct_214613_SpillForgeModel_back l hl0 D I γ el P217896 F268638 q217898 q268561 p217900 hT268639 htq217898 ht268566 bp217900) dr_cX17_findLive_84 ⟨wr_10_174, wr_1_14, wr_10_177, by decide, rfl, (Nat.le_of_ble_eq_true rfl), (Nat.le_of_ble_eq_true rfl)⟩ wr_10_176 wr_p_96 hm268652 he268653 rfl (show 0 + 0 ≤ 0 by first | omega | decide) (show 0 + 0 ≤ 0 by first | omega | decide) (Nat.le_of_ble_eq_true rfl) (fun r268650 w268651 dc268647 ds268648 hp268649 => ?_) (fun _ _ _ _ _ z => z.elim)
                    obtain ⟨F268701, rfl, rfl, hT268702, hs268703, hdc, hds, x268699, x268700⟩ := hp268649
                    have he268704 : F268701 q217899 = .inr (18, [.ref q264743, .ref q264744, .int p264745, .int p264746]) := (hs268703 q217899 (rT0 htq217899 (by decide)) (rT1 htq217899 (by decide)) (rT2 htq217899 (by decide))).trans he268641
                    have he268705 : F268701 q264743 = .inr (4, [.int p268532, .ref q268534, .int p268533]) := (hs268703 q264743 (rT0 ht264747 (by decide)) (rT1 ht264747 (by decide)) (rT2 ht264747 (by decide))).trans he268642
                    have he268706 : F268701 q268534 = .inl (I (.object "java/lang/Object"), n268548, .inr (.inr (.inr (.inr f268549)))) := (hs268703 q268534 (rT0 r268540 (by decide)) (rT1 r268540 (by decide)) (rT2 r268540 (by decide))).trans he268643
                    have he268707 : F268701 q268551 = .inr (17, [.ref q268560, .ref q268561, .int p268562, .int p268563]) := (hs268703 q268551 (rT0 ht268556 (by decide)) (rT1 ht268556 (by decide)) (rT2 ht268556 (by decide))).trans he268644
                    have hs268708 : rStr γ [] F217897 F268701 := rStr_tr hs268645 hs268703
                    change G _ _ _ _ _ _ _ _ _ _ _
                    refine G_widen (cs' := 0) (sl' := 0) (by omega) (by omega) ?_
                    refine G_aload 0 dr_cX17_findLive_87 rfl ?_
                    refine Gp_get 0 hm268558 he268707 dr_cX17_findLive_89 (gk_X12 D I) (Nat.le_of_ble_eq_true rfl) wr_9_220 rfl ?_
                    have hm268709 : q268560 ∈ P217896 := RS_m hT268702 ht268564 (by decide)
                    obtain ⟨⟨p268711, p268712, q268713, he268710, r268714, r268715, r268716, r268718⟩, r268717⟩ := show rk_3 D I γ el F268701 q268560 from RS_o hT268702 ht268564
                    have bp268711 := gB_any p268711
                    have bp268712 : gB p268712 0 1000000 := ⟨by omega, by omega⟩
                    refine Gw_callV (As := []) (gV_ok D I) (cp_7_ArrayList_size l hl0 D I P217896 F268701 q268560 p268711 q268713 p268712 hm268709 he268710 (gB_w bp268712 (by decide) (by decide))) dr_cX17_findLive_92 ⟨wr_10_200, wr_1_18, wr_9_160, by decide, rfl, (Nat.le_of_ble_eq_true rfl), (Nat.le_of_ble_eq_true rfl)⟩ wr_9_158 wr_9_159 hm268709 he268710 rfl (show 0 + 0 ≤ 0 by first | omega | decide) (show 0 + 0 ≤ 0 by first | omega | decide) (Nat.le_of_ble_eq_true rfl) (fun r268722 w268723 dc268719 ds268720 hp268721 => ?_) (fun _ _ _ _ _ z => z.elim)
                    obtain ⟨rfl, rfl, hdc, hds⟩ := hp268721
                    change G _ _ _ _ _ _ _ (.int p268712 :: _) _ _ _
                    refine G_widen (cs' := 0) (sl' := 0) (by omega) (by omega) ?_
                    refine G_iconst 1 dr_cX17_findLive_95 (by decide +kernel) ?_
                    refine G_isub dr_cX17_findLive_96 (G_nam fun z268724 hz268724 => ?_)
                    have ez268724 : z268724.toInt = p268712.toInt - 1 := by rw [gI_sub hz268724 bp268712 (gBl (show Int32.toInt 1 = 1 by decide)) (by decide) (by decide), show Int32.toInt 1 = 1 from by decide]
                    have bz268724 : gB z268724 (-1) 999999 := gB_sub (gI_sub hz268724 bp268712 (gBl (show Int32.toInt 1 = 1 by decide)) (by decide) (by decide)) bp268712 (gBl (show Int32.toInt 1 = 1 by decide)) (by decide) (by decide)
                    refine G_istore (L' := [(6, .int z268724), (5, .ref q268551), (4, .int g268513), (3, .int g268514), (0, .ref q217898), (1, .ref q217899), (2, .int p217900)]) dr_cX17_findLive_97 (Nat.le_of_ble_eq_true rfl) rfl ?_
                    have hlp99_269243 : ∀ (n99_269243 : Nat) (F269237 : Nat → va_E) (g269236 : Int32), gB g269236 (-1) 999999 → RS D I P217896 F269237 γ el → rStr γ [] F217897 F269237 → rLv γ F268515 F269237 → (∀ k : Nat, k < 2048 → rbt (cL (F269237 (γ 9 2))) k = trS γ el F217897 (decide (p217900.toInt = 1)) q268551 (lvM γ F268515) ((((γ 2 (γ 14 q268551) : Nat) : Int) - 1 - g269236.toInt).toNat) k) → ((g269236.toInt : Int) < γ 2 (γ 14 q268551)) → (q268551 = el (γ 14 q217899) (g268513.toInt : Int).toNat) → ((g269236.toInt : Int) - (-2)).toNat < n99_269243 → G (gV D I) l (gRm 4 85 0 0) (gMA (gV D I) (pt_217902_SpillForgeModel_findLive D I γ el P217896 F217897 q217898 q217899 p217900) gNA 0 0) ky_217902_SpillForgeModel_findLive 99 [(6, .int g269236), (5, .ref q268551), (4, .int g268513), (3, .int g268514), (0, .ref q217898), (1, .ref q217899), (2, .int p217900)] [] (va_pl P217896 F269237) 0 0 := by
                      intro n99_269243
                      induction n99_269243 with
                      | zero => intro F269237 g269236 bg269236 hT269238 hs269239 x269240 x269241 x269242 x269243 hm99_269243; exact absurd hm99_269243 (Nat.not_lt_zero _)
                      | succ n99_269243 ih99_269243 =>
                        intro F269237 g269236 bg269236 hT269238 hs269239 x269240 x269241 x269242 x269243 hm99_269243
                        have hs269245 : rStr γ [] F268701 F269237 := fun b h0 hb hw => (hs269239 b h0 hb hw).trans (hs268708 b h0 hb hw).symm
                        have he269246 : F269237 q217899 = .inr (18, [.ref q264743, .ref q264744, .int p264745, .int p264746]) := (hs269245 q217899 (rT0 htq217899 (by decide)) (rT1 htq217899 (by decide)) (rT2 htq217899 (by decide))).trans he268704
                        have he269247 : F269237 q264743 = .inr (4, [.int p268532, .ref q268534, .int p268533]) := (hs269245 q264743 (rT0 ht264747 (by decide)) (rT1 ht264747 (by decide)) (rT2 ht264747 (by decide))).trans he268705
                        have he269248 : F269237 q268534 = .inl (I (.object "java/lang/Object"), n268548, .inr (.inr (.inr (.inr f268549)))) := (hs269245 q268534 (rT0 r268540 (by decide)) (rT1 r268540 (by decide)) (rT2 r268540 (by decide))).trans he268706
                        have he269249 : F269237 q268551 = .inr (17, [.ref q268560, .ref q268561, .int p268562, .int p268563]) := (hs269245 q268551 (rT0 ht268556 (by decide)) (rT1 ht268556 (by decide)) (rT2 ht268556 (by decide))).trans he268707
                        have he269250 : F269237 q268560 = .inr (4, [.int p268711, .ref q268713, .int p268712]) := (hs269245 q268560 (rT0 ht268564 (by decide)) (rT1 ht268564 (by decide)) (rT2 ht268564 (by decide))).trans he268710
                        have hs269251 : rStr γ [] F217897 F269237 := rStr_tr hs268708 hs269245
                        refine G_iload 0 dr_cX17_findLive_99 rfl ?_
                        refine G_if_lt 128 dr_cX17_findLive_101 (by decide +kernel) (fun hc269252 => ?_) (fun hc269252 => ?_)
                        · have r269253 : g269236.toInt < 0 := gj_lt hc269252 (show Int32.toInt 0 = 0 by decide)
                          have bg269236' : gB g269236 (-1) (-1) := ⟨by omega, by omega⟩
                          refine G_iconst 0 dr_cX17_findLive_128 (by decide +kernel) ?_
                          refine G_istore (L' := [(6, .int 0), (5, .ref q268551), (4, .int g268513), (3, .int g268514), (0, .ref q217898), (1, .ref q217899), (2, .int p217900)]) dr_cX17_findLive_129 (Nat.le_of_ble_eq_true rfl) rfl ?_
                          have hlp131_269453 : ∀ (n131_269453 : Nat) (F269446 : Nat → va_E) (g269444 : Int32) (g269445 : Int32), gB g269444 0 32 → gB g269445 0 1 → RS D I P217896 F269446 γ el → rStr γ [] F217897 F269446 → (∀ i : Nat, i < 40 → (i : Int) ≠ g268513.toInt → F269446 (γ 10 i) = F268515 (γ 10 i)) → (∀ k : Nat, k < 2048 → rbt (cL (F269446 (γ 9 2))) k = trS γ el F217897 (decide (p217900.toInt = 1)) q268551 (lvM γ F268515) (γ 2 (γ 14 q268551)) k) → (∀ k : Nat, k < 2048 → lvS γ F269446 (g268513.toInt : Int).toNat k = if (k : Int) < 64 * g269444.toInt then trS γ el F217897 (decide (p217900.toInt = 1)) q268551 (lvM γ F268515) (γ 2 (γ 14 q268551)) k else lvS γ F268515 (g268513.toInt : Int).toNat k) → (lvT γ F267261 + (g269445.toInt : Int).toNat ≤ lvT γ F269446) → (q268551 = el (γ 14 q217899) (g268513.toInt : Int).toNat) → ((33 : Int) - g269444.toInt).toNat < n131_269453 → G (gV D I) l (gRm 4 85 0 0) (gMA (gV D I) (pt_217902_SpillForgeModel_findLive D I γ el P217896 F217897 q217898 q217899 p217900) gNA 0 0) ky_217902_SpillForgeModel_findLive 131 [(6, .int g269444), (5, .ref q268551), (4, .int g268513), (3, .int g269445), (0, .ref q217898), (1, .ref q217899), (2, .int p217900)] [] (va_pl P217896 F269446) 0 0 := by
                            intro n131_269453
                            induction n131_269453 with
                            | zero => intro F269446 g269444 g269445 bg269444 bg269445 hT269447 hs269448 x269449 x269450 x269451 x269452 x269453 hm131_269453; exact absurd hm131_269453 (Nat.not_lt_zero _)
                            | succ n131_269453 ih131_269453 =>
                              intro F269446 g269444 g269445 bg269444 bg269445 hT269447 hs269448 x269449 x269450 x269451 x269452 x269453 hm131_269453
                              have hs269455 : rStr γ [] F269237 F269446 := fun b h0 hb hw => (hs269448 b h0 hb hw).trans (hs269239 b h0 hb hw).symm
                              have he269456 : F269446 q217899 = .inr (18, [.ref q264743, .ref q264744, .int p264745, .int p264746]) := (hs269455 q217899 (rT0 htq217899 (by decide)) (rT1 htq217899 (by decide)) (rT2 htq217899 (by decide))).trans he269246
                              have he269457 : F269446 q264743 = .inr (4, [.int p268532, .ref q268534, .int p268533]) := (hs269455 q264743 (rT0 ht264747 (by decide)) (rT1 ht264747 (by decide)) (rT2 ht264747 (by decide))).trans he269247
                              have he269458 : F269446 q268534 = .inl (I (.object "java/lang/Object"), n268548, .inr (.inr (.inr (.inr f268549)))) := (hs269455 q268534 (rT0 r268540 (by decide)) (rT1 r268540 (by decide)) (rT2 r268540 (by decide))).trans he269248
                              have he269459 : F269446 q268551 = .inr (17, [.ref q268560, .ref q268561, .int p268562, .int p268563]) := (hs269455 q268551 (rT0 ht268556 (by decide)) (rT1 ht268556 (by decide)) (rT2 ht268556 (by decide))).trans he269249
                              have hs269460 : rStr γ [] F217897 F269446 := rStr_tr hs269239 hs269455
                              refine G_iload 0 dr_cX17_findLive_131 rfl ?_
                              refine G_bipush 32 dr_cX17_findLive_133 (by decide +kernel) ?_
                              refine G_icmp_ge 192 dr_cX17_findLive_135 (by decide +kernel) (fun hc269461 => ?_) (fun hc269461 => ?_)
                              · have r269462 : 32 ≤ g269444.toInt := gj_leL hc269461 (show Int32.toInt 32 = 32 by decide)
                                have bg269444' : gB g269444 32 32 := ⟨by omega, by omega⟩
                                obtain ⟨z269463, hz269463⟩ : ∃ z : Int32, z = g268513 + Int32.ofInt (-1) := ⟨_, rfl⟩
                                have ez269463 : z269463.toInt = g268513.toInt + (-1) := gI_inc hz269463 (by decide) bg268513' (by decide) (by decide)
                                have bz269463 : gB z269463 (-1) 999998 := ⟨by omega, by omega⟩
                                refine G_iinc (L' := [(4, .int z269463), (6, .int g269444), (5, .ref q268551), (3, .int g269445), (0, .ref q217898), (1, .ref q217899), (2, .int p217900)]) z269463 2 dr_cX17_findLive_192 rfl hz269463.symm (Nat.le_of_ble_eq_true rfl) rfl ?_
                                refine G_goto 58 dr_cX17_findLive_195 (by decide +kernel) ?_
                                refine G_lv (L' := [(4, .int z269463), (3, .int g269445), (0, .ref q217898), (1, .ref q217899), (2, .int p217900)]) [0, 3, 4, 5, 6] rfl ?_
                                exact ih58_268520 F269446 z269463 g269445 (gB_w bz269463 (by decide) (by decide)) bg269445 hT269447 hs269448 (rJv_s x268518 (i0 := g268513.toInt.toNat) (by omega) (by omega) (fun i hi hne => x269449 i hi (by omega)) (fun k hk => by have q := x269451 k hk; rw [if_pos (by omega)] at q; rw [q, ← x269453])) (by have q := x269452; omega) (by omega) (by omega)
                              · have r269464 : g269444.toInt < 32 := gj_nleL hc269461 (show Int32.toInt 32 = 32 by decide)
                                have bg269444' : gB g269444 0 31 := ⟨by omega, by omega⟩
                                refine G_iload_n 3 dr_cX17_findLive_138 rfl ?_
                                refine G_if_ne 163 dr_cX17_findLive_139 (by decide +kernel) (fun hc269465 => ?_) (fun hc269465 => ?_)
                                · have r269466 : g269445.toInt ≠ 0 := gj_neq hc269465 (show Int32.toInt 0 = 0 by decide)
                                  have bg269445' : gB g269445 1 1 := ⟨by omega, by omega⟩
                                  refine G_iconst 1 dr_cX17_findLive_163 (by decide +kernel) ?_
                                  refine G_goto 168 dr_cX17_findLive_164 (by decide +kernel) ?_
                                  refine G_istore_n (L' := [(3, .int 1), (6, .int g269444), (5, .ref q268551), (4, .int g268513), (0, .ref q217898), (1, .ref q217899), (2, .int p217900)]) dr_cX17_findLive_168 (Nat.le_of_ble_eq_true rfl) rfl ?_
                                  refine G_aload_n 4 dr_cX17_findLive_169 rfl ?_
                                  have hm269467 : q217898 ∈ P217896 := RS_m hT269447 htq217898 (by decide)
                                  obtain ⟨q269469, q269470, p269471, p269472, p269473, p269474, p269475, p269476, p269477, p269478, p269479, p269480, p269481, p269482, p269483, p269484, p269485, he269468, hB269512, ht269486, ht269487, ht269488, ht269489, ht269490, ht269491, ht269492, ht269493, ht269494, ht269495, ht269496, ht269497, ht269498, ht269499, ht269500, ht269501, ht269502, ht269503, ht269504, ht269505, ht269506, ht269507, ht269508, ht269509, hB269513⟩ := show rk_10 γ (F269446 q217898) from RS_o hT269447 htq217898
                                  refine Gp_get 0 hm269467 he269468 dr_cX17_findLive_170 (gk_X17 D I) (Nat.le_of_ble_eq_true rfl) wr_7_74 rfl ?_
                                  refine G_iload 3 dr_cX17_findLive_173 rfl ?_
                                  have hm269514 : (γ 9 0) ∈ P217896 := RS_m hT269447 ht269488 (by decide)
                                  obtain ⟨f269516, he269515, hg269517⟩ := show rk_12 I γ (F269446 (γ 9 0)) from RS_o hT269447 ht269488
                                  obtain ⟨q269518, hx269520⟩ : ∃ x, x = γ 10 g268513.toInt.toNat := ⟨_, rfl⟩
                                  have ht269519 : rKd γ q269518 11 := by rw [hx269520]; exact (hg269517 _ (show g268513.toInt.toNat < 40 by omega)).2.1
                                  refine Gp_aald 5 hm269514 he269515 dr_cX17_findLive_175 rfl rfl (gB_inr (by omega) (by omega)) ?_
                                  rw [show f269516 g268513.toNatClampNeg = some q269518 from (hg269517 _ (show g268513.toInt.toNat < 40 by omega)).1.trans (by rw [hx269520])]
                                  change G _ _ _ _ _ _ _ (.ref q269518 :: _) _ _ _
                                  refine G_iload 1 dr_cX17_findLive_176 rfl ?_
                                  refine G_aload_n 4 dr_cX17_findLive_178 rfl ?_
                                  refine Gp_get 2 hm269467 he269468 dr_cX17_findLive_179 (gk_X17 D I) (Nat.le_of_ble_eq_true rfl) wr_7_76 rfl ?_
                                  refine G_iload 1 dr_cX17_findLive_182 rfl ?_
                                  have hm269521 : (γ 9 2) ∈ P217896 := RS_m hT269447 ht269490 (by decide)
                                  obtain ⟨f269523, he269522, wf269523⟩ := show rk_35 I (F269446 (γ 9 2)) from RS_o hT269447 ht269490
                                  refine Gp_lald 2 hm269521 he269522 dr_cX17_findLive_184 rfl (gB_in bg269444' (by decide) (by decide)) (G_namL fun u269524 hu269524 => ?_)
                                  have qu269524 : lb_Q u269524 (2000 - 64 * g269444.toInt) := lb_Wld hu269524 wf269523 (by omega) (by omega) (lb_Mod0 (by omega) (by omega))
                                  have hm269525 : q269518 ∈ P217896 := RS_m hT269447 ht269519 (by decide)
                                  obtain ⟨f269527, he269526, wf269527⟩ := show rk_11 I (F269446 q269518) from RS_o hT269447 ht269519
                                  refine Gp_last 2 hm269525 he269526 dr_cX17_findLive_185 rfl (gB_in bg269444' (by decide) (by decide)) (fun F269528 e269529 n269530 => ?_)
                                  obtain ⟨f269531, hf269531⟩ : ∃ z, z = vp_updL f269527 g269444.toNatClampNeg u269524 := ⟨_, rfl⟩
                                  rw [← hf269531] at e269529
                                  have he269532 : F269528 q217899 = .inr (18, [.ref q264743, .ref q264744, .int p264745, .int p264746]) := (n269530 q217899 (rn_oa he269456 he269526)).trans he269456
                                  have he269533 : F269528 q264743 = .inr (4, [.int p268532, .ref q268534, .int p268533]) := (n269530 q264743 (rn_oa he269457 he269526)).trans he269457
                                  have he269534 : F269528 q268534 = .inl (I (.object "java/lang/Object"), n268548, .inr (.inr (.inr (.inr f268549)))) := (n269530 q268534 (rn_ref_long he269458 he269526)).trans he269458
                                  have he269535 : F269528 q268551 = .inr (17, [.ref q268560, .ref q268561, .int p268562, .int p268563]) := (n269530 q268551 (rn_oa he269459 he269526)).trans he269459
                                  have he269536 : F269528 q217898 = .inr (22, [.ref (γ 9 0), .ref (γ 9 1), .ref (γ 9 2), .ref (γ 9 3), .ref (γ 9 4), .ref (γ 9 5), .ref (γ 9 6), .ref (γ 9 7), .ref (γ 9 8), .int p269471, .int p269472, .int p269473, .int p269474, .int p269475, .int p269476, .ref (γ 9 15), .ref (γ 9 16), .ref (γ 9 17), .ref (γ 9 18), .ref (γ 9 19), .ref (γ 9 20), .ref (γ 9 21), .ref (γ 9 22), .int p269477, .int p269478, .int p269479, .int p269480, .int p269481, .ref q269469, .ref (γ 9 29), .int p269482, .ref (γ 9 31), .int p269483, .int p269484, .int p269485, .ref q269470]) := (n269530 q217898 (rn_oa he269468 he269526)).trans he269468
                                  have he269537 : F269528 (γ 9 0) = .inl (I (.array .long), 40, .inr (.inr (.inr (.inr f269516)))) := (n269530 (γ 9 0) (rn_ref_long he269515 he269526)).trans he269515
                                  have he269538 : F269528 (γ 9 2) = .inl (I .long, 32, .inr (.inl f269523)) := (n269530 (γ 9 2) (rn_ty ht269490 ht269519 (by decide))).trans he269522
                                  have he269539 : F269528 q269518 = .inl (I .long, 32, .inr (.inl f269531)) := e269529
                                  have hs269540 : rStr γ [] F217897 F269528 := rStr_put hs269448 n269530 ht269519 (by decide)
                                  have wf269531 : lb_W f269531 (32) (32) (2000) := lb_Wst hf269531 wf269527 (by omega) (lb_Mod0 (by omega) (by omega)) qu269524
                                  obtain ⟨z269541, hz269541⟩ : ∃ z : Int32, z = g269444 + Int32.ofInt 1 := ⟨_, rfl⟩
                                  have ez269541 : z269541.toInt = g269444.toInt + 1 := gI_inc hz269541 (by decide) bg269444' (by decide) (by decide)
                                  have bz269541 : gB z269541 1 32 := ⟨by omega, by omega⟩
                                  refine G_iinc (L' := [(6, .int z269541), (3, .int 1), (5, .ref q268551), (4, .int g268513), (0, .ref q217898), (1, .ref q217899), (2, .int p217900)]) z269541 1 dr_cX17_findLive_186 rfl hz269541.symm (Nat.le_of_ble_eq_true rfl) rfl ?_
                                  refine G_goto 131 dr_cX17_findLive_189 (by decide +kernel) ?_
                                  have hT269542 : RS D I P217896 F269528 γ el := RS_set hT269447 n269530 ht269519 (by decide) ⟨f269531, he269539, wf269531⟩
                                  refine G_lv (L' := [(6, .int z269541), (5, .ref q268551), (4, .int g268513), (3, .int 1), (0, .ref q217898), (1, .ref q217899), (2, .int p217900)]) [0, 2, 3, 1, 4, 5, 6] rfl ?_
                                  exact ih131_269453 F269528 z269541 1 (gB_w bz269541 (by decide) (by decide)) (gB_w (gBl (show Int32.toInt 1 = 1 by decide)) (by decide) (by decide)) hT269542 hs269540 (fun i hi hne => (n269530 _ (by rw [hx269520]; exact RS_lne hT269542 ht269488 hi (by omega) (by omega))).trans (x269449 i hi hne)) (fun k hk => by rw [n269530 (γ 9 2) (rn_ty ht269490 ht269519 (by decide))]; exact x269450 k hk) (fun k hk => by unfold lvS; rw [← hx269520, cL_of he269539]; exact cp_st hu269524 hf269531 bg269444'.1 ez269541 (fun k hk => by have q := x269451 k hk; unfold lvS at q; rw [← hx269520, cL_of he269526] at q; exact q) (fun k hk => by have q := x269450 k hk; rw [cL_of he269522] at q; exact q) k hk) (by have gz : (g269444.toNatClampNeg : Int) = g269444.toInt := g_nn bg269444'.1; have hU := lvT_u (γ := γ) (F := F269446) (i := g268513.toInt.toNat) (z := g269444.toNatClampNeg) (by omega) (cl32 bg269444'.1 (by omega)) (fun i hi hne => n269530 _ (by rw [hx269520]; exact RS_lne hT269542 ht269488 hi (by omega) hne)) (by rw [← hx269520]; exact cL_of he269526) (by rw [← hx269520]; exact cL_of he269539) hf269531; have hS := rpop_sub (lv_w (f := f269527) (g := f269523) (A := trS γ el F217897 (decide (p217900.toInt = 1)) q268551 (lvM γ F268515) (γ 2 (γ 14 q268551))) (z := g269444.toNatClampNeg) (cl32 bg269444'.1 (by omega)) (fun k' h1 h2 h3 => by have q := x269451 k' h1; unfold lvS at q; rw [← hx269520, cL_of he269526, if_neg (by omega)] at q; rw [q] at h3; rw [x269453]; exact x268518 _ (by omega) k' ((lvM_e (by omega) h1).trans (by unfold lvS; rw [← hx269520]; exact h3))) (fun k hk => by have q := x269450 k hk; rw [cL_of he269522] at q; exact q)); rw [← hu269524] at hS; have q := x269452; have qb0 : Int32.toInt 0 = 0 := (by decide); have qb1 : Int32.toInt 1 = 1 := (by decide); omega) x269453 (by have qa0 : Int32.toInt 1 = 1 := (by decide); omega)
                                · have r269543 : g269445.toInt = 0 := gj_eq hc269465 (show Int32.toInt 0 = 0 by decide)
                                  have bg269445' : gB g269445 0 0 := ⟨by omega, by omega⟩
                                  refine G_aload_n 4 dr_cX17_findLive_142 rfl ?_
                                  have hm269544 : q217898 ∈ P217896 := RS_m hT269447 htq217898 (by decide)
                                  obtain ⟨q269546, q269547, p269548, p269549, p269550, p269551, p269552, p269553, p269554, p269555, p269556, p269557, p269558, p269559, p269560, p269561, p269562, he269545, hB269589, ht269563, ht269564, ht269565, ht269566, ht269567, ht269568, ht269569, ht269570, ht269571, ht269572, ht269573, ht269574, ht269575, ht269576, ht269577, ht269578, ht269579, ht269580, ht269581, ht269582, ht269583, ht269584, ht269585, ht269586, hB269590⟩ := show rk_10 γ (F269446 q217898) from RS_o hT269447 htq217898
                                  refine Gp_get 0 hm269544 he269545 dr_cX17_findLive_143 (gk_X17 D I) (Nat.le_of_ble_eq_true rfl) wr_7_74 rfl ?_
                                  refine G_iload 2 dr_cX17_findLive_146 rfl ?_
                                  have hm269591 : (γ 9 0) ∈ P217896 := RS_m hT269447 ht269565 (by decide)
                                  obtain ⟨f269593, he269592, hg269594⟩ := show rk_12 I γ (F269446 (γ 9 0)) from RS_o hT269447 ht269565
                                  obtain ⟨q269595, hx269597⟩ : ∃ x, x = γ 10 g268513.toInt.toNat := ⟨_, rfl⟩
                                  have ht269596 : rKd γ q269595 11 := by rw [hx269597]; exact (hg269594 _ (show g268513.toInt.toNat < 40 by omega)).2.1
                                  refine Gp_aald 5 hm269591 he269592 dr_cX17_findLive_148 rfl rfl (gB_inr (by omega) (by omega)) ?_
                                  rw [show f269593 g268513.toNatClampNeg = some q269595 from (hg269594 _ (show g268513.toInt.toNat < 40 by omega)).1.trans (by rw [hx269597])]
                                  change G _ _ _ _ _ _ _ (.ref q269595 :: _) _ _ _
                                  refine G_iload 0 dr_cX17_findLive_149 rfl ?_
                                  have hm269598 : q269595 ∈ P217896 := RS_m hT269447 ht269596 (by decide)
                                  obtain ⟨f269600, he269599, wf269600⟩ := show rk_11 I (F269446 q269595) from RS_o hT269447 ht269596
                                  refine Gp_lald 2 hm269598 he269599 dr_cX17_findLive_151 rfl (gB_in bg269444' (by decide) (by decide)) (G_namL fun u269601 hu269601 => ?_)
                                  have qu269601 : lb_Q u269601 (2000 - 64 * g269444.toInt) := lb_Wld hu269601 wf269600 (by omega) (by omega) (lb_Mod0 (by omega) (by omega))
                                  refine G_aload_n 4 dr_cX17_findLive_152 rfl ?_
                                  refine Gp_get 2 hm269544 he269545 dr_cX17_findLive_153 (gk_X17 D I) (Nat.le_of_ble_eq_true rfl) wr_7_76 rfl ?_
                                  refine G_iload 0 dr_cX17_findLive_156 rfl ?_
                                  have hm269602 : (γ 9 2) ∈ P217896 := RS_m hT269447 ht269567 (by decide)
                                  obtain ⟨f269604, he269603, wf269604⟩ := show rk_35 I (F269446 (γ 9 2)) from RS_o hT269447 ht269567
                                  refine Gp_lald 2 hm269602 he269603 dr_cX17_findLive_158 rfl (gB_in bg269444' (by decide) (by decide)) (G_namL fun u269605 hu269605 => ?_)
                                  have qu269605 : lb_Q u269605 (2000 - 64 * g269444.toInt) := lb_Wld hu269605 wf269604 (by omega) (by omega) (lb_Mod0 (by omega) (by omega))
                                  refine G_lcmp dr_cX17_findLive_159 (G_nam fun z269606 hz269606 => ?_)
                                  have bz269606 : gB z269606 (-1) 1 := gB_cmp hz269606
                                  refine G_if_eq 167 dr_cX17_findLive_160 (by decide +kernel) (fun hc269607 => ?_) (fun hc269607 => ?_)
                                  · have r269608 : z269606.toInt = 0 := gj_eq hc269607 (show Int32.toInt 0 = 0 by decide)
                                    have bz269606' : gB z269606 0 0 := ⟨by omega, by omega⟩
                                    have lhc269607 := gC_cmpE hz269606 hc269607
                                    refine G_iconst 0 dr_cX17_findLive_167 (by decide +kernel) ?_
                                    refine G_istore_n (L' := [(3, .int 0), (6, .int g269444), (5, .ref q268551), (4, .int g268513), (0, .ref q217898), (1, .ref q217899), (2, .int p217900)]) dr_cX17_findLive_168 (Nat.le_of_ble_eq_true rfl) rfl ?_
                                    refine G_aload_n 4 dr_cX17_findLive_169 rfl ?_
                                    refine Gp_get 0 hm269544 he269545 dr_cX17_findLive_170 (gk_X17 D I) (Nat.le_of_ble_eq_true rfl) wr_7_74 rfl ?_
                                    refine G_iload 3 dr_cX17_findLive_173 rfl ?_
                                    refine Gp_aald 5 hm269591 he269592 dr_cX17_findLive_175 rfl rfl (gB_inr (by omega) (by omega)) ?_
                                    rw [show f269593 g268513.toNatClampNeg = some q269595 from (hg269594 _ (show g268513.toInt.toNat < 40 by omega)).1.trans (by rw [hx269597])]
                                    change G _ _ _ _ _ _ _ (.ref q269595 :: _) _ _ _
                                    refine G_iload 1 dr_cX17_findLive_176 rfl ?_
                                    refine G_aload_n 4 dr_cX17_findLive_178 rfl ?_
                                    refine Gp_get 2 hm269544 he269545 dr_cX17_findLive_179 (gk_X17 D I) (Nat.le_of_ble_eq_true rfl) wr_7_76 rfl ?_
                                    refine G_iload 1 dr_cX17_findLive_182 rfl ?_
                                    refine Gp_lald 2 hm269602 he269603 dr_cX17_findLive_184 rfl (gB_in bg269444' (by decide) (by decide)) (G_eql (y := u269605) hu269605.symm ?_)
                                    refine Gp_last 2 hm269598 he269599 dr_cX17_findLive_185 rfl (gB_in bg269444' (by decide) (by decide)) (fun F269609 e269610 n269611 => ?_)
                                    obtain ⟨f269612, hf269612⟩ : ∃ z, z = vp_updL f269600 g269444.toNatClampNeg u269605 := ⟨_, rfl⟩
                                    rw [← hf269612] at e269610
                                    have he269613 : F269609 q217899 = .inr (18, [.ref q264743, .ref q264744, .int p264745, .int p264746]) := (n269611 q217899 (rn_oa he269456 he269599)).trans he269456
                                    have he269614 : F269609 q264743 = .inr (4, [.int p268532, .ref q268534, .int p268533]) := (n269611 q264743 (rn_oa he269457 he269599)).trans he269457
                                    have he269615 : F269609 q268534 = .inl (I (.object "java/lang/Object"), n268548, .inr (.inr (.inr (.inr f268549)))) := (n269611 q268534 (rn_ref_long he269458 he269599)).trans he269458
                                    have he269616 : F269609 q268551 = .inr (17, [.ref q268560, .ref q268561, .int p268562, .int p268563]) := (n269611 q268551 (rn_oa he269459 he269599)).trans he269459
                                    have he269617 : F269609 q217898 = .inr (22, [.ref (γ 9 0), .ref (γ 9 1), .ref (γ 9 2), .ref (γ 9 3), .ref (γ 9 4), .ref (γ 9 5), .ref (γ 9 6), .ref (γ 9 7), .ref (γ 9 8), .int p269548, .int p269549, .int p269550, .int p269551, .int p269552, .int p269553, .ref (γ 9 15), .ref (γ 9 16), .ref (γ 9 17), .ref (γ 9 18), .ref (γ 9 19), .ref (γ 9 20), .ref (γ 9 21), .ref (γ 9 22), .int p269554, .int p269555, .int p269556, .int p269557, .int p269558, .ref q269546, .ref (γ 9 29), .int p269559, .ref (γ 9 31), .int p269560, .int p269561, .int p269562, .ref q269547]) := (n269611 q217898 (rn_oa he269545 he269599)).trans he269545
                                    have he269618 : F269609 (γ 9 0) = .inl (I (.array .long), 40, .inr (.inr (.inr (.inr f269593)))) := (n269611 (γ 9 0) (rn_ref_long he269592 he269599)).trans he269592
                                    have he269619 : F269609 (γ 9 2) = .inl (I .long, 32, .inr (.inl f269604)) := (n269611 (γ 9 2) (rn_ty ht269567 ht269596 (by decide))).trans he269603
                                    have he269620 : F269609 q269595 = .inl (I .long, 32, .inr (.inl f269612)) := e269610
                                    have hs269621 : rStr γ [] F217897 F269609 := rStr_put hs269448 n269611 ht269596 (by decide)
                                    have wf269612 : lb_W f269612 (32) (32) (2000) := lb_Wst hf269612 wf269600 (by omega) (lb_Mod0 (by omega) (by omega)) qu269605
                                    obtain ⟨z269622, hz269622⟩ : ∃ z : Int32, z = g269444 + Int32.ofInt 1 := ⟨_, rfl⟩
                                    have ez269622 : z269622.toInt = g269444.toInt + 1 := gI_inc hz269622 (by decide) bg269444' (by decide) (by decide)
                                    have bz269622 : gB z269622 1 32 := ⟨by omega, by omega⟩
                                    refine G_iinc (L' := [(6, .int z269622), (3, .int 0), (5, .ref q268551), (4, .int g268513), (0, .ref q217898), (1, .ref q217899), (2, .int p217900)]) z269622 1 dr_cX17_findLive_186 rfl hz269622.symm (Nat.le_of_ble_eq_true rfl) rfl ?_
                                    refine G_goto 131 dr_cX17_findLive_189 (by decide +kernel) ?_
                                    have hT269623 : RS D I P217896 F269609 γ el := RS_set hT269447 n269611 ht269596 (by decide) ⟨f269612, he269620, wf269612⟩
                                    refine G_lv (L' := [(6, .int z269622), (5, .ref q268551), (4, .int g268513), (3, .int 0), (0, .ref q217898), (1, .ref q217899), (2, .int p217900)]) [0, 2, 3, 1, 4, 5, 6] rfl ?_
                                    exact ih131_269453 F269609 z269622 0 (gB_w bz269622 (by decide) (by decide)) (gB_w (gBl (show Int32.toInt 0 = 0 by decide)) (by decide) (by decide)) hT269623 hs269621 (fun i hi hne => (n269611 _ (by rw [hx269597]; exact RS_lne hT269623 ht269565 hi (by omega) (by omega))).trans (x269449 i hi hne)) (fun k hk => by rw [n269611 (γ 9 2) (rn_ty ht269567 ht269596 (by decide))]; exact x269450 k hk) (fun k hk => by unfold lvS; rw [← hx269597, cL_of he269620]; exact cp_st hu269605 hf269612 bg269444'.1 ez269622 (fun k hk => by have q := x269451 k hk; unfold lvS at q; rw [← hx269597, cL_of he269599] at q; exact q) (fun k hk => by have q := x269450 k hk; rw [cL_of he269603] at q; exact q) k hk) (by have gz : (g269444.toNatClampNeg : Int) = g269444.toInt := g_nn bg269444'.1; have hU := lvT_u (γ := γ) (F := F269446) (i := g268513.toInt.toNat) (z := g269444.toNatClampNeg) (by omega) (cl32 bg269444'.1 (by omega)) (fun i hi hne => n269611 _ (by rw [hx269597]; exact RS_lne hT269623 ht269565 hi (by omega) hne)) (by rw [← hx269597]; exact cL_of he269599) (by rw [← hx269597]; exact cL_of he269620) hf269612; have hS := rpop_sub (lv_w (f := f269600) (g := f269604) (A := trS γ el F217897 (decide (p217900.toInt = 1)) q268551 (lvM γ F268515) (γ 2 (γ 14 q268551))) (z := g269444.toNatClampNeg) (cl32 bg269444'.1 (by omega)) (fun k' h1 h2 h3 => by have q := x269451 k' h1; unfold lvS at q; rw [← hx269597, cL_of he269599, if_neg (by omega)] at q; rw [q] at h3; rw [x269453]; exact x268518 _ (by omega) k' ((lvM_e (by omega) h1).trans (by unfold lvS; rw [← hx269597]; exact h3))) (fun k hk => by have q := x269450 k hk; rw [cL_of he269603] at q; exact q)); rw [← hu269605] at hS; have q := x269452; have qb0 : Int32.toInt 0 = 0 := (by decide); have qb1 : Int32.toInt 1 = 1 := (by decide); omega) x269453 (by have qa0 : Int32.toInt 0 = 0 := (by decide); omega)
                                  · have r269624 : z269606.toInt ≠ 0 := gj_neq hc269607 (show Int32.toInt 0 = 0 by decide)
                                    have lhc269607 := gC_cmpN hz269606 hc269607
                                    refine G_iconst 1 dr_cX17_findLive_163 (by decide +kernel) ?_
                                    refine G_goto 168 dr_cX17_findLive_164 (by decide +kernel) ?_
                                    refine G_istore_n (L' := [(3, .int 1), (6, .int g269444), (5, .ref q268551), (4, .int g268513), (0, .ref q217898), (1, .ref q217899), (2, .int p217900)]) dr_cX17_findLive_168 (Nat.le_of_ble_eq_true rfl) rfl ?_
                                    refine G_aload_n 4 dr_cX17_findLive_169 rfl ?_
                                    refine Gp_get 0 hm269544 he269545 dr_cX17_findLive_170 (gk_X17 D I) (Nat.le_of_ble_eq_true rfl) wr_7_74 rfl ?_
                                    refine G_iload 3 dr_cX17_findLive_173 rfl ?_
                                    refine Gp_aald 5 hm269591 he269592 dr_cX17_findLive_175 rfl rfl (gB_inr (by omega) (by omega)) ?_
                                    rw [show f269593 g268513.toNatClampNeg = some q269595 from (hg269594 _ (show g268513.toInt.toNat < 40 by omega)).1.trans (by rw [hx269597])]
                                    change G _ _ _ _ _ _ _ (.ref q269595 :: _) _ _ _
                                    refine G_iload 1 dr_cX17_findLive_176 rfl ?_
                                    refine G_aload_n 4 dr_cX17_findLive_178 rfl ?_
                                    refine Gp_get 2 hm269544 he269545 dr_cX17_findLive_179 (gk_X17 D I) (Nat.le_of_ble_eq_true rfl) wr_7_76 rfl ?_
                                    refine G_iload 1 dr_cX17_findLive_182 rfl ?_
                                    refine Gp_lald 2 hm269602 he269603 dr_cX17_findLive_184 rfl (gB_in bg269444' (by decide) (by decide)) (G_eql (y := u269605) hu269605.symm ?_)
                                    refine Gp_last 2 hm269598 he269599 dr_cX17_findLive_185 rfl (gB_in bg269444' (by decide) (by decide)) (fun F269625 e269626 n269627 => ?_)
                                    obtain ⟨f269628, hf269628⟩ : ∃ z, z = vp_updL f269600 g269444.toNatClampNeg u269605 := ⟨_, rfl⟩
                                    rw [← hf269628] at e269626
                                    have he269629 : F269625 q217899 = .inr (18, [.ref q264743, .ref q264744, .int p264745, .int p264746]) := (n269627 q217899 (rn_oa he269456 he269599)).trans he269456
                                    have he269630 : F269625 q264743 = .inr (4, [.int p268532, .ref q268534, .int p268533]) := (n269627 q264743 (rn_oa he269457 he269599)).trans he269457
                                    have he269631 : F269625 q268534 = .inl (I (.object "java/lang/Object"), n268548, .inr (.inr (.inr (.inr f268549)))) := (n269627 q268534 (rn_ref_long he269458 he269599)).trans he269458
                                    have he269632 : F269625 q268551 = .inr (17, [.ref q268560, .ref q268561, .int p268562, .int p268563]) := (n269627 q268551 (rn_oa he269459 he269599)).trans he269459
                                    have he269633 : F269625 q217898 = .inr (22, [.ref (γ 9 0), .ref (γ 9 1), .ref (γ 9 2), .ref (γ 9 3), .ref (γ 9 4), .ref (γ 9 5), .ref (γ 9 6), .ref (γ 9 7), .ref (γ 9 8), .int p269548, .int p269549, .int p269550, .int p269551, .int p269552, .int p269553, .ref (γ 9 15), .ref (γ 9 16), .ref (γ 9 17), .ref (γ 9 18), .ref (γ 9 19), .ref (γ 9 20), .ref (γ 9 21), .ref (γ 9 22), .int p269554, .int p269555, .int p269556, .int p269557, .int p269558, .ref q269546, .ref (γ 9 29), .int p269559, .ref (γ 9 31), .int p269560, .int p269561, .int p269562, .ref q269547]) := (n269627 q217898 (rn_oa he269545 he269599)).trans he269545
                                    have he269634 : F269625 (γ 9 0) = .inl (I (.array .long), 40, .inr (.inr (.inr (.inr f269593)))) := (n269627 (γ 9 0) (rn_ref_long he269592 he269599)).trans he269592
                                    have he269635 : F269625 (γ 9 2) = .inl (I .long, 32, .inr (.inl f269604)) := (n269627 (γ 9 2) (rn_ty ht269567 ht269596 (by decide))).trans he269603
                                    have he269636 : F269625 q269595 = .inl (I .long, 32, .inr (.inl f269628)) := e269626
                                    have hs269637 : rStr γ [] F217897 F269625 := rStr_put hs269448 n269627 ht269596 (by decide)
                                    have wf269628 : lb_W f269628 (32) (32) (2000) := lb_Wst hf269628 wf269600 (by omega) (lb_Mod0 (by omega) (by omega)) qu269605
                                    obtain ⟨z269638, hz269638⟩ : ∃ z : Int32, z = g269444 + Int32.ofInt 1 := ⟨_, rfl⟩
                                    have ez269638 : z269638.toInt = g269444.toInt + 1 := gI_inc hz269638 (by decide) bg269444' (by decide) (by decide)
                                    have bz269638 : gB z269638 1 32 := ⟨by omega, by omega⟩
                                    refine G_iinc (L' := [(6, .int z269638), (3, .int 1), (5, .ref q268551), (4, .int g268513), (0, .ref q217898), (1, .ref q217899), (2, .int p217900)]) z269638 1 dr_cX17_findLive_186 rfl hz269638.symm (Nat.le_of_ble_eq_true rfl) rfl ?_
                                    refine G_goto 131 dr_cX17_findLive_189 (by decide +kernel) ?_
                                    have hT269639 : RS D I P217896 F269625 γ el := RS_set hT269447 n269627 ht269596 (by decide) ⟨f269628, he269636, wf269628⟩
                                    refine G_lv (L' := [(6, .int z269638), (5, .ref q268551), (4, .int g268513), (3, .int 1), (0, .ref q217898), (1, .ref q217899), (2, .int p217900)]) [0, 2, 3, 1, 4, 5, 6] rfl ?_
                                    exact ih131_269453 F269625 z269638 1 (gB_w bz269638 (by decide) (by decide)) (gB_w (gBl (show Int32.toInt 1 = 1 by decide)) (by decide) (by decide)) hT269639 hs269637 (fun i hi hne => (n269627 _ (by rw [hx269597]; exact RS_lne hT269639 ht269565 hi (by omega) (by omega))).trans (x269449 i hi hne)) (fun k hk => by rw [n269627 (γ 9 2) (rn_ty ht269567 ht269596 (by decide))]; exact x269450 k hk) (fun k hk => by unfold lvS; rw [← hx269597, cL_of he269636]; exact cp_st hu269605 hf269628 bg269444'.1 ez269638 (fun k hk => by have q := x269451 k hk; unfold lvS at q; rw [← hx269597, cL_of he269599] at q; exact q) (fun k hk => by have q := x269450 k hk; rw [cL_of he269603] at q; exact q) k hk) (by have gz : (g269444.toNatClampNeg : Int) = g269444.toInt := g_nn bg269444'.1; have hU := lvT_u (γ := γ) (F := F269446) (i := g268513.toInt.toNat) (z := g269444.toNatClampNeg) (by omega) (cl32 bg269444'.1 (by omega)) (fun i hi hne => n269627 _ (by rw [hx269597]; exact RS_lne hT269639 ht269565 hi (by omega) hne)) (by rw [← hx269597]; exact cL_of he269599) (by rw [← hx269597]; exact cL_of he269636) hf269628; have hS := rpop_slt (lv_w (f := f269600) (g := f269604) (A := trS γ el F217897 (decide (p217900.toInt = 1)) q268551 (lvM γ F268515) (γ 2 (γ 14 q268551))) (z := g269444.toNatClampNeg) (cl32 bg269444'.1 (by omega)) (fun k' h1 h2 h3 => by have q := x269451 k' h1; unfold lvS at q; rw [← hx269597, cL_of he269599, if_neg (by omega)] at q; rw [q] at h3; rw [x269453]; exact x268518 _ (by omega) k' ((lvM_e (by omega) h1).trans (by unfold lvS; rw [← hx269597]; exact h3))) (fun k hk => by have q := x269450 k hk; rw [cL_of he269603] at q; exact q)) (fun e => lc_ne hz269606 (by omega) (hu269601.trans (e.trans hu269605.symm))); rw [← hu269605] at hS; have q := x269452; have qb0 : Int32.toInt 0 = 0 := (by decide); have qb1 : Int32.toInt 1 = 1 := (by decide); omega) x269453 (by have qa0 : Int32.toInt 1 = 1 := (by decide); omega)
                          exact hlp131_269453 (((33 : Int) - 0).toNat + 1) F269237 0 g268514 (gB_w (gBl (show Int32.toInt 0 = 0 by decide)) (by decide) (by decide)) bg268514 hT269238 hs269239 (fun i hi _ => x269240 i hi) (fun k hk => by have q := x269241 k hk; rw [show ((((γ 2 (γ 14 q268551) : Nat) : Int) - 1 - g269236.toInt).toNat) = γ 2 (γ 14 q268551) by omega] at q; exact q) (fun k hk => by rw [if_neg (by have qa : Int32.toInt 0 = 0 := (by decide); omega)]; exact lvS_l x269240 (by omega)) (by have q := lvT_l x269240; have q2 := x268519; omega) x269243 (Nat.lt_succ_self _)
                        · have r269640 : 0 ≤ g269236.toInt := gj_nlt hc269252 (show Int32.toInt 0 = 0 by decide)
                          have bg269236' : gB g269236 0 999999 := ⟨by omega, by omega⟩
                          refine G_aload_n 4 dr_cX17_findLive_104 rfl ?_
                          refine G_aload 1 dr_cX17_findLive_105 rfl ?_
                          refine Gp_get 0 hm268558 he269249 dr_cX17_findLive_107 (gk_X12 D I) (Nat.le_of_ble_eq_true rfl) wr_9_220 rfl ?_
                          refine G_iload 0 dr_cX17_findLive_110 rfl ?_
                          have hm269641 : q268560 ∈ P217896 := RS_m hT269238 ht268564 (by decide)
                          obtain ⟨⟨p269643, p269644, q269645, he269642, r269646, r269647, r269648, r269650⟩, r269649⟩ := show rk_3 D I γ el F269237 q268560 from RS_o hT269238 ht268564
                          have bp269643 := gB_any p269643
                          have bp269644 : gB p269644 0 1000000 := ⟨by omega, by omega⟩
                          obtain ⟨r269651, r269652, n269659, f269660, r269653, r269654, r269655, r269656, r269657, r269658⟩ := rLC_n r269648 (by omega)
                          have hm269661 : q269645 ∈ P217896 := RS_m hT269238 r269651 (by decide)
                          obtain ⟨q269662, hx269663⟩ : ∃ x, x = el q268560 g269236.toInt.toNat := ⟨_, rfl⟩
                          have hx269664 : f269660 g269236.toNatClampNeg = some q269662 := (r269657 _ (show g269236.toInt.toNat < γ 2 q268560 by omega)).trans (by rw [hx269663])
                          have ht269665 : rKd γ q269662 1 := by rw [hx269663]; exact (r269649 _ (show g269236.toInt.toNat < γ 2 q268560 by omega)).1
                          have ht269666 : rFm γ q269662 q268560 := by rw [hx269663]; exact (r269649 _ (show g269236.toInt.toNat < γ 2 q268560 by omega)).2.1
                          refine Gw_callV (As := [.int g269236]) (gV_ok D I) (cp_22_ArrayList_get l hl0 D I P217896 F269237 q268560 q269645 g269236 p269643 p269644 f269660 n269659 q269662 hm269641 hm269661 he269642 r269653 (gB_w bg269236' (by decide) (by decide)) (gB_w bp269644 (by decide) (by decide)) (by omega) (by omega) (by assumption) (by omega)) dr_cX17_findLive_112 ⟨wr_10_201, wr_1_18, wr_10_65, by decide, rfl, (Nat.le_of_ble_eq_true rfl), (Nat.le_of_ble_eq_true rfl)⟩ wr_10_63 wr_10_64 hm269641 he269642 rfl (show 0 + 0 ≤ 0 by first | omega | decide) (show 0 + 0 ≤ 0 by first | omega | decide) (Nat.le_of_ble_eq_true rfl) (fun r269670 w269671 dc269667 ds269668 hp269669 => ?_) (fun _ _ _ _ _ z => z.elim)
                          obtain ⟨rfl, rfl, hdc, hds⟩ := hp269669
                          change G _ _ _ _ _ _ _ (.ref q269662 :: _) _ _ _
                          refine G_widen (cs' := 0) (sl' := 0) (by omega) (by omega) ?_
                          have hm269672 : q269662 ∈ P217896 := RS_m hT269238 ht269665 (by decide)
                          obtain ⟨p269674, p269675, p269676, p269677, p269678, p269679, p269680, he269673, bp269674, bp269675, bp269678, bp269679, bp269680, r269681, r269682, r269683, r269684⟩ := show rk_1 γ q269662 (F269237 q269662) from RS_o hT269238 ht269665
                          have bp269676 := gB_any p269676
                          have bp269677 := gB_any p269677
                          refine Gp_cast hm269672 he269673 rfl dr_cX17_findLive_115 wr_10_202 (gr_cast 1 rfl) ?_
                          refine G_iload_n 6 dr_cX17_findLive_118 rfl ?_
                          have fl269685 : F269237 q269662 = F217897 (el (γ 14 q268551) (γ 2 (γ 14 q268551) - 1 - ((((γ 2 (γ 14 q268551) : Nat) : Int) - 1 - g269236.toInt).toNat))) := by rw [show γ 2 (γ 14 q268551) - 1 - ((((γ 2 (γ 14 q268551) : Nat) : Int) - 1 - g269236.toInt).toNat) = g269236.toInt.toNat by omega, ht268570.1, ← hx269663]; exact hs269239 q269662 (rT0 ht269665 (by decide)) (rT1 ht269665 (by decide)) (rT2 ht269665 (by decide))
                          have hm269691 : q217898 ∈ P217896 := RS_m hT269238 htq217898 (by decide)
                          obtain ⟨q269693, q269694, p269695, p269696, p269697, p269698, p269699, p269700, p269701, p269702, p269703, p269704, p269705, p269706, p269707, p269708, p269709, he269692, hB269736, ht269710, ht269711, ht269712, ht269713, ht269714, ht269715, ht269716, ht269717, ht269718, ht269719, ht269720, ht269721, ht269722, ht269723, ht269724, ht269725, ht269726, ht269727, ht269728, ht269729, ht269730, ht269731, ht269732, ht269733, hB269737⟩ := show rk_10 γ (F269237 q217898) from RS_o hT269238 htq217898
                          refine Gw_callV (As := [.ref q269662, .int p217900]) (gV_ok D I) (ct_214613_SpillForgeModel_back l hl0 D I γ el P217896 F269237 q217898 q269662 p217900 hT269238 htq217898 ht269665 bp217900) dr_cX17_findLive_119 ⟨wr_10_174, wr_1_14, wr_10_177, by decide, rfl, (Nat.le_of_ble_eq_true rfl), (Nat.le_of_ble_eq_true rfl)⟩ wr_10_176 wr_p_96 hm269691 he269692 rfl (show 0 + 0 ≤ 0 by first | omega | decide) (show 0 + 0 ≤ 0 by first | omega | decide) (Nat.le_of_ble_eq_true rfl) (fun r269689 w269690 dc269686 ds269687 hp269688 => ?_) (fun _ _ _ _ _ z => z.elim)
                          obtain ⟨F269740, rfl, rfl, hT269741, hs269742, hdc, hds, x269738, x269739⟩ := hp269688
                          have he269743 : F269740 q217899 = .inr (18, [.ref q264743, .ref q264744, .int p264745, .int p264746]) := (hs269742 q217899 (rT0 htq217899 (by decide)) (rT1 htq217899 (by decide)) (rT2 htq217899 (by decide))).trans he269246
                          have he269744 : F269740 q264743 = .inr (4, [.int p268532, .ref q268534, .int p268533]) := (hs269742 q264743 (rT0 ht264747 (by decide)) (rT1 ht264747 (by decide)) (rT2 ht264747 (by decide))).trans he269247
                          have he269745 : F269740 q268534 = .inl (I (.object "java/lang/Object"), n268548, .inr (.inr (.inr (.inr f268549)))) := (hs269742 q268534 (rT0 r268540 (by decide)) (rT1 r268540 (by decide)) (rT2 r268540 (by decide))).trans he269248
                          have he269746 : F269740 q268551 = .inr (17, [.ref q268560, .ref q268561, .int p268562, .int p268563]) := (hs269742 q268551 (rT0 ht268556 (by decide)) (rT1 ht268556 (by decide)) (rT2 ht268556 (by decide))).trans he269249
                          have he269747 : F269740 q268560 = .inr (4, [.int p269643, .ref q269645, .int p269644]) := (hs269742 q268560 (rT0 ht268564 (by decide)) (rT1 ht268564 (by decide)) (rT2 ht268564 (by decide))).trans he269642
                          have he269748 : F269740 q269645 = .inl (I (.object "java/lang/Object"), n269659, .inr (.inr (.inr (.inr f269660)))) := (hs269742 q269645 (rT0 r269651 (by decide)) (rT1 r269651 (by decide)) (rT2 r269651 (by decide))).trans r269653
                          have he269749 : F269740 q269662 = .inr (20, [.int p269674, .int p269675, .int p269676, .int p269677, .int p269678, .int p269679, .int p269680]) := (hs269742 q269662 (rT0 ht269665 (by decide)) (rT1 ht269665 (by decide)) (rT2 ht269665 (by decide))).trans he269673
                          have hs269750 : rStr γ [] F217897 F269740 := rStr_tr hs269239 hs269742
                          change G _ _ _ _ _ _ _ _ _ _ _
                          refine G_widen (cs' := 0) (sl' := 0) (by omega) (by omega) ?_
                          obtain ⟨z269751, hz269751⟩ : ∃ z : Int32, z = g269236 + Int32.ofInt (-1) := ⟨_, rfl⟩
                          have ez269751 : z269751.toInt = g269236.toInt + (-1) := gI_inc hz269751 (by decide) bg269236' (by decide) (by decide)
                          have bz269751 : gB z269751 (-1) 999998 := ⟨by omega, by omega⟩
                          refine G_iinc (L' := [(6, .int z269751), (5, .ref q268551), (4, .int g268513), (3, .int g268514), (0, .ref q217898), (1, .ref q217899), (2, .int p217900)]) z269751 0 dr_cX17_findLive_122 rfl hz269751.symm (Nat.le_of_ble_eq_true rfl) rfl ?_
                          refine G_goto 99 dr_cX17_findLive_125 (by decide +kernel) ?_
                          exact ih99_269243 F269740 z269751 (gB_w bz269751 (by decide) (by decide)) hT269741 hs269750 (rLv_tr x269240 x269739) (by rw [show ((((γ 2 (γ 14 q268551) : Nat) : Int) - 1 - z269751.toInt).toNat) = ((((γ 2 (γ 14 q268551) : Nat) : Int) - 1 - g269236.toInt).toNat) + 1 by omega]; exact tr_b x269241 fl269685 x269738) (by omega) x269243 (by omega)
                    exact hlp99_269243 (((z268724.toInt : Int) - (-2)).toNat + 1) F268701 z268724 bz268724 hT268702 hs268708 (rLv_tr x268637 x268700) (by rw [show ((((γ 2 (γ 14 q268551) : Nat) : Int) - 1 - z268724.toInt).toNat) = 0 by omega]; exact tr_0 (fun k hk => by have q := x268636 k hk; rw [ht268570.2.1, fl268579, fl268578] at q; rw [q, ht268570.2.1]; exact bhV_c ⟨by omega, by omega⟩ ⟨by omega, by omega⟩ (fun i hi => (lvM_e hi hk).symm)) fl268646 x268699) (by omega) fl268583 (Nat.lt_succ_self _)
              exact hlp58_268520 (((z267277.toInt : Int) - (-2)).toNat + 1) F267261 z267277 0 bz267277 (gB_w (gBl (show Int32.toInt 0 = 0 by decide)) (by decide) (by decide)) hT267262 hs267263 x267264 (by have qa : Int32.toInt 0 = 0 := (by decide); rw [qa]; exact Nat.le_refl _) (by have qa0 : Int32.toInt 0 = 0 := (by decide); omega) (Nat.lt_succ_self _)
        exact hlp44_267264 (((81920 - lvT γ F264734) + (1 : Int).toNat) + 1) F264734 1 (gB_w (gBl (show Int32.toInt 1 = 1 by decide)) (by decide) (by decide)) hT264735 hs264736 (rJv_0 (fun i hi j hj => x264737 i (by omega) j hj)) (Nat.lt_succ_self _)
      · have r269752 : g264733.toInt < p264746.toInt := gC_nle hc264768
        have bg264733' : gB g264733 0 999999 := ⟨by omega, by omega⟩
        have bp264746' : gB p264746 1 1000000 := ⟨by omega, by omega⟩
        refine G_iconst 0 dr_cX17_findLive_10 (by decide +kernel) ?_
        refine G_istore (L' := [(4, .int 0), (3, .int g264733), (0, .ref q217898), (1, .ref q217899), (2, .int p217900)]) dr_cX17_findLive_11 (Nat.le_of_ble_eq_true rfl) rfl ?_
        have hlp13_269837 : ∀ (n13_269837 : Nat) (F269833 : Nat → va_E) (g269832 : Int32), gB g269832 0 32 → RS D I P217896 F269833 γ el → rStr γ [] F217897 F269833 → (∀ i : Nat, (i : Int) < g264733.toInt → ∀ j : Nat, j < 32 → cL (F269833 (γ 10 i)) j = 0) → (∀ j : Nat, (j : Int) < g269832.toInt → cL (F269833 (γ 10 (g264733.toInt : Int).toNat)) j = 0) → ((33 : Int) - g269832.toInt).toNat < n13_269837 → G (gV D I) l (gRm 4 85 0 0) (gMA (gV D I) (pt_217902_SpillForgeModel_findLive D I γ el P217896 F217897 q217898 q217899 p217900) gNA 0 0) ky_217902_SpillForgeModel_findLive 13 [(4, .int g269832), (3, .int g264733), (0, .ref q217898), (1, .ref q217899), (2, .int p217900)] [] (va_pl P217896 F269833) 0 0 := by
          intro n13_269837
          induction n13_269837 with
          | zero => intro F269833 g269832 bg269832 hT269834 hs269835 x269836 x269837 hm13_269837; exact absurd hm13_269837 (Nat.not_lt_zero _)
          | succ n13_269837 ih13_269837 =>
            intro F269833 g269832 bg269832 hT269834 hs269835 x269836 x269837 hm13_269837
            have hs269839 : rStr γ [] F264734 F269833 := fun b h0 hb hw => (hs269835 b h0 hb hw).trans (hs264736 b h0 hb hw).symm
            have he269840 : F269833 q217899 = .inr (18, [.ref q264743, .ref q264744, .int p264745, .int p264746]) := (hs269839 q217899 (rT0 htq217899 (by decide)) (rT1 htq217899 (by decide)) (rT2 htq217899 (by decide))).trans he264742
            have hs269841 : rStr γ [] F217897 F269833 := rStr_tr hs264736 hs269839
            refine G_iload 0 dr_cX17_findLive_13 rfl ?_
            refine G_bipush 32 dr_cX17_findLive_15 (by decide +kernel) ?_
            refine G_icmp_ge 36 dr_cX17_findLive_17 (by decide +kernel) (fun hc269842 => ?_) (fun hc269842 => ?_)
            · have r269843 : 32 ≤ g269832.toInt := gj_leL hc269842 (show Int32.toInt 32 = 32 by decide)
              have bg269832' : gB g269832 32 32 := ⟨by omega, by omega⟩
              obtain ⟨z269844, hz269844⟩ : ∃ z : Int32, z = g264733 + Int32.ofInt 1 := ⟨_, rfl⟩
              have ez269844 : z269844.toInt = g264733.toInt + 1 := gI_inc hz269844 (by decide) bg264733' (by decide) (by decide)
              have bz269844 : gB z269844 1 1000000 := ⟨by omega, by omega⟩
              refine G_iinc (L' := [(3, .int z269844), (4, .int g269832), (0, .ref q217898), (1, .ref q217899), (2, .int p217900)]) z269844 1 dr_cX17_findLive_36 rfl hz269844.symm (Nat.le_of_ble_eq_true rfl) rfl ?_
              refine G_goto 2 dr_cX17_findLive_39 (by decide +kernel) ?_
              refine G_lv (L' := [(3, .int z269844), (0, .ref q217898), (1, .ref q217899), (2, .int p217900)]) [0, 2, 3, 4] rfl ?_
              exact ih2_264737 F269833 z269844 (gB_w bz269844 (by decide) (by decide)) hT269834 hs269835 (zl_s x269836 x269837 (by omega) ez269844 bg264733'.1) (by omega)
            · have r269845 : g269832.toInt < 32 := gj_nleL hc269842 (show Int32.toInt 32 = 32 by decide)
              have bg269832' : gB g269832 0 31 := ⟨by omega, by omega⟩
              refine G_aload_n 2 dr_cX17_findLive_20 rfl ?_
              have hm269846 : q217898 ∈ P217896 := RS_m hT269834 htq217898 (by decide)
              obtain ⟨q269848, q269849, p269850, p269851, p269852, p269853, p269854, p269855, p269856, p269857, p269858, p269859, p269860, p269861, p269862, p269863, p269864, he269847, hB269891, ht269865, ht269866, ht269867, ht269868, ht269869, ht269870, ht269871, ht269872, ht269873, ht269874, ht269875, ht269876, ht269877, ht269878, ht269879, ht269880, ht269881, ht269882, ht269883, ht269884, ht269885, ht269886, ht269887, ht269888, hB269892⟩ := show rk_10 γ (F269833 q217898) from RS_o hT269834 htq217898
              refine Gp_get 0 hm269846 he269847 dr_cX17_findLive_21 (gk_X17 D I) (Nat.le_of_ble_eq_true rfl) wr_7_74 rfl ?_
              refine G_iload_n 1 dr_cX17_findLive_24 rfl ?_
              have hm269893 : (γ 9 0) ∈ P217896 := RS_m hT269834 ht269867 (by decide)
              obtain ⟨f269895, he269894, hg269896⟩ := show rk_12 I γ (F269833 (γ 9 0)) from RS_o hT269834 ht269867
              obtain ⟨q269897, hx269899⟩ : ∃ x, x = γ 10 g264733.toInt.toNat := ⟨_, rfl⟩
              have ht269898 : rKd γ q269897 11 := by rw [hx269899]; exact (hg269896 _ (show g264733.toInt.toNat < 40 by omega)).2.1
              refine Gp_aald 5 hm269893 he269894 dr_cX17_findLive_25 rfl rfl (gB_inr (by omega) (by omega)) ?_
              rw [show f269895 g264733.toNatClampNeg = some q269897 from (hg269896 _ (show g264733.toInt.toNat < 40 by omega)).1.trans (by rw [hx269899])]
              change G _ _ _ _ _ _ _ (.ref q269897 :: _) _ _ _
              refine G_iload 0 dr_cX17_findLive_26 rfl ?_
              refine G_lconst 0 dr_cX17_findLive_28 rfl ?_
              have hm269900 : q269897 ∈ P217896 := RS_m hT269834 ht269898 (by decide)
              obtain ⟨f269902, he269901, wf269902⟩ := show rk_11 I (F269833 q269897) from RS_o hT269834 ht269898
              refine Gp_last 2 hm269900 he269901 dr_cX17_findLive_29 rfl (gB_in bg269832' (by decide) (by decide)) (fun F269903 e269904 n269905 => ?_)
              obtain ⟨f269906, hf269906⟩ : ∃ z, z = vp_updL f269902 g269832.toNatClampNeg 0 := ⟨_, rfl⟩
              rw [← hf269906] at e269904
              have he269907 : F269903 q217899 = .inr (18, [.ref q264743, .ref q264744, .int p264745, .int p264746]) := (n269905 q217899 (rn_oa he269840 he269901)).trans he269840
              have he269908 : F269903 q217898 = .inr (22, [.ref (γ 9 0), .ref (γ 9 1), .ref (γ 9 2), .ref (γ 9 3), .ref (γ 9 4), .ref (γ 9 5), .ref (γ 9 6), .ref (γ 9 7), .ref (γ 9 8), .int p269850, .int p269851, .int p269852, .int p269853, .int p269854, .int p269855, .ref (γ 9 15), .ref (γ 9 16), .ref (γ 9 17), .ref (γ 9 18), .ref (γ 9 19), .ref (γ 9 20), .ref (γ 9 21), .ref (γ 9 22), .int p269856, .int p269857, .int p269858, .int p269859, .int p269860, .ref q269848, .ref (γ 9 29), .int p269861, .ref (γ 9 31), .int p269862, .int p269863, .int p269864, .ref q269849]) := (n269905 q217898 (rn_oa he269847 he269901)).trans he269847
              have he269909 : F269903 (γ 9 0) = .inl (I (.array .long), 40, .inr (.inr (.inr (.inr f269895)))) := (n269905 (γ 9 0) (rn_ref_long he269894 he269901)).trans he269894
              have he269910 : F269903 q269897 = .inl (I .long, 32, .inr (.inl f269906)) := e269904
              have hs269911 : rStr γ [] F217897 F269903 := rStr_put hs269835 n269905 ht269898 (by decide)
              have wf269906 : lb_W f269906 (32) (32) (2000) := lb_Wst hf269906 wf269902 (by omega) (lb_Mod0 (by omega) (by omega)) lb_Q0
              obtain ⟨z269912, hz269912⟩ : ∃ z : Int32, z = g269832 + Int32.ofInt 1 := ⟨_, rfl⟩
              have ez269912 : z269912.toInt = g269832.toInt + 1 := gI_inc hz269912 (by decide) bg269832' (by decide) (by decide)
              have bz269912 : gB z269912 1 32 := ⟨by omega, by omega⟩
              refine G_iinc (L' := [(4, .int z269912), (3, .int g264733), (0, .ref q217898), (1, .ref q217899), (2, .int p217900)]) z269912 0 dr_cX17_findLive_30 rfl hz269912.symm (Nat.le_of_ble_eq_true rfl) rfl ?_
              refine G_goto 13 dr_cX17_findLive_33 (by decide +kernel) ?_
              have hT269913 : RS D I P217896 F269903 γ el := RS_set hT269834 n269905 ht269898 (by decide) ⟨f269906, he269910, wf269906⟩
              exact ih13_269837 F269903 z269912 (gB_w bz269912 (by decide) (by decide)) hT269913 hs269911 (zl_r x269836 (fun i hi => n269905 _ (by rw [hx269899]; exact RS_lne hT269913 ht269867 (by omega) (by omega) (by omega)))) (by rw [← hx269899, cL_of he269910]; exact zr_st hf269906 (by have q := x269837; rw [← hx269899, cL_of he269901] at q; exact q) ez269912 bg269832'.1) (by omega)
        exact hlp13_269837 (((33 : Int) - 0).toNat + 1) F264734 0 (gB_w (gBl (show Int32.toInt 0 = 0 by decide)) (by decide) (by decide)) hT264735 hs264736 x264737 (fun j hj => absurd hj (by have qa : Int32.toInt 0 = 0 := (by decide); omega)) (Nat.lt_succ_self _)
  exact hlp2_264737 (((1000001 : Int) - 0).toNat + 1) F217897 0 (gB_w (gBl (show Int32.toInt 0 = 0 by decide)) (by decide) (by decide)) hT (rStr_rf (γ := γ) (W := []) (F := F217897)) (fun i hi => absurd hi (by have qa : Int32.toInt 0 = 0 := (by decide); omega)) (Nat.lt_succ_self _)
