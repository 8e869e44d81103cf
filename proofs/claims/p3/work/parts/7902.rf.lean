theorem dr_cX17_findLive_0 : decode cX17_findLive 0 = .ok (.iconst 0, 1) := by decide +kernel
theorem dr_cX17_findLive_1 : decode cX17_findLive 1 = .ok (.istore_n 3, 1) := by decide +kernel
theorem dr_cX17_findLive_2 : decode cX17_findLive 2 = .ok (.iload_n 3, 1) := by decide +kernel
theorem dr_cX17_findLive_3 : decode cX17_findLive 3 = .ok (.aload_n 1, 1) := by decide +kernel
theorem dr_cX17_findLive_4 : decode cX17_findLive 4 = .ok (.invokevirtual 96, 3) := by decide +kernel
theorem dr_cX17_findLive_7 : decode cX17_findLive 7 = .ok (.if_icmp .ge 35, 3) := by decide +kernel
theorem dr_cX17_findLive_42 : decode cX17_findLive 42 = .ok (.iconst 1, 1) := by decide +kernel
theorem dr_cX17_findLive_43 : decode cX17_findLive 43 = .ok (.istore_n 3, 1) := by decide +kernel
theorem dr_cX17_findLive_44 : decode cX17_findLive 44 = .ok (.iload_n 3, 1) := by decide +kernel
theorem dr_cX17_findLive_45 : decode cX17_findLive 45 = .ok (.ifCond .eq 156, 3) := by decide +kernel
theorem dr_cX17_findLive_201 : decode cX17_findLive 201 = .ok (.return_, 1) := by decide +kernel
theorem dr_cX17_findLive_48 : decode cX17_findLive 48 = .ok (.iconst 0, 1) := by decide +kernel
theorem dr_cX17_findLive_49 : decode cX17_findLive 49 = .ok (.istore_n 3, 1) := by decide +kernel
theorem dr_cX17_findLive_50 : decode cX17_findLive 50 = .ok (.aload_n 1, 1) := by decide +kernel
theorem dr_cX17_findLive_51 : decode cX17_findLive 51 = .ok (.invokevirtual 96, 3) := by decide +kernel
theorem dr_cX17_findLive_54 : decode cX17_findLive 54 = .ok (.iconst 1, 1) := by decide +kernel
theorem dr_cX17_findLive_55 : decode cX17_findLive 55 = .ok (.isub, 1) := by decide +kernel
theorem dr_cX17_findLive_56 : decode cX17_findLive 56 = .ok (.istore 4, 2) := by decide +kernel
theorem dr_cX17_findLive_58 : decode cX17_findLive 58 = .ok (.iload 4, 2) := by decide +kernel
theorem dr_cX17_findLive_60 : decode cX17_findLive 60 = .ok (.ifCond .lt 138, 3) := by decide +kernel
theorem dr_cX17_findLive_198 : decode cX17_findLive 198 = .ok (.goto (-154), 3) := by decide +kernel
theorem dr_cX17_findLive_63 : decode cX17_findLive 63 = .ok (.aload_n 1, 1) := by decide +kernel
theorem dr_cX17_findLive_64 : decode cX17_findLive 64 = .ok (.iload 4, 2) := by decide +kernel
theorem dr_cX17_findLive_66 : decode cX17_findLive 66 = .ok (.invokevirtual 101, 3) := by decide +kernel
theorem dr_cX17_findLive_69 : decode cX17_findLive 69 = .ok (.astore 5, 2) := by decide +kernel
theorem dr_cX17_findLive_71 : decode cX17_findLive 71 = .ok (.aload_n 0, 1) := by decide +kernel
theorem dr_cX17_findLive_72 : decode cX17_findLive 72 = .ok (.aload 5, 2) := by decide +kernel
theorem dr_cX17_findLive_74 : decode cX17_findLive 74 = .ok (.invokevirtual 105, 3) := by decide +kernel
theorem wr_10_162 : (Jvm.Cond.methodLink "SpillForgeModel" (105 : Nat) ({ cls := "SpillForgeModel", name := "behind", desc := "(LSpillForgeModel$Block;)V" } : Jvm.MethodName)) ∈ gw := gw_10 162 rfl rfl
theorem wr_10_165 : (Jvm.Cond.code ({ cls := "SpillForgeModel", name := "behind", desc := "(LSpillForgeModel$Block;)V" } : Jvm.MethodName) prog_14_method_8_code (4 : Nat) (Option.none : Option Jvm.ClassFile.FieldType)) ∈ gw := gw_10 165 rfl rfl
theorem wr_10_164 : (Jvm.Cond.instanceMethod ({ cls := "SpillForgeModel", name := "behind", desc := "(LSpillForgeModel$Block;)V" } : Jvm.MethodName)) ∈ gw := gw_10 164 rfl rfl
theorem wr_p_95 : Cond.selects "SpillForgeModel" ⟨"SpillForgeModel", "behind", "(LSpillForgeModel$Block;)V"⟩ ⟨"SpillForgeModel", "behind", "(LSpillForgeModel$Block;)V"⟩ ∈ gw := gw_p _ 95 rfl rfl rfl
theorem dr_cX17_findLive_77 : decode cX17_findLive 77 = .ok (.aload_n 0, 1) := by decide +kernel
theorem dr_cX17_findLive_78 : decode cX17_findLive 78 = .ok (.aload 5, 2) := by decide +kernel
theorem dr_cX17_findLive_80 : decode cX17_findLive 80 = .ok (.getfield 109, 3) := by decide +kernel
theorem dr_cX17_findLive_83 : decode cX17_findLive 83 = .ok (.iload_n 2, 1) := by decide +kernel
theorem dr_cX17_findLive_84 : decode cX17_findLive 84 = .ok (.invokevirtual 113, 3) := by decide +kernel
theorem wr_10_174 : (Jvm.Cond.methodLink "SpillForgeModel" (113 : Nat) ({ cls := "SpillForgeModel", name := "back", desc := "(LSpillForgeModel$Row;Z)V" } : Jvm.MethodName)) ∈ gw := gw_10 174 rfl rfl
theorem wr_10_177 : (Jvm.Cond.code ({ cls := "SpillForgeModel", name := "back", desc := "(LSpillForgeModel$Row;Z)V" } : Jvm.MethodName) prog_14_method_7_code (4 : Nat) (Option.none : Option Jvm.ClassFile.FieldType)) ∈ gw := gw_10 177 rfl rfl
theorem wr_10_176 : (Jvm.Cond.instanceMethod ({ cls := "SpillForgeModel", name := "back", desc := "(LSpillForgeModel$Row;Z)V" } : Jvm.MethodName)) ∈ gw := gw_10 176 rfl rfl
theorem wr_p_96 : Cond.selects "SpillForgeModel" ⟨"SpillForgeModel", "back", "(LSpillForgeModel$Row;Z)V"⟩ ⟨"SpillForgeModel", "back", "(LSpillForgeModel$Row;Z)V"⟩ ∈ gw := gw_p _ 96 rfl rfl rfl
theorem dr_cX17_findLive_87 : decode cX17_findLive 87 = .ok (.aload 5, 2) := by decide +kernel
theorem dr_cX17_findLive_89 : decode cX17_findLive 89 = .ok (.getfield 117, 3) := by decide +kernel
theorem dr_cX17_findLive_92 : decode cX17_findLive 92 = .ok (.invokevirtual 121, 3) := by decide +kernel
theorem dr_cX17_findLive_95 : decode cX17_findLive 95 = .ok (.iconst 1, 1) := by decide +kernel
theorem dr_cX17_findLive_96 : decode cX17_findLive 96 = .ok (.isub, 1) := by decide +kernel
theorem dr_cX17_findLive_97 : decode cX17_findLive 97 = .ok (.istore 6, 2) := by decide +kernel
theorem dr_cX17_findLive_99 : decode cX17_findLive 99 = .ok (.iload 6, 2) := by decide +kernel
theorem dr_cX17_findLive_101 : decode cX17_findLive 101 = .ok (.ifCond .lt 27, 3) := by decide +kernel
theorem dr_cX17_findLive_128 : decode cX17_findLive 128 = .ok (.iconst 0, 1) := by decide +kernel
theorem dr_cX17_findLive_129 : decode cX17_findLive 129 = .ok (.istore 6, 2) := by decide +kernel
theorem dr_cX17_findLive_131 : decode cX17_findLive 131 = .ok (.iload 6, 2) := by decide +kernel
theorem dr_cX17_findLive_133 : decode cX17_findLive 133 = .ok (.bipush 32, 2) := by decide +kernel
theorem dr_cX17_findLive_135 : decode cX17_findLive 135 = .ok (.if_icmp .ge 57, 3) := by decide +kernel
theorem dr_cX17_findLive_192 : decode cX17_findLive 192 = .ok (.iinc 4 (-1), 3) := by decide +kernel
theorem dr_cX17_findLive_195 : decode cX17_findLive 195 = .ok (.goto (-137), 3) := by decide +kernel
theorem dr_cX17_findLive_138 : decode cX17_findLive 138 = .ok (.iload_n 3, 1) := by decide +kernel
theorem dr_cX17_findLive_139 : decode cX17_findLive 139 = .ok (.ifCond .ne 24, 3) := by decide +kernel
theorem dr_cX17_findLive_163 : decode cX17_findLive 163 = .ok (.iconst 1, 1) := by decide +kernel
theorem dr_cX17_findLive_164 : decode cX17_findLive 164 = .ok (.goto 4, 3) := by decide +kernel
theorem dr_cX17_findLive_168 : decode cX17_findLive 168 = .ok (.istore_n 3, 1) := by decide +kernel
theorem dr_cX17_findLive_169 : decode cX17_findLive 169 = .ok (.aload_n 0, 1) := by decide +kernel
theorem dr_cX17_findLive_170 : decode cX17_findLive 170 = .ok (.getfield 88, 3) := by decide +kernel
theorem dr_cX17_findLive_173 : decode cX17_findLive 173 = .ok (.iload 4, 2) := by decide +kernel
theorem dr_cX17_findLive_175 : decode cX17_findLive 175 = .ok (.aaload, 1) := by decide +kernel
theorem dr_cX17_findLive_176 : decode cX17_findLive 176 = .ok (.iload 6, 2) := by decide +kernel
theorem dr_cX17_findLive_178 : decode cX17_findLive 178 = .ok (.aload_n 0, 1) := by decide +kernel
theorem dr_cX17_findLive_179 : decode cX17_findLive 179 = .ok (.getfield 59, 3) := by decide +kernel
theorem dr_cX17_findLive_182 : decode cX17_findLive 182 = .ok (.iload 6, 2) := by decide +kernel
theorem dr_cX17_findLive_184 : decode cX17_findLive 184 = .ok (.laload, 1) := by decide +kernel
theorem dr_cX17_findLive_185 : decode cX17_findLive 185 = .ok (.lastore, 1) := by decide +kernel
theorem dr_cX17_findLive_186 : decode cX17_findLive 186 = .ok (.iinc 6 1, 3) := by decide +kernel
theorem dr_cX17_findLive_189 : decode cX17_findLive 189 = .ok (.goto (-58), 3) := by decide +kernel
theorem dr_cX17_findLive_142 : decode cX17_findLive 142 = .ok (.aload_n 0, 1) := by decide +kernel
theorem dr_cX17_findLive_143 : decode cX17_findLive 143 = .ok (.getfield 88, 3) := by decide +kernel
theorem dr_cX17_findLive_146 : decode cX17_findLive 146 = .ok (.iload 4, 2) := by decide +kernel
theorem dr_cX17_findLive_148 : decode cX17_findLive 148 = .ok (.aaload, 1) := by decide +kernel
theorem dr_cX17_findLive_149 : decode cX17_findLive 149 = .ok (.iload 6, 2) := by decide +kernel
theorem dr_cX17_findLive_151 : decode cX17_findLive 151 = .ok (.laload, 1) := by decide +kernel
theorem dr_cX17_findLive_152 : decode cX17_findLive 152 = .ok (.aload_n 0, 1) := by decide +kernel
theorem dr_cX17_findLive_153 : decode cX17_findLive 153 = .ok (.getfield 59, 3) := by decide +kernel
theorem dr_cX17_findLive_156 : decode cX17_findLive 156 = .ok (.iload 6, 2) := by decide +kernel
theorem dr_cX17_findLive_158 : decode cX17_findLive 158 = .ok (.laload, 1) := by decide +kernel
theorem dr_cX17_findLive_159 : decode cX17_findLive 159 = .ok (.lcmp, 1) := by decide +kernel
theorem dr_cX17_findLive_160 : decode cX17_findLive 160 = .ok (.ifCond .eq 7, 3) := by decide +kernel
theorem dr_cX17_findLive_167 : decode cX17_findLive 167 = .ok (.iconst 0, 1) := by decide +kernel
theorem dr_cX17_findLive_104 : decode cX17_findLive 104 = .ok (.aload_n 0, 1) := by decide +kernel
theorem dr_cX17_findLive_105 : decode cX17_findLive 105 = .ok (.aload 5, 2) := by decide +kernel
theorem dr_cX17_findLive_107 : decode cX17_findLive 107 = .ok (.getfield 117, 3) := by decide +kernel
theorem dr_cX17_findLive_110 : decode cX17_findLive 110 = .ok (.iload 6, 2) := by decide +kernel
theorem dr_cX17_findLive_112 : decode cX17_findLive 112 = .ok (.invokevirtual 124, 3) := by decide +kernel
theorem dr_cX17_findLive_115 : decode cX17_findLive 115 = .ok (.checkcast 40, 3) := by decide +kernel
theorem dr_cX17_findLive_118 : decode cX17_findLive 118 = .ok (.iload_n 2, 1) := by decide +kernel
theorem dr_cX17_findLive_119 : decode cX17_findLive 119 = .ok (.invokevirtual 113, 3) := by decide +kernel
theorem dr_cX17_findLive_122 : decode cX17_findLive 122 = .ok (.iinc 6 (-1), 3) := by decide +kernel
theorem dr_cX17_findLive_125 : decode cX17_findLive 125 = .ok (.goto (-26), 3) := by decide +kernel
theorem dr_cX17_findLive_10 : decode cX17_findLive 10 = .ok (.iconst 0, 1) := by decide +kernel
theorem dr_cX17_findLive_11 : decode cX17_findLive 11 = .ok (.istore 4, 2) := by decide +kernel
theorem dr_cX17_findLive_13 : decode cX17_findLive 13 = .ok (.iload 4, 2) := by decide +kernel
theorem dr_cX17_findLive_15 : decode cX17_findLive 15 = .ok (.bipush 32, 2) := by decide +kernel
theorem dr_cX17_findLive_17 : decode cX17_findLive 17 = .ok (.if_icmp .ge 19, 3) := by decide +kernel
theorem dr_cX17_findLive_36 : decode cX17_findLive 36 = .ok (.iinc 3 1, 3) := by decide +kernel
theorem dr_cX17_findLive_39 : decode cX17_findLive 39 = .ok (.goto (-37), 3) := by decide +kernel
theorem dr_cX17_findLive_20 : decode cX17_findLive 20 = .ok (.aload_n 0, 1) := by decide +kernel
theorem dr_cX17_findLive_21 : decode cX17_findLive 21 = .ok (.getfield 88, 3) := by decide +kernel
theorem dr_cX17_findLive_24 : decode cX17_findLive 24 = .ok (.iload_n 3, 1) := by decide +kernel
theorem dr_cX17_findLive_25 : decode cX17_findLive 25 = .ok (.aaload, 1) := by decide +kernel
theorem dr_cX17_findLive_26 : decode cX17_findLive 26 = .ok (.iload 4, 2) := by decide +kernel
theorem dr_cX17_findLive_28 : decode cX17_findLive 28 = .ok (.lconst 0, 1) := by decide +kernel
theorem dr_cX17_findLive_29 : decode cX17_findLive 29 = .ok (.lastore, 1) := by decide +kernel
theorem dr_cX17_findLive_30 : decode cX17_findLive 30 = .ok (.iinc 4 1, 3) := by decide +kernel
theorem dr_cX17_findLive_33 : decode cX17_findLive 33 = .ok (.goto (-20), 3) := by decide +kernel
abbrev ky_216157_Block_ways : gKey := (cX12_ways, 1, "SpillForgeModel$Block", (some FieldType.int), [], "ways", fun _ _ => True)
def pp_216157_Block_ways (D : va_G) (I : FieldType → ClassId) (P216143 : List Nat) (F216144 : Nat → va_E) (q216145 : Nat) (q216146 : Nat) (qo216147 : Nat) (p216148 : Int32) (p216149 : Int32) (p216150 : Int32) (p216151 : Int32) (p216152 : Int32) (p216153 : Int32) (p216154 : Int32) (p216155 : Int32) (p216156 : Int32) : Option Value → va_W → Nat → Nat → Prop := fun r w dc ds => ∃ (o216167 : Int32), r = some (.int o216167) ∧ w = va_pl P216143 F216144 ∧ dc ≤ 0 ∧ ds ≤ 0 ∧ gB o216167 0 2 ∧ ((o216167.toInt = 0 ∧ p216150.toInt = 32) ∨ (o216167.toInt = 1 ∧ p216150.toInt ≠ 32 ∧ (p216150.toInt = 30 ∨ p216148.toInt = p216149.toInt)) ∨ (o216167.toInt = 2 ∧ p216150.toInt ≠ 32 ∧ p216150.toInt ≠ 30 ∧ p216148.toInt ≠ p216149.toInt))
set_option maxRecDepth 100000 in
set_option maxHeartbeats 4000000 in
theorem cp_216157_Block_ways (l : Launch) (hl0 : l.stackTraces = false) (D : va_G) (I : FieldType → ClassId) (P216143 : List Nat) (F216144 : Nat → va_E) (q216145 : Nat) (q216146 : Nat) (qo216147 : Nat) (p216148 : Int32) (p216149 : Int32) (p216150 : Int32) (p216151 : Int32) (p216152 : Int32) (p216153 : Int32) (p216154 : Int32) (p216155 : Int32) (p216156 : Int32) (hmq216145 : q216145 ∈ P216143) (hmq216146 : q216146 ∈ P216143) (heq216145 : F216144 q216145 = .inr (17, [.ref qo216147, .ref q216146, .int p216148, .int p216149])) (heq216146 : F216144 q216146 = .inr (20, [.int p216150, .int p216151, .int p216152, .int p216153, .int p216154, .int p216155, .int p216156])) (bp216148 : gB p216148 0 39) (bp216149 : gB p216149 0 39) (bp216150 : gB p216150 0 32) (bp216151 : gB p216151 0 1999) (bp216154 : gB p216154 0 1999) (bp216155 : gB p216155 0 1) (bp216156 : gB p216156 0 1) : CtA (gV D I) l yX12_ways cX12_ways 1 (some FieldType.int) 0 0 0 0 [.ref q216145] (va_pl P216143 F216144) (pp_216157_Block_ways D I P216143 F216144 q216145 q216146 qo216147 p216148 p216149 p216150 p216151 p216152 p216153 p216154 p216155 p216156) gNA := by
  refine CtA_of hl0 (by decide) (Nat.le_of_ble_eq_true rfl) ?_
  have bp216152 := gB_any p216152
  have bp216153 := gB_any p216153
  refine G_aload_n 0 dr_cX12_ways_0 rfl ?_
  refine Gp_get 1 hmq216145 heq216145 dr_cX12_ways_1 (gk_X12 D I) (Nat.le_of_ble_eq_true rfl) wr_9_222 rfl ?_
  refine Gp_get 0 hmq216146 heq216146 dr_cX12_ways_4 (gk_X15 D I) (Nat.le_of_ble_eq_true rfl) wr_9_176 rfl ?_
  refine G_bipush 32 dr_cX12_ways_7 (by decide +kernel) ?_
  refine G_icmp_ne 16 dr_cX12_ways_9 (by decide +kernel) (fun hc216158 => ?_) (fun hc216158 => ?_)
  · have r216159 : p216150.toInt ≠ 32 := gj_neq hc216158 (show Int32.toInt 32 = 32 by decide)
    have bp216150' : gB p216150 0 31 := ⟨by omega, by omega⟩
    refine G_aload_n 0 dr_cX12_ways_16 rfl ?_
    refine Gp_get 1 hmq216145 heq216145 dr_cX12_ways_17 (gk_X12 D I) (Nat.le_of_ble_eq_true rfl) wr_9_222 rfl ?_
    refine Gp_get 0 hmq216146 heq216146 dr_cX12_ways_20 (gk_X15 D I) (Nat.le_of_ble_eq_true rfl) wr_9_176 rfl ?_
    refine G_bipush 30 dr_cX12_ways_23 (by decide +kernel) ?_
    refine G_icmp_eq 39 dr_cX12_ways_25 (by decide +kernel) (fun hc216160 => ?_) (fun hc216160 => ?_)
    · have r216161 : p216150.toInt = 30 := gj_eq hc216160 (show Int32.toInt 30 = 30 by decide)
      have bp216150'' : gB p216150 30 30 := ⟨by omega, by omega⟩
      refine G_iconst 1 dr_cX12_ways_39 (by decide +kernel) ?_
      refine G_goto 44 dr_cX12_ways_40 (by decide +kernel) ?_
      exact G_iretA dr_cX12_ways_44 rfl (Nat.le_of_ble_eq_true rfl) (Nat.le_of_ble_eq_true rfl) ⟨1, rfl, rfl, (Nat.le_of_ble_eq_true rfl), (Nat.le_of_ble_eq_true rfl), (gB_w (gBl (show Int32.toInt 1 = 1 by decide)) (by decide) (by decide)), (by have qa0 : Int32.toInt 1 = 1 := (by decide); omega)⟩
    · have r216162 : p216150.toInt ≠ 30 := gj_neq hc216160 (show Int32.toInt 30 = 30 by decide)
      refine G_aload_n 0 dr_cX12_ways_28 rfl ?_
      refine Gp_get 2 hmq216145 heq216145 dr_cX12_ways_29 (gk_X12 D I) (Nat.le_of_ble_eq_true rfl) wr_9_226 rfl ?_
      refine G_aload_n 0 dr_cX12_ways_32 rfl ?_
      refine Gp_get 3 hmq216145 heq216145 dr_cX12_ways_33 (gk_X12 D I) (Nat.le_of_ble_eq_true rfl) wr_9_230 rfl ?_
      refine G_icmp_ne 43 dr_cX12_ways_36 (by decide +kernel) (fun hc216163 => ?_) (fun hc216163 => ?_)
      · have r216164 : p216148.toInt ≠ p216149.toInt := gC_ne hc216163
        refine G_iconst 2 dr_cX12_ways_43 (by decide +kernel) ?_
        exact G_iretA dr_cX12_ways_44 rfl (Nat.le_of_ble_eq_true rfl) (Nat.le_of_ble_eq_true rfl) ⟨2, rfl, rfl, (Nat.le_of_ble_eq_true rfl), (Nat.le_of_ble_eq_true rfl), (gB_w (gBl (show Int32.toInt 2 = 2 by decide)) (by decide) (by decide)), (by have qa0 : Int32.toInt 2 = 2 := (by decide); omega)⟩
      · have r216165 : p216148.toInt = p216149.toInt := gC_eq hc216163
        refine G_iconst 1 dr_cX12_ways_39 (by decide +kernel) ?_
        refine G_goto 44 dr_cX12_ways_40 (by decide +kernel) ?_
        exact G_iretA dr_cX12_ways_44 rfl (Nat.le_of_ble_eq_true rfl) (Nat.le_of_ble_eq_true rfl) ⟨1, rfl, rfl, (Nat.le_of_ble_eq_true rfl), (Nat.le_of_ble_eq_true rfl), (gB_w (gBl (show Int32.toInt 1 = 1 by decide)) (by decide) (by decide)), (by have qa0 : Int32.toInt 1 = 1 := (by decide); omega)⟩
  · have r216166 : p216150.toInt = 32 := gj_eq hc216158 (show Int32.toInt 32 = 32 by decide)
    have bp216150' : gB p216150 32 32 := ⟨by omega, by omega⟩
    refine G_iconst 0 dr_cX12_ways_12 (by decide +kernel) ?_
    refine G_goto 44 dr_cX12_ways_13 (by decide +kernel) ?_
    exact G_iretA dr_cX12_ways_44 rfl (Nat.le_of_ble_eq_true rfl) (Nat.le_of_ble_eq_true rfl) ⟨0, rfl, rfl, (Nat.le_of_ble_eq_true rfl), (Nat.le_of_ble_eq_true rfl), (gB_w (gBl (show Int32.toInt 0 = 0 by decide)) (by decide) (by decide)), (by have qa0 : Int32.toInt 0 = 0 := (by decide); omega)⟩
abbrev ky_216291_Block_way : gKey := (cX12_way, 2, "SpillForgeModel$Block", (some FieldType.int), [], "way", fun _ _ => True)
def pp_216291_Block_way (D : va_G) (I : FieldType → ClassId) (P216276 : List Nat) (F216277 : Nat → va_E) (q216278 : Nat) (q216279 : Nat) (p216280 : Int32) (qo216281 : Nat) (p216282 : Int32) (p216283 : Int32) (p216284 : Int32) (p216285 : Int32) (p216286 : Int32) (p216287 : Int32) (p216288 : Int32) (p216289 : Int32) (p216290 : Int32) : Option Value → va_W → Nat → Nat → Prop := fun r w dc ds => ∃ (o216295 : Int32), r = some (.int o216295) ∧ w = va_pl P216276 F216277 ∧ dc ≤ 0 ∧ ds ≤ 0 ∧ gB o216295 0 39 ∧ ((p216280.toInt = 0 ∧ o216295.toInt = p216282.toInt) ∨ (p216280.toInt ≠ 0 ∧ o216295.toInt = p216283.toInt))
set_option maxRecDepth 100000 in
set_option maxHeartbeats 4000000 in
theorem cp_216291_Block_way (l : Launch) (hl0 : l.stackTraces = false) (D : va_G) (I : FieldType → ClassId) (P216276 : List Nat) (F216277 : Nat → va_E) (q216278 : Nat) (q216279 : Nat) (p216280 : Int32) (qo216281 : Nat) (p216282 : Int32) (p216283 : Int32) (p216284 : Int32) (p216285 : Int32) (p216286 : Int32) (p216287 : Int32) (p216288 : Int32) (p216289 : Int32) (p216290 : Int32) (hmq216278 : q216278 ∈ P216276) (hmq216279 : q216279 ∈ P216276) (heq216278 : F216277 q216278 = .inr (17, [.ref qo216281, .ref q216279, .int p216282, .int p216283])) (heq216279 : F216277 q216279 = .inr (20, [.int p216284, .int p216285, .int p216286, .int p216287, .int p216288, .int p216289, .int p216290])) (bp216282 : gB p216282 0 39) (bp216283 : gB p216283 0 39) (bp216284 : gB p216284 0 32) (bp216285 : gB p216285 0 1999) (bp216288 : gB p216288 0 1999) (bp216289 : gB p216289 0 1) (bp216290 : gB p216290 0 1) : CtA (gV D I) l yX12_way cX12_way 2 (some FieldType.int) 0 0 0 0 [.ref q216278, .int p216280] (va_pl P216276 F216277) (pp_216291_Block_way D I P216276 F216277 q216278 q216279 p216280 qo216281 p216282 p216283 p216284 p216285 p216286 p216287 p216288 p216289 p216290) gNA := by
  refine CtA_of hl0 (by decide) (Nat.le_of_ble_eq_true rfl) ?_
  have bp216280 := gB_any p216280
  have bp216286 := gB_any p216286
  have bp216287 := gB_any p216287
  refine G_iload_n 1 dr_cX12_way_0 rfl ?_
  refine G_if_ne 11 dr_cX12_way_1 (by decide +kernel) (fun hc216292 => ?_) (fun hc216292 => ?_)
  · have r216293 : p216280.toInt ≠ 0 := gj_neq hc216292 (show Int32.toInt 0 = 0 by decide)
    refine G_aload_n 0 dr_cX12_way_11 rfl ?_
    refine Gp_get 3 hmq216278 heq216278 dr_cX12_way_12 (gk_X12 D I) (Nat.le_of_ble_eq_true rfl) wr_9_230 rfl ?_
    exact G_iretA dr_cX12_way_15 rfl (Nat.le_of_ble_eq_true rfl) (Nat.le_of_ble_eq_true rfl) ⟨p216283, rfl, rfl, (Nat.le_of_ble_eq_true rfl), (Nat.le_of_ble_eq_true rfl), bp216283, (by omega)⟩
  · have r216294 : p216280.toInt = 0 := gj_eq hc216292 (show Int32.toInt 0 = 0 by decide)
    have bp216280' : gB p216280 0 0 := ⟨by omega, by omega⟩
    refine G_aload_n 0 dr_cX12_way_4 rfl ?_
    refine Gp_get 2 hmq216278 heq216278 dr_cX12_way_5 (gk_X12 D I) (Nat.le_of_ble_eq_true rfl) wr_9_226 rfl ?_
    refine G_goto 15 dr_cX12_way_8 (by decide +kernel) ?_
    exact G_iretA dr_cX12_way_15 rfl (Nat.le_of_ble_eq_true rfl) (Nat.le_of_ble_eq_true rfl) ⟨p216282, rfl, rfl, (Nat.le_of_ble_eq_true rfl), (Nat.le_of_ble_eq_true rfl), bp216282, (by omega)⟩
abbrev ky_215899_SpillForgeModel_behind : gKey := (cX17_behind, 4, "SpillForgeModel", none, [], "behind", fun _ _ => True)
def pt_215899_SpillForgeModel_behind (D : va_G) (I : FieldType → ClassId) (γ el : Nat → Nat → Nat) (P215895 : List Nat) (F215896 : Nat → va_E) (q215897 : Nat) (q215898 : Nat) : Option Value → va_W → Nat → Nat → Prop := fun r w dc ds => ∃ (F218907 : Nat → va_E), r = none ∧ w = va_pl P215895 F218907 ∧ RS D I P215895 F218907 γ el ∧ rStr γ [] F215896 F218907 ∧ dc ≤ 0 ∧ ds ≤ 0 ∧ (∀ k : Nat, k < 2048 → rbt (cL (F218907 (γ 9 2))) k = bhV (fI (F215896 (γ 15 q215898)) 0).toInt (fI (F215896 q215898) 2).toInt (fI (F215896 q215898) 3).toInt (lvS γ F215896) k) ∧ rLv γ F215896 F218907 ∧ (F218907 q215897 = F215896 q215897)
set_option maxRecDepth 100000 in
set_option maxHeartbeats 4000000 in
theorem ct_215899_SpillForgeModel_behind (l : Launch) (hl0 : l.stackTraces = false) (D : va_G) (I : FieldType → ClassId) (γ el : Nat → Nat → Nat) (P215895 : List Nat) (F215896 : Nat → va_E) (q215897 : Nat) (q215898 : Nat) (hT : RS D I P215895 F215896 γ el) (htq215897 : rKd γ q215897 10) (htq215898 : rKd γ q215898 2) : CtA (gV D I) l yX17_behind cX17_behind 4 none 1 21 0 0 [.ref q215897, .ref q215898] (va_pl P215895 F215896) (pt_215899_SpillForgeModel_behind D I γ el P215895 F215896 q215897 q215898) gNA := by
  refine CtA_of hl0 (by decide) (Nat.le_of_ble_eq_true rfl) ?_
  have hm215900 : q215897 ∈ P215895 := RS_m hT htq215897 (by decide)
  obtain ⟨q215902, q215903, p215904, p215905, p215906, p215907, p215908, p215909, p215910, p215911, p215912, p215913, p215914, p215915, p215916, p215917, p215918, he215901, hB215945, ht215919, ht215920, ht215921, ht215922, ht215923, ht215924, ht215925, ht215926, ht215927, ht215928, ht215929, ht215930, ht215931, ht215932, ht215933, ht215934, ht215935, ht215936, ht215937, ht215938, ht215939, ht215940, ht215941, ht215942, hB215946⟩ := show rk_10 γ (F215896 q215897) from RS_o hT htq215897
  have hm215947 : (γ 9 2) ∈ P215895 := RS_m hT ht215923 (by decide)
  obtain ⟨f215949, he215948, wf215949⟩ := show rk_35 I (F215896 (γ 9 2)) from RS_o hT ht215923
  have hm215950 : q215898 ∈ P215895 := RS_m hT htq215898 (by decide)
  obtain ⟨q215952, q215953, p215954, p215955, he215951, ht215962, ht215956, ht215957, ht215958, ht215959, ht215960, bp215954, bp215955, r215961, r215963, r215964⟩ := show rk_2 γ q215898 (F215896 q215898) from RS_o hT htq215898
  have hm215965 : q215953 ∈ P215895 := RS_m hT ht215958 (by decide)
  obtain ⟨p215967, p215968, p215969, p215970, p215971, p215972, p215973, he215966, bp215967, bp215968, bp215971, bp215972, bp215973, r215974, r215975, r215976, r215977, r215978⟩ := show rk_1 γ q215953 (F215896 q215953) from RS_o hT ht215958
  have bp215969 := gB_any p215969
  have bp215970 := gB_any p215970
  have fe1 : (fI (F215896 q215898) 2).toInt = p215954.toInt := by rw [he215951]; rfl
  have fe2 : (fI (F215896 q215898) 3).toInt = p215955.toInt := by rw [he215951]; rfl
  have fe3 : (fI (F215896 (γ 15 q215898)) 0).toInt = p215967.toInt := by rw [ht215962.2.1, he215966]; rfl
  refine G_iconst 0 dr_cX17_behind_0 (by decide +kernel) ?_
  refine G_istore_n (L' := [(2, .int 0), (0, .ref q215897), (1, .ref q215898)]) dr_cX17_behind_1 (Nat.le_of_ble_eq_true rfl) rfl ?_
  have hlp2_218298 : ∀ (n2_218298 : Nat) (F218293 : Nat → va_E) (g218292 : Int32), gB g218292 0 32 → RS D I P215895 F218293 γ el → rStr γ [] F215896 F218293 → (∀ j : Nat, (j : Int) < g218292.toInt → cL (F218293 (γ 9 2)) j = 0) → rLv γ F215896 F218293 → (F218293 q215897 = F215896 q215897) → ((33 : Int) - g218292.toInt).toNat < n2_218298 → G (gV D I) l (gRm 1 21 0 0) (gMA (gV D I) (pt_215899_SpillForgeModel_behind D I γ el P215895 F215896 q215897 q215898) gNA 0 0) ky_215899_SpillForgeModel_behind 2 [(2, .int g218292), (0, .ref q215897), (1, .ref q215898)] [] (va_pl P215895 F218293) 0 0 := by
    intro n2_218298
    induction n2_218298 with
    | zero => intro F218293 g218292 bg218292 hT218294 hs218295 x218296 x218297 x218298 hm2_218298; exact absurd hm2_218298 (Nat.not_lt_zero _)
    | succ n2_218298 ih2_218298 =>
      intro F218293 g218292 bg218292 hT218294 hs218295 x218296 x218297 x218298 hm2_218298
      have hs218300 : rStr γ [] F215896 F218293 := fun b h0 hb hw => (hs218295 b h0 hb hw).trans ((rStr_rf (γ := γ) (W := []) (F := F215896)) b h0 hb hw).symm
      have he218301 : F218293 q215898 = .inr (17, [.ref q215952, .ref q215953, .int p215954, .int p215955]) := (hs218300 q215898 (rT0 htq215898 (by decide)) (rT1 htq215898 (by decide)) (rT2 htq215898 (by decide))).trans he215951
      have he218302 : F218293 q215953 = .inr (20, [.int p215967, .int p215968, .int p215969, .int p215970, .int p215971, .int p215972, .int p215973]) := (hs218300 q215953 (rT0 ht215958 (by decide)) (rT1 ht215958 (by decide)) (rT2 ht215958 (by decide))).trans he215966
      have hs218303 : rStr γ [] F215896 F218293 := rStr_tr (rStr_rf (γ := γ) (W := []) (F := F215896)) hs218300
      refine G_iload_n 0 dr_cX17_behind_2 rfl ?_
      refine G_bipush 32 dr_cX17_behind_3 (by decide +kernel) ?_
      refine G_icmp_ge 21 dr_cX17_behind_5 (by decide +kernel) (fun hc218304 => ?_) (fun hc218304 => ?_)
      · have r218305 : 32 ≤ g218292.toInt := gj_leL hc218304 (show Int32.toInt 32 = 32 by decide)
        have bg218292' : gB g218292 32 32 := ⟨by omega, by omega⟩
        refine G_iconst 0 dr_cX17_behind_21 (by decide +kernel) ?_
        refine G_istore_n (L' := [(2, .int 0), (0, .ref q215897), (1, .ref q215898)]) dr_cX17_behind_22 (Nat.le_of_ble_eq_true rfl) rfl ?_
        have hlp23_218579 : ∀ (n23_218579 : Nat) (F218573 : Nat → va_E) (g218572 : Int32), gB g218572 0 2 → RS D I P215895 F218573 γ el → rStr γ [] F215896 F218573 → (∀ k : Nat, k < 2048 → rbt (cL (F218573 (γ 9 2))) k = wyV g218572.toInt (fI (F215896 q215898) 2).toInt (fI (F215896 q215898) 3).toInt (lvS γ F215896) k) → rLv γ F215896 F218573 → (g218572.toInt = 0 ∨ ((fI (F215896 (γ 15 q215898)) 0).toInt ≠ 32 ∧ (g218572.toInt = 1 ∨ (g218572.toInt = 2 ∧ (fI (F215896 (γ 15 q215898)) 0).toInt ≠ 30 ∧ (fI (F215896 q215898) 2).toInt ≠ (fI (F215896 q215898) 3).toInt)))) → (F218573 q215897 = F215896 q215897) → ((3 : Int) - g218572.toInt).toNat < n23_218579 → G (gV D I) l (gRm 1 21 0 0) (gMA (gV D I) (pt_215899_SpillForgeModel_behind D I γ el P215895 F215896 q215897 q215898) gNA 0 0) ky_215899_SpillForgeModel_behind 23 [(2, .int g218572), (0, .ref q215897), (1, .ref q215898)] [] (va_pl P215895 F218573) 0 0 := by
          intro n23_218579
          induction n23_218579 with
          | zero => intro F218573 g218572 bg218572 hT218574 hs218575 x218576 x218577 x218578 x218579 hm23_218579; exact absurd hm23_218579 (Nat.not_lt_zero _)
          | succ n23_218579 ih23_218579 =>
            intro F218573 g218572 bg218572 hT218574 hs218575 x218576 x218577 x218578 x218579 hm23_218579
            have hs218581 : rStr γ [] F218293 F218573 := fun b h0 hb hw => (hs218575 b h0 hb hw).trans (hs218295 b h0 hb hw).symm
            have he218582 : F218573 q215898 = .inr (17, [.ref q215952, .ref q215953, .int p215954, .int p215955]) := (hs218581 q215898 (rT0 htq215898 (by decide)) (rT1 htq215898 (by decide)) (rT2 htq215898 (by decide))).trans he218301
            have he218583 : F218573 q215953 = .inr (20, [.int p215967, .int p215968, .int p215969, .int p215970, .int p215971, .int p215972, .int p215973]) := (hs218581 q215953 (rT0 ht215958 (by decide)) (rT1 ht215958 (by decide)) (rT2 ht215958 (by decide))).trans he218302
            have hs218584 : rStr γ [] F215896 F218573 := rStr_tr hs218295 hs218581
            refine G_iload_n 0 dr_cX17_behind_23 rfl ?_
            refine G_aload_n 2 dr_cX17_behind_24 rfl ?_
            refine Gw_callV (As := []) (gV_ok D I) (cp_216157_Block_ways l hl0 D I P215895 F218573 q215898 q215953 q215952 p215954 p215955 p215967 p215968 p215969 p215970 p215971 p215972 p215973 hm215950 hm215965 he218582 he218583 bp215954 bp215955 bp215967 bp215968 bp215971 bp215972 bp215973) dr_cX17_behind_25 ⟨wr_10_166, wr_1_38, wr_10_169, by decide, rfl, (Nat.le_of_ble_eq_true rfl), (Nat.le_of_ble_eq_true rfl)⟩ wr_10_167 wr_10_168 hm215950 he218582 rfl (show 0 + 0 ≤ 0 by first | omega | decide) (show 0 + 0 ≤ 0 by first | omega | decide) (Nat.le_of_ble_eq_true rfl) (fun r218588 w218589 dc218585 ds218586 hp218587 => ?_) (fun _ _ _ _ _ z => z.elim)
            obtain ⟨o218590, rfl, rfl, hdc, hds, bo218590, x218591⟩ := hp218587
            change G _ _ _ _ _ _ _ (.int o218590 :: _) _ _ _
            refine G_widen (cs' := 0) (sl' := 0) (by omega) (by omega) ?_
            refine G_icmp_ge 72 dr_cX17_behind_28 (by decide +kernel) (fun hc218592 => ?_) (fun hc218592 => ?_)
            · have r218593 : o218590.toInt ≤ g218572.toInt := gC_le hc218592
              have hm218594 : q215897 ∈ P215895 := RS_m hT218574 htq215897 (by decide)
              obtain ⟨q218596, q218597, p218598, p218599, p218600, p218601, p218602, p218603, p218604, p218605, p218606, p218607, p218608, p218609, p218610, p218611, p218612, he218595, hB218639, ht218613, ht218614, ht218615, ht218616, ht218617, ht218618, ht218619, ht218620, ht218621, ht218622, ht218623, ht218624, ht218625, ht218626, ht218627, ht218628, ht218629, ht218630, ht218631, ht218632, ht218633, ht218634, ht218635, ht218636, hB218640⟩ := show rk_10 γ (F218573 q215897) from RS_o hT218574 htq215897
              exact G_vretA dr_cX17_behind_72 rfl (Nat.le_of_ble_eq_true rfl) (Nat.le_of_ble_eq_true rfl) ⟨F218573, rfl, rfl, hT218574, hs218575, (Nat.le_of_ble_eq_true rfl), (Nat.le_of_ble_eq_true rfl), (fun k hk => (x218576 k hk).trans (bh_of (by omega))), x218577, x218579⟩
            · have r218641 : g218572.toInt < o218590.toInt := gC_nle hc218592
              have bg218572' : gB g218572 0 1 := ⟨by omega, by omega⟩
              have bo218590' : gB o218590 1 2 := ⟨by omega, by omega⟩
              refine G_iconst 0 dr_cX17_behind_31 (by decide +kernel) ?_
              refine G_istore_n (L' := [(3, .int 0), (2, .int g218572), (0, .ref q215897), (1, .ref q215898)]) dr_cX17_behind_32 (Nat.le_of_ble_eq_true rfl) rfl ?_
              have hlp33_218747 : ∀ (n33_218747 : Nat) (F218741 : Nat → va_E) (g218740 : Int32), gB g218740 0 32 → RS D I P215895 F218741 γ el → rStr γ [] F215896 F218741 → (∀ k : Nat, k < 2048 → rbt (cL (F218741 (γ 9 2))) k = if (k : Int) < 64 * g218740.toInt then wyV (g218572.toInt + 1) (fI (F215896 q215898) 2).toInt (fI (F215896 q215898) 3).toInt (lvS γ F215896) k else wyV g218572.toInt (fI (F215896 q215898) 2).toInt (fI (F215896 q215898) 3).toInt (lvS γ F215896) k) → rLv γ F215896 F218741 → ((g218572.toInt = 0 ∧ (fI (F215896 (γ 15 q215898)) 0).toInt ≠ 32) ∨ (g218572.toInt = 1 ∧ (fI (F215896 (γ 15 q215898)) 0).toInt ≠ 32 ∧ (fI (F215896 (γ 15 q215898)) 0).toInt ≠ 30 ∧ (fI (F215896 q215898) 2).toInt ≠ (fI (F215896 q215898) 3).toInt)) → (F218741 q215897 = F215896 q215897) → ((33 : Int) - g218740.toInt).toNat < n33_218747 → G (gV D I) l (gRm 1 21 0 0) (gMA (gV D I) (pt_215899_SpillForgeModel_behind D I γ el P215895 F215896 q215897 q215898) gNA 0 0) ky_215899_SpillForgeModel_behind 33 [(3, .int g218740), (2, .int g218572), (0, .ref q215897), (1, .ref q215898)] [] (va_pl P215895 F218741) 0 0 := by
                intro n33_218747
                induction n33_218747 with
                | zero => intro F218741 g218740 bg218740 hT218742 hs218743 x218744 x218745 x218746 x218747 hm33_218747; exact absurd hm33_218747 (Nat.not_lt_zero _)
                | succ n33_218747 ih33_218747 =>
                  intro F218741 g218740 bg218740 hT218742 hs218743 x218744 x218745 x218746 x218747 hm33_218747
                  have hs218749 : rStr γ [] F218573 F218741 := fun b h0 hb hw => (hs218743 b h0 hb hw).trans (hs218575 b h0 hb hw).symm
                  have he218750 : F218741 q215898 = .inr (17, [.ref q215952, .ref q215953, .int p215954, .int p215955]) := (hs218749 q215898 (rT0 htq215898 (by decide)) (rT1 htq215898 (by decide)) (rT2 htq215898 (by decide))).trans he218582
                  have he218751 : F218741 q215953 = .inr (20, [.int p215967, .int p215968, .int p215969, .int p215970, .int p215971, .int p215972, .int p215973]) := (hs218749 q215953 (rT0 ht215958 (by decide)) (rT1 ht215958 (by decide)) (rT2 ht215958 (by decide))).trans he218583
                  have hs218752 : rStr γ [] F215896 F218741 := rStr_tr hs218575 hs218749
                  refine G_iload_n 0 dr_cX17_behind_33 rfl ?_
                  refine G_bipush 32 dr_cX17_behind_34 (by decide +kernel) ?_
                  refine G_icmp_ge 66 dr_cX17_behind_36 (by decide +kernel) (fun hc218753 => ?_) (fun hc218753 => ?_)
                  · have r218754 : 32 ≤ g218740.toInt := gj_leL hc218753 (show Int32.toInt 32 = 32 by decide)
                    have bg218740' : gB g218740 32 32 := ⟨by omega, by omega⟩
                    obtain ⟨z218755, hz218755⟩ : ∃ z : Int32, z = g218572 + Int32.ofInt 1 := ⟨_, rfl⟩
                    have ez218755 : z218755.toInt = g218572.toInt + 1 := gI_inc hz218755 (by decide) bg218572' (by decide) (by decide)
                    have bz218755 : gB z218755 1 2 := ⟨by omega, by omega⟩
                    refine G_iinc (L' := [(2, .int z218755), (3, .int g218740), (0, .ref q215897), (1, .ref q215898)]) z218755 1 dr_cX17_behind_66 rfl hz218755.symm (Nat.le_of_ble_eq_true rfl) rfl ?_
                    refine G_goto 23 dr_cX17_behind_69 (by decide +kernel) ?_
                    refine G_lv (L' := [(2, .int z218755), (0, .ref q215897), (1, .ref q215898)]) [0, 2, 3] rfl ?_
                    exact ih23_218579 F218741 z218755 (gB_w bz218755 (by decide) (by decide)) hT218742 hs218743 (fun k hk => by have q := x218744 k hk; rw [if_pos (by omega)] at q; rw [ez218755]; exact q) x218745 (by rw [show fI (F215896 q215898) 2 = p215954 from by rw [he215951]; rfl, show fI (F215896 q215898) 3 = p215955 from by rw [he215951]; rfl] <;> (omega)) x218747 (by omega)
                  · have r218756 : g218740.toInt < 32 := gj_nleL hc218753 (show Int32.toInt 32 = 32 by decide)
                    have bg218740' : gB g218740 0 31 := ⟨by omega, by omega⟩
                    refine G_aload_n 2 dr_cX17_behind_39 rfl ?_
                    have hm218757 : q215897 ∈ P215895 := RS_m hT218742 htq215897 (by decide)
                    obtain ⟨q218759, q218760, p218761, p218762, p218763, p218764, p218765, p218766, p218767, p218768, p218769, p218770, p218771, p218772, p218773, p218774, p218775, he218758, hB218802, ht218776, ht218777, ht218778, ht218779, ht218780, ht218781, ht218782, ht218783, ht218784, ht218785, ht218786, ht218787, ht218788, ht218789, ht218790, ht218791, ht218792, ht218793, ht218794, ht218795, ht218796, ht218797, ht218798, ht218799, hB218803⟩ := show rk_10 γ (F218741 q215897) from RS_o hT218742 htq215897
                    refine Gp_get 2 hm218757 he218758 dr_cX17_behind_40 (gk_X17 D I) (Nat.le_of_ble_eq_true rfl) wr_7_76 rfl ?_
                    refine G_iload_n 0 dr_cX17_behind_43 rfl ?_
                    refine G_dup2_11 dr_cX17_behind_44 rfl rfl ?_
                    have hm218804 : (γ 9 2) ∈ P215895 := RS_m hT218742 ht218780 (by decide)
                    obtain ⟨f218806, he218805, wf218806⟩ := show rk_35 I (F218741 (γ 9 2)) from RS_o hT218742 ht218780
                    refine Gp_lald 2 hm218804 he218805 dr_cX17_behind_45 rfl (gB_in bg218740' (by decide) (by decide)) (G_namL fun u218807 hu218807 => ?_)
                    have qu218807 : lb_Q u218807 (2000 - 64 * g218740.toInt) := lb_Wld hu218807 wf218806 (by omega) (by omega) (lb_Mod0 (by omega) (by omega))
                    refine G_aload_n 2 dr_cX17_behind_46 rfl ?_
                    refine Gp_get 0 hm218757 he218758 dr_cX17_behind_47 (gk_X17 D I) (Nat.le_of_ble_eq_true rfl) wr_7_74 rfl ?_
                    refine G_aload_n 3 dr_cX17_behind_50 rfl ?_
                    refine G_iload_n 1 dr_cX17_behind_51 rfl ?_
                    refine Gw_callV (As := [.int g218572]) (gV_ok D I) (cp_216291_Block_way l hl0 D I P215895 F218741 q215898 q215953 g218572 q215952 p215954 p215955 p215967 p215968 p215969 p215970 p215971 p215972 p215973 hm215950 hm215965 he218750 he218751 bp215954 bp215955 bp215967 bp215968 bp215971 bp215972 bp215973) dr_cX17_behind_52 ⟨wr_10_170, wr_1_38, wr_10_173, by decide, rfl, (Nat.le_of_ble_eq_true rfl), (Nat.le_of_ble_eq_true rfl)⟩ wr_10_171 wr_10_172 hm215950 he218750 rfl (show 0 + 0 ≤ 0 by first | omega | decide) (show 0 + 0 ≤ 0 by first | omega | decide) (Nat.le_of_ble_eq_true rfl) (fun r218811 w218812 dc218808 ds218809 hp218810 => ?_) (fun _ _ _ _ _ z => z.elim)
                    obtain ⟨o218813, rfl, rfl, hdc, hds, bo218813, x218814⟩ := hp218810
                    change G _ _ _ _ _ _ _ (.int o218813 :: _) _ _ _
                    refine G_widen (cs' := 0) (sl' := 0) (by omega) (by omega) ?_
                    have hm218815 : (γ 9 0) ∈ P215895 := RS_m hT218742 ht218778 (by decide)
                    obtain ⟨f218817, he218816, hg218818⟩ := show rk_12 I γ (F218741 (γ 9 0)) from RS_o hT218742 ht218778
                    obtain ⟨q218819, hx218821⟩ : ∃ x, x = γ 10 o218813.toInt.toNat := ⟨_, rfl⟩
                    have ht218820 : rKd γ q218819 11 := by rw [hx218821]; exact (hg218818 _ (show o218813.toInt.toNat < 40 by omega)).2.1
                    refine Gp_aald 5 hm218815 he218816 dr_cX17_behind_55 rfl rfl (gB_in bo218813 (by decide) (by decide)) ?_
                    rw [show f218817 o218813.toNatClampNeg = some q218819 from (hg218818 _ (show o218813.toInt.toNat < 40 by omega)).1.trans (by rw [hx218821])]
                    change G _ _ _ _ _ _ _ (.ref q218819 :: _) _ _ _
                    refine G_iload_n 0 dr_cX17_behind_56 rfl ?_
                    have hm218822 : q218819 ∈ P215895 := RS_m hT218742 ht218820 (by decide)
                    obtain ⟨f218824, he218823, wf218824⟩ := show rk_11 I (F218741 q218819) from RS_o hT218742 ht218820
                    refine Gp_lald 2 hm218822 he218823 dr_cX17_behind_57 rfl (gB_in bg218740' (by decide) (by decide)) (G_namL fun u218825 hu218825 => ?_)
                    have qu218825 : lb_Q u218825 (2000 - 64 * g218740.toInt) := lb_Wld hu218825 wf218824 (by omega) (by omega) (lb_Mod0 (by omega) (by omega))
                    have hg218826 : ∀ k : Nat, lvS γ F215896 o218813.toInt.toNat k = rbt f218824 k := fun k => by unfold lvS; rw [← x218745 _ (show o218813.toInt.toNat < 40 by omega), ← hx218821, cL_of he218823]
                    refine G_lor dr_cX17_behind_58 (G_namL fun u218827 hu218827 => ?_)
                    have qu218827 : lb_Q u218827 (2000 - 64 * g218740.toInt) := lb_Qor hu218827 qu218807 qu218825
                    refine Gp_last 2 hm218804 he218805 dr_cX17_behind_59 rfl (gB_in bg218740' (by decide) (by decide)) (fun F218828 e218829 n218830 => ?_)
                    obtain ⟨f218831, hf218831⟩ : ∃ z, z = vp_updL f218806 g218740.toNatClampNeg u218827 := ⟨_, rfl⟩
                    rw [← hf218831] at e218829
                    have he218832 : F218828 q215898 = .inr (17, [.ref q215952, .ref q215953, .int p215954, .int p215955]) := (n218830 q215898 (rn_oa he218750 he218805)).trans he218750
                    have he218833 : F218828 q215953 = .inr (20, [.int p215967, .int p215968, .int p215969, .int p215970, .int p215971, .int p215972, .int p215973]) := (n218830 q215953 (rn_oa he218751 he218805)).trans he218751
                    have he218834 : F218828 q215897 = .inr (22, [.ref (γ 9 0), .ref (γ 9 1), .ref (γ 9 2), .ref (γ 9 3), .ref (γ 9 4), .ref (γ 9 5), .ref (γ 9 6), .ref (γ 9 7), .ref (γ 9 8), .int p218761, .int p218762, .int p218763, .int p218764, .int p218765, .int p218766, .ref (γ 9 15), .ref (γ 9 16), .ref (γ 9 17), .ref (γ 9 18), .ref (γ 9 19), .ref (γ 9 20), .ref (γ 9 21), .ref (γ 9 22), .int p218767, .int p218768, .int p218769, .int p218770, .int p218771, .ref q218759, .ref (γ 9 29), .int p218772, .ref (γ 9 31), .int p218773, .int p218774, .int p218775, .ref q218760]) := (n218830 q215897 (rn_oa he218758 he218805)).trans he218758
                    have he218835 : F218828 (γ 9 0) = .inl (I (.array .long), 40, .inr (.inr (.inr (.inr f218817)))) := (n218830 (γ 9 0) (rn_ref_long he218816 he218805)).trans he218816
                    have he218836 : F218828 q218819 = .inl (I .long, 32, .inr (.inl f218824)) := (n218830 q218819 (rn_ty ht218820 ht218780 (by decide))).trans he218823
                    have he218837 : F218828 (γ 9 2) = .inl (I .long, 32, .inr (.inl f218831)) := e218829
                    have hs218838 : rStr γ [] F215896 F218828 := rStr_put hs218743 n218830 ht218780 (by decide)
                    have kp218839 : F218828 q215897 = F215896 q215897 := (n218830 q215897 (rn_ty htq215897 ht218780 (by decide))).trans x218747
                    have wf218831 : lb_W f218831 (32) (32) (2000) := lb_Wst hf218831 wf218806 (by omega) (lb_Mod0 (by omega) (by omega)) qu218827
                    obtain ⟨z218840, hz218840⟩ : ∃ z : Int32, z = g218740 + Int32.ofInt 1 := ⟨_, rfl⟩
                    have ez218840 : z218840.toInt = g218740.toInt + 1 := gI_inc hz218840 (by decide) bg218740' (by decide) (by decide)
                    have bz218840 : gB z218840 1 32 := ⟨by omega, by omega⟩
                    refine G_iinc (L' := [(3, .int z218840), (2, .int g218572), (0, .ref q215897), (1, .ref q215898)]) z218840 0 dr_cX17_behind_60 rfl hz218840.symm (Nat.le_of_ble_eq_true rfl) rfl ?_
                    refine G_goto 33 dr_cX17_behind_63 (by decide +kernel) ?_
                    have hT218841 : RS D I P215895 F218828 γ el := RS_set hT218742 n218830 ht218780 (by decide) ⟨f218831, he218837, wf218831⟩
                    have lv218842 : rLv γ F215896 F218828 := rLv_put hT218742 ht218778 x218745 n218830 ht218780 (by decide)
                    exact ih33_218747 F218828 z218840 (gB_w bz218840 (by decide) (by decide)) hT218841 hs218838 (by rw [cL_of he218837]; exact or_st hu218807 hu218825 (by assumption) hf218831 bg218740'.1 ez218840 (by have q := x218744; rw [cL_of he218805] at q; exact q) (fun k => (wy_s (y := o218813.toInt) (by omega)).trans (by rw [hg218826 k]))) lv218842 (by rw [show fI (F215896 q215898) 2 = p215954 from by rw [he215951]; rfl, show fI (F215896 q215898) 3 = p215955 from by rw [he215951]; rfl] <;> (omega)) kp218839 (by omega)
              exact hlp33_218747 (((33 : Int) - 0).toNat + 1) F218573 0 (gB_w (gBl (show Int32.toInt 0 = 0 by decide)) (by decide) (by decide)) hT218574 hs218575 (fun k hk => by rw [if_neg (by have qa : Int32.toInt 0 = 0 := (by decide); omega)]; exact x218576 k hk) x218577 (by rw [show fI (F215896 q215898) 2 = p215954 from by rw [he215951]; rfl, show fI (F215896 q215898) 3 = p215955 from by rw [he215951]; rfl] <;> (omega)) x218579 (Nat.lt_succ_self _)
        exact hlp23_218579 (((3 : Int) - 0).toNat + 1) F218293 0 (gB_w (gBl (show Int32.toInt 0 = 0 by decide)) (by decide) (by decide)) hT218294 hs218295 (fun k hk => (rbt_z (x218296 _ (by omega))).trans wy_0.symm) x218297 (Or.inl (by decide)) x218298 (Nat.lt_succ_self _)
      · have r218843 : g218292.toInt < 32 := gj_nleL hc218304 (show Int32.toInt 32 = 32 by decide)
        have bg218292' : gB g218292 0 31 := ⟨by omega, by omega⟩
        refine G_aload_n 1 dr_cX17_behind_8 rfl ?_
        have hm218844 : q215897 ∈ P215895 := RS_m hT218294 htq215897 (by decide)
        obtain ⟨q218846, q218847, p218848, p218849, p218850, p218851, p218852, p218853, p218854, p218855, p218856, p218857, p218858, p218859, p218860, p218861, p218862, he218845, hB218889, ht218863, ht218864, ht218865, ht218866, ht218867, ht218868, ht218869, ht218870, ht218871, ht218872, ht218873, ht218874, ht218875, ht218876, ht218877, ht218878, ht218879, ht218880, ht218881, ht218882, ht218883, ht218884, ht218885, ht218886, hB218890⟩ := show rk_10 γ (F218293 q215897) from RS_o hT218294 htq215897
        refine Gp_get 2 hm218844 he218845 dr_cX17_behind_9 (gk_X17 D I) (Nat.le_of_ble_eq_true rfl) wr_7_76 rfl ?_
        refine G_iload_n 0 dr_cX17_behind_12 rfl ?_
        refine G_lconst 0 dr_cX17_behind_13 rfl ?_
        have hm218891 : (γ 9 2) ∈ P215895 := RS_m hT218294 ht218867 (by decide)
        obtain ⟨f218893, he218892, wf218893⟩ := show rk_35 I (F218293 (γ 9 2)) from RS_o hT218294 ht218867
        refine Gp_last 2 hm218891 he218892 dr_cX17_behind_14 rfl (gB_in bg218292' (by decide) (by decide)) (fun F218894 e218895 n218896 => ?_)
        obtain ⟨f218897, hf218897⟩ : ∃ z, z = vp_updL f218893 g218292.toNatClampNeg 0 := ⟨_, rfl⟩
        rw [← hf218897] at e218895
        have he218898 : F218894 q215898 = .inr (17, [.ref q215952, .ref q215953, .int p215954, .int p215955]) := (n218896 q215898 (rn_oa he218301 he218892)).trans he218301
        have he218899 : F218894 q215953 = .inr (20, [.int p215967, .int p215968, .int p215969, .int p215970, .int p215971, .int p215972, .int p215973]) := (n218896 q215953 (rn_oa he218302 he218892)).trans he218302
        have he218900 : F218894 q215897 = .inr (22, [.ref (γ 9 0), .ref (γ 9 1), .ref (γ 9 2), .ref (γ 9 3), .ref (γ 9 4), .ref (γ 9 5), .ref (γ 9 6), .ref (γ 9 7), .ref (γ 9 8), .int p218848, .int p218849, .int p218850, .int p218851, .int p218852, .int p218853, .ref (γ 9 15), .ref (γ 9 16), .ref (γ 9 17), .ref (γ 9 18), .ref (γ 9 19), .ref (γ 9 20), .ref (γ 9 21), .ref (γ 9 22), .int p218854, .int p218855, .int p218856, .int p218857, .int p218858, .ref q218846, .ref (γ 9 29), .int p218859, .ref (γ 9 31), .int p218860, .int p218861, .int p218862, .ref q218847]) := (n218896 q215897 (rn_oa he218845 he218892)).trans he218845
        have he218901 : F218894 (γ 9 2) = .inl (I .long, 32, .inr (.inl f218897)) := e218895
        have hs218902 : rStr γ [] F215896 F218894 := rStr_put hs218295 n218896 ht218867 (by decide)
        have kp218903 : F218894 q215897 = F215896 q215897 := (n218896 q215897 (rn_ty htq215897 ht218867 (by decide))).trans x218298
        have wf218897 : lb_W f218897 (32) (32) (2000) := lb_Wst hf218897 wf218893 (by omega) (lb_Mod0 (by omega) (by omega)) lb_Q0
        obtain ⟨z218904, hz218904⟩ : ∃ z : Int32, z = g218292 + Int32.ofInt 1 := ⟨_, rfl⟩
        have ez218904 : z218904.toInt = g218292.toInt + 1 := gI_inc hz218904 (by decide) bg218292' (by decide) (by decide)
        have bz218904 : gB z218904 1 32 := ⟨by omega, by omega⟩
        refine G_iinc (L' := [(2, .int z218904), (0, .ref q215897), (1, .ref q215898)]) z218904 0 dr_cX17_behind_15 rfl hz218904.symm (Nat.le_of_ble_eq_true rfl) rfl ?_
        refine G_goto 2 dr_cX17_behind_18 (by decide +kernel) ?_
        have hT218905 : RS D I P215895 F218894 γ el := RS_set hT218294 n218896 ht218867 (by decide) ⟨f218897, he218901, wf218897⟩
        have lv218906 : rLv γ F215896 F218894 := rLv_put hT218294 ht218865 x218297 n218896 ht218867 (by decide)
        exact ih2_218298 F218894 z218904 (gB_w bz218904 (by decide) (by decide)) hT218905 hs218902 (by rw [cL_of he218901]; exact zr_st hf218897 (by have q := x218296; rw [cL_of he218892] at q; exact q) ez218904 bg218292'.1) lv218906 kp218903 (by omega)
  exact hlp2_218298 (((33 : Int) - 0).toNat + 1) F215896 0 (gB_w (gBl (show Int32.toInt 0 = 0 by decide)) (by decide) (by decide)) hT (rStr_rf (γ := γ) (W := []) (F := F215896)) (fun j hj => absurd hj (by have qa : Int32.toInt 0 = 0 := (by decide); omega)) (rLv_rf (γ := γ) (F := F215896)) rfl (Nat.lt_succ_self _)
abbrev ky_218914_SpillForgeModel_findLive : gKey := (cX17_findLive, 7, "SpillForgeModel", none, [], "findLive", fun _ _ => True)
def pt_218914_SpillForgeModel_findLive (D : va_G) (I : FieldType → ClassId) (γ el : Nat → Nat → Nat) (P218908 : List Nat) (F218909 : Nat → va_E) (q218910 : Nat) (q218911 : Nat) (p218912 : Int32) : Option Value → va_W → Nat → Nat → Prop := fun r w dc ds => ∃ (F270215 : Nat → va_E), r = none ∧ w = va_pl P218908 F270215 ∧ RS D I P218908 F270215 γ el ∧ rStr γ [] F218909 F270215 ∧ dc ≤ 0 ∧ ds ≤ 0 ∧ (F270215 q218910 = F218909 q218910)
set_option maxRecDepth 100000 in
set_option maxHeartbeats 4000000 in
theorem ct_218914_SpillForgeModel_findLive (l : Launch) (hl0 : l.stackTraces = false) (D : va_G) (I : FieldType → ClassId) (γ el : Nat → Nat → Nat) (P218908 : List Nat) (F218909 : Nat → va_E) (q218910 : Nat) (q218911 : Nat) (p218912 : Int32) (hT : RS D I P218908 F218909 γ el) (htq218910 : rKd γ q218910 10) (htq218911 : rKd γ q218911 9) (bp218912 : gB p218912 0 1) (x218913 : 0 < γ 6 (γ 1 q218911)) : CtA (gV D I) l yX17_findLive cX17_findLive 7 none 4 85 0 0 [.ref q218910, .ref q218911, .int p218912] (va_pl P218908 F218909) (pt_218914_SpillForgeModel_findLive D I γ el P218908 F218909 q218910 q218911 p218912) gNA := by
  refine CtA_of hl0 (by decide) (Nat.le_of_ble_eq_true rfl) ?_
  have hm218915 : q218910 ∈ P218908 := RS_m hT htq218910 (by decide)
  obtain ⟨q218917, q218918, p218919, p218920, p218921, p218922, p218923, p218924, p218925, p218926, p218927, p218928, p218929, p218930, p218931, p218932, p218933, he218916, hB218960, ht218934, ht218935, ht218936, ht218937, ht218938, ht218939, ht218940, ht218941, ht218942, ht218943, ht218944, ht218945, ht218946, ht218947, ht218948, ht218949, ht218950, ht218951, ht218952, ht218953, ht218954, ht218955, ht218956, ht218957, hB218961⟩ := show rk_10 γ (F218909 q218910) from RS_o hT htq218910
  have hm218962 : (γ 9 2) ∈ P218908 := RS_m hT ht218938 (by decide)
  obtain ⟨f218964, he218963, wf218964⟩ := show rk_35 I (F218909 (γ 9 2)) from RS_o hT ht218938
  refine G_iconst 0 dr_cX17_findLive_0 (by decide +kernel) ?_
  refine G_istore_n (L' := [(3, .int 0), (0, .ref q218910), (1, .ref q218911), (2, .int p218912)]) dr_cX17_findLive_1 (Nat.le_of_ble_eq_true rfl) rfl ?_
  have hlp2_265104 : ∀ (n2_265104 : Nat) (F265100 : Nat → va_E) (g265099 : Int32), gB g265099 0 1000000 → RS D I P218908 F265100 γ el → rStr γ [] F218909 F265100 → (∀ i : Nat, (i : Int) < g265099.toInt → ∀ j : Nat, j < 32 → cL (F265100 (γ 10 i)) j = 0) → (F265100 q218910 = F218909 q218910) → ((1000001 : Int) - g265099.toInt).toNat < n2_265104 → G (gV D I) l (gRm 4 85 0 0) (gMA (gV D I) (pt_218914_SpillForgeModel_findLive D I γ el P218908 F218909 q218910 q218911 p218912) gNA 0 0) ky_218914_SpillForgeModel_findLive 2 [(3, .int g265099), (0, .ref q218910), (1, .ref q218911), (2, .int p218912)] [] (va_pl P218908 F265100) 0 0 := by
    intro n2_265104
    induction n2_265104 with
    | zero => intro F265100 g265099 bg265099 hT265101 hs265102 x265103 x265104 hm2_265104; exact absurd hm2_265104 (Nat.not_lt_zero _)
    | succ n2_265104 ih2_265104 =>
      intro F265100 g265099 bg265099 hT265101 hs265102 x265103 x265104 hm2_265104
      have hs265106 : rStr γ [] F218909 F265100 := fun b h0 hb hw => (hs265102 b h0 hb hw).trans ((rStr_rf (γ := γ) (W := []) (F := F218909)) b h0 hb hw).symm
      have hs265107 : rStr γ [] F218909 F265100 := rStr_tr (rStr_rf (γ := γ) (W := []) (F := F218909)) hs265106
      refine G_iload_n 0 dr_cX17_findLive_2 rfl ?_
      refine G_aload_n 2 dr_cX17_findLive_3 rfl ?_
      have hm265108 : q218911 ∈ P218908 := RS_m hT265101 htq218911 (by decide)
      obtain ⟨q265110, q265111, p265112, p265113, he265109, ht265129, ht265114, ht265115, ht265116, ht265117, r265118, r265119, r265120, r265121, r265122, r265123, r265124, r265125, r265126, r265127, r265128⟩ := show rk_9 γ el q218911 (F265100 q218911) from RS_o hT265101 htq218911
      have bp265112 : gB p265112 0 1000000 := ⟨by omega, by omega⟩
      have bp265113 : gB p265113 0 1000000 := ⟨by omega, by omega⟩
      refine Gw_callV (As := []) (gV_ok D I) (cp_12496_Code_size l hl0 D I P218908 F265100 q218911 q265110 q265111 p265112 p265113 hm265108 he265109) dr_cX17_findLive_4 ⟨wr_10_160, wr_1_15, wr_9_131, by decide, rfl, (Nat.le_of_ble_eq_true rfl), (Nat.le_of_ble_eq_true rfl)⟩ wr_9_129 wr_9_130 hm265108 he265109 rfl (show 0 + 0 ≤ 0 by first | omega | decide) (show 0 + 0 ≤ 0 by first | omega | decide) (Nat.le_of_ble_eq_true rfl) (fun r265133 w265134 dc265130 ds265131 hp265132 => ?_) (fun _ _ _ _ _ z => z.elim)
      obtain ⟨rfl, rfl, hdc, hds⟩ := hp265132
      change G _ _ _ _ _ _ _ (.int p265113 :: _) _ _ _
      refine G_widen (cs' := 0) (sl' := 0) (by omega) (by omega) ?_
      refine G_icmp_ge 42 dr_cX17_findLive_7 (by decide +kernel) (fun hc265135 => ?_) (fun hc265135 => ?_)
      · have r265136 : p265113.toInt ≤ g265099.toInt := gC_le hc265135
        refine G_iconst 1 dr_cX17_findLive_42 (by decide +kernel) ?_
        refine G_istore_n (L' := [(3, .int 1), (0, .ref q218910), (1, .ref q218911), (2, .int p218912)]) dr_cX17_findLive_43 (Nat.le_of_ble_eq_true rfl) rfl ?_
        have hlp44_267597 : ∀ (n44_267597 : Nat) (F267593 : Nat → va_E) (g267592 : Int32), gB g267592 0 1 → RS D I P218908 F267593 γ el → rStr γ [] F218909 F267593 → rJv γ el F218909 F267593 q218911 (decide (p218912.toInt = 1)) (γ 6 (γ 1 q218911)) → (F267593 q218910 = F218909 q218910) → ((81920 - lvT γ F267593) + (g267592.toInt : Int).toNat) < n44_267597 → G (gV D I) l (gRm 4 85 0 0) (gMA (gV D I) (pt_218914_SpillForgeModel_findLive D I γ el P218908 F218909 q218910 q218911 p218912) gNA 0 0) ky_218914_SpillForgeModel_findLive 44 [(3, .int g267592), (0, .ref q218910), (1, .ref q218911), (2, .int p218912)] [] (va_pl P218908 F267593) 0 0 := by
          intro n44_267597
          induction n44_267597 with
          | zero => intro F267593 g267592 bg267592 hT267594 hs267595 x267596 x267597 hm44_267597; exact absurd hm44_267597 (Nat.not_lt_zero _)
          | succ n44_267597 ih44_267597 =>
            intro F267593 g267592 bg267592 hT267594 hs267595 x267596 x267597 hm44_267597
            have hs267599 : rStr γ [] F265100 F267593 := fun b h0 hb hw => (hs267595 b h0 hb hw).trans (hs265102 b h0 hb hw).symm
            have he267600 : F267593 q218911 = .inr (18, [.ref q265110, .ref q265111, .int p265112, .int p265113]) := (hs267599 q218911 (rT0 htq218911 (by decide)) (rT1 htq218911 (by decide)) (rT2 htq218911 (by decide))).trans he265109
            have hs267601 : rStr γ [] F218909 F267593 := rStr_tr hs265102 hs267599
            refine G_iload_n 0 dr_cX17_findLive_44 rfl ?_
            refine G_if_eq 201 dr_cX17_findLive_45 (by decide +kernel) (fun hc267602 => ?_) (fun hc267602 => ?_)
            · have r267603 : g267592.toInt = 0 := gj_eq hc267602 (show Int32.toInt 0 = 0 by decide)
              have bg267592' : gB g267592 0 0 := ⟨by omega, by omega⟩
              exact G_vretA dr_cX17_findLive_201 rfl (Nat.le_of_ble_eq_true rfl) (Nat.le_of_ble_eq_true rfl) ⟨F267593, rfl, rfl, hT267594, hs267595, (Nat.le_of_ble_eq_true rfl), (Nat.le_of_ble_eq_true rfl), x267597⟩
            · have r267604 : g267592.toInt ≠ 0 := gj_neq hc267602 (show Int32.toInt 0 = 0 by decide)
              have bg267592' : gB g267592 1 1 := ⟨by omega, by omega⟩
              refine G_iconst 0 dr_cX17_findLive_48 (by decide +kernel) ?_
              refine G_istore_n (L' := [(3, .int 0), (0, .ref q218910), (1, .ref q218911), (2, .int p218912)]) dr_cX17_findLive_49 (Nat.le_of_ble_eq_true rfl) rfl ?_
              refine G_aload_n 2 dr_cX17_findLive_50 rfl ?_
              refine Gw_callV (As := []) (gV_ok D I) (cp_12496_Code_size l hl0 D I P218908 F267593 q218911 q265110 q265111 p265112 p265113 hm265108 he267600) dr_cX17_findLive_51 ⟨wr_10_160, wr_1_15, wr_9_131, by decide, rfl, (Nat.le_of_ble_eq_true rfl), (Nat.le_of_ble_eq_true rfl)⟩ wr_9_129 wr_9_130 hm265108 he267600 rfl (show 0 + 0 ≤ 0 by first | omega | decide) (show 0 + 0 ≤ 0 by first | omega | decide) (Nat.le_of_ble_eq_true rfl) (fun r267608 w267609 dc267605 ds267606 hp267607 => ?_) (fun _ _ _ _ _ z => z.elim)
              obtain ⟨rfl, rfl, hdc, hds⟩ := hp267607
              change G _ _ _ _ _ _ _ (.int p265113 :: _) _ _ _
              refine G_widen (cs' := 0) (sl' := 0) (by omega) (by omega) ?_
              refine G_iconst 1 dr_cX17_findLive_54 (by decide +kernel) ?_
              refine G_isub dr_cX17_findLive_55 (G_nam fun z267610 hz267610 => ?_)
              have ez267610 : z267610.toInt = p265113.toInt - 1 := by rw [gI_sub hz267610 bp265113 (gBl (show Int32.toInt 1 = 1 by decide)) (by decide) (by decide), show Int32.toInt 1 = 1 from by decide]
              have bz267610 : gB z267610 (-1) 999999 := gB_sub (gI_sub hz267610 bp265113 (gBl (show Int32.toInt 1 = 1 by decide)) (by decide) (by decide)) bp265113 (gBl (show Int32.toInt 1 = 1 by decide)) (by decide) (by decide)
              refine G_istore (L' := [(4, .int z267610), (3, .int 0), (0, .ref q218910), (1, .ref q218911), (2, .int p218912)]) dr_cX17_findLive_56 (Nat.le_of_ble_eq_true rfl) rfl ?_
              have hlp58_268836 : ∀ (n58_268836 : Nat) (F268830 : Nat → va_E) (g268828 : Int32) (g268829 : Int32), gB g268828 (-1) 999999 → gB g268829 0 1 → RS D I P218908 F268830 γ el → rStr γ [] F218909 F268830 → rJv γ el F218909 F268830 q218911 (decide (p218912.toInt = 1)) (γ 6 (γ 1 q218911)) → (lvT γ F267593 + (g268829.toInt : Int).toNat ≤ lvT γ F268830) → ((g268828.toInt : Int) < γ 6 (γ 1 q218911)) → (F268830 q218910 = F218909 q218910) → ((g268828.toInt : Int) - (-2)).toNat < n58_268836 → G (gV D I) l (gRm 4 85 0 0) (gMA (gV D I) (pt_218914_SpillForgeModel_findLive D I γ el P218908 F218909 q218910 q218911 p218912) gNA 0 0) ky_218914_SpillForgeModel_findLive 58 [(4, .int g268828), (3, .int g268829), (0, .ref q218910), (1, .ref q218911), (2, .int p218912)] [] (va_pl P218908 F268830) 0 0 := by
                intro n58_268836
                induction n58_268836 with
                | zero => intro F268830 g268828 g268829 bg268828 bg268829 hT268831 hs268832 x268833 x268834 x268835 x268836 hm58_268836; exact absurd hm58_268836 (Nat.not_lt_zero _)
                | succ n58_268836 ih58_268836 =>
                  intro F268830 g268828 g268829 bg268828 bg268829 hT268831 hs268832 x268833 x268834 x268835 x268836 hm58_268836
                  have hs268838 : rStr γ [] F267593 F268830 := fun b h0 hb hw => (hs268832 b h0 hb hw).trans (hs267595 b h0 hb hw).symm
                  have he268839 : F268830 q218911 = .inr (18, [.ref q265110, .ref q265111, .int p265112, .int p265113]) := (hs268838 q218911 (rT0 htq218911 (by decide)) (rT1 htq218911 (by decide)) (rT2 htq218911 (by decide))).trans he267600
                  have hs268840 : rStr γ [] F218909 F268830 := rStr_tr hs267595 hs268838
                  refine G_iload 0 dr_cX17_findLive_58 rfl ?_
                  refine G_if_lt 198 dr_cX17_findLive_60 (by decide +kernel) (fun hc268841 => ?_) (fun hc268841 => ?_)
                  · have r268842 : g268828.toInt < 0 := gj_lt hc268841 (show Int32.toInt 0 = 0 by decide)
                    have bg268828' : gB g268828 (-1) (-1) := ⟨by omega, by omega⟩
                    have lt268843 := lvT_le (γ := γ) (F := F268830)
                    have lt268844 := lvT_le (γ := γ) (F := F267593)
                    refine G_goto 44 dr_cX17_findLive_198 (by decide +kernel) ?_
                    refine G_lv (L' := [(3, .int g268829), (0, .ref q218910), (1, .ref q218911), (2, .int p218912)]) [1, 2, 3, 4] rfl ?_
                    exact ih44_267597 F268830 g268829 bg268829 hT268831 hs268832 x268833 x268836 (by omega)
                  · have r268845 : 0 ≤ g268828.toInt := gj_nlt hc268841 (show Int32.toInt 0 = 0 by decide)
                    have bg268828' : gB g268828 0 999999 := ⟨by omega, by omega⟩
                    refine G_aload_n 3 dr_cX17_findLive_63 rfl ?_
                    refine G_iload 0 dr_cX17_findLive_64 rfl ?_
                    have hm268846 : q265110 ∈ P218908 := RS_m hT268831 ht265114 (by decide)
                    obtain ⟨⟨p268848, p268849, q268850, he268847, r268851, r268852, r268853, r268855⟩, r268854⟩ := show rk_4 D I γ el F268830 q265110 from RS_o hT268831 ht265114
                    have bp268848 := gB_any p268848
                    have bp268849 : gB p268849 0 1000000 := ⟨by omega, by omega⟩
                    obtain ⟨r268856, r268857, n268864, f268865, r268858, r268859, r268860, r268861, r268862, r268863⟩ := rLC_n r268853 (by omega)
                    have hm268866 : q268850 ∈ P218908 := RS_m hT268831 r268856 (by decide)
                    obtain ⟨q268867, hx268868⟩ : ∃ x, x = el q265110 g268828.toInt.toNat := ⟨_, rfl⟩
                    have hx268869 : f268865 g268828.toNatClampNeg = some q268867 := (r268862 _ (show g268828.toInt.toNat < γ 2 q265110 by omega)).trans (by rw [hx268868])
                    have ht268872 : rKd γ q268867 2 := by rw [hx268868]; exact (r265125 _ (by omega)).resolve_right (fun z => absurd z.1 (by omega))
                    have ht268873 : rFm γ q268867 q265110 := by rw [hx268868]; exact (r268854 _ (show g268828.toInt.toNat < γ 2 q265110 by omega)).2.1
                    have hm268874 : q268867 ∈ P218908 := RS_m hT268831 ht268872 (by decide)
                    obtain ⟨q268876, q268877, p268878, p268879, he268875, ht268886, ht268880, ht268881, ht268882, ht268883, ht268884, bp268878, bp268879, r268885, r268887, r268888⟩ := show rk_2 γ q268867 (F268830 q268867) from RS_o hT268831 ht268872
                    refine Gw_callV (As := [.int g268828]) (gV_ok D I) (cp_7737_Code_get l hl0 D I P218908 F268830 q218911 q265110 q268850 g268828 q265111 p265112 p265113 p268848 p268849 f268865 n268864 q268867 q268876 q268877 p268878 p268879 hm265108 hm268846 hm268866 hm268874 he268839 he268847 r268858 he268875 (gB_w bg268828' (by decide) (by decide)) (gB_w bp268849 (by decide) (by decide)) (by omega) (by omega) (by assumption) (by omega)) dr_cX17_findLive_66 ⟨wr_10_161, wr_1_15, wr_10_141, by decide, rfl, (Nat.le_of_ble_eq_true rfl), (Nat.le_of_ble_eq_true rfl)⟩ wr_10_139 wr_10_140 hm265108 he268839 rfl (show 0 + 0 ≤ 0 by first | omega | decide) (show 0 + 0 ≤ 0 by first | omega | decide) (Nat.le_of_ble_eq_true rfl) (fun r268892 w268893 dc268889 ds268890 hp268891 => ?_) (fun _ _ _ _ _ z => z.elim)
                    obtain ⟨rfl, rfl, hdc, hds⟩ := hp268891
                    change G _ _ _ _ _ _ _ (.ref q268867 :: _) _ _ _
                    refine G_widen (cs' := 0) (sl' := 0) (by omega) (by omega) ?_
                    refine G_astore (L' := [(5, .ref q268867), (4, .int g268828), (3, .int g268829), (0, .ref q218910), (1, .ref q218911), (2, .int p218912)]) dr_cX17_findLive_69 (Nat.le_of_ble_eq_true rfl) rfl ?_
                    refine G_aload_n 3 dr_cX17_findLive_71 rfl ?_
                    refine G_aload 0 dr_cX17_findLive_72 rfl ?_
                    have fl268894 : F268830 q268867 = F218909 q268867 := hs268832 q268867 (rT0 ht268872 (by decide)) (rT1 ht268872 (by decide)) (rT2 ht268872 (by decide))
                    have fl268895 : F268830 q268877 = F218909 q268877 := hs268832 q268877 (rT0 ht268882 (by decide)) (rT1 ht268882 (by decide)) (rT2 ht268882 (by decide))
                    have fl268896 : (fI (F218909 q268867) 2).toInt = p268878.toInt := by rw [← fl268894, he268875]; rfl
                    have fl268897 : (fI (F218909 q268867) 3).toInt = p268879.toInt := by rw [← fl268894, he268875]; rfl
                    have fl268898 : γ 2 (γ 14 q268867) = γ 2 q268876 := by rw [ht268886.1]
                    have fl268899 : q268867 = el (γ 14 q218911) (g268828.toInt : Int).toNat := by rw [hx268868, ht265129.1]
                    have hm268905 : q218910 ∈ P218908 := RS_m hT268831 htq218910 (by decide)
                    obtain ⟨q268907, q268908, p268909, p268910, p268911, p268912, p268913, p268914, p268915, p268916, p268917, p268918, p268919, p268920, p268921, p268922, p268923, he268906, hB268950, ht268924, ht268925, ht268926, ht268927, ht268928, ht268929, ht268930, ht268931, ht268932, ht268933, ht268934, ht268935, ht268936, ht268937, ht268938, ht268939, ht268940, ht268941, ht268942, ht268943, ht268944, ht268945, ht268946, ht268947, hB268951⟩ := show rk_10 γ (F268830 q218910) from RS_o hT268831 htq218910
                    refine Gw_callV (As := [.ref q268867]) (gV_ok D I) (ct_215899_SpillForgeModel_behind l hl0 D I γ el P218908 F268830 q218910 q268867 hT268831 htq218910 ht268872) dr_cX17_findLive_74 ⟨wr_10_162, wr_1_14, wr_10_165, by decide, rfl, (Nat.le_of_ble_eq_true rfl), (Nat.le_of_ble_eq_true rfl)⟩ wr_10_164 wr_p_95 hm268905 he268906 rfl (show 0 + 0 ≤ 0 by first | omega | decide) (show 0 + 0 ≤ 0 by first | omega | decide) (Nat.le_of_ble_eq_true rfl) (fun r268903 w268904 dc268900 ds268901 hp268902 => ?_) (fun _ _ _ _ _ z => z.elim)
                    obtain ⟨F268955, rfl, rfl, hT268956, hs268957, hdc, hds, x268952, x268953, x268954⟩ := hp268902
                    have he268958 : F268955 q218911 = .inr (18, [.ref q265110, .ref q265111, .int p265112, .int p265113]) := (hs268957 q218911 (rT0 htq218911 (by decide)) (rT1 htq218911 (by decide)) (rT2 htq218911 (by decide))).trans he268839
                    have he268959 : F268955 q265110 = .inr (4, [.int p268848, .ref q268850, .int p268849]) := (hs268957 q265110 (rT0 ht265114 (by decide)) (rT1 ht265114 (by decide)) (rT2 ht265114 (by decide))).trans he268847
                    have he268960 : F268955 q268850 = .inl (I (.object "java/lang/Object"), n268864, .inr (.inr (.inr (.inr f268865)))) := (hs268957 q268850 (rT0 r268856 (by decide)) (rT1 r268856 (by decide)) (rT2 r268856 (by decide))).trans r268858
                    have he268961 : F268955 q268867 = .inr (17, [.ref q268876, .ref q268877, .int p268878, .int p268879]) := (hs268957 q268867 (rT0 ht268872 (by decide)) (rT1 ht268872 (by decide)) (rT2 ht268872 (by decide))).trans he268875
                    have hs268962 : rStr γ [] F218909 F268955 := rStr_tr hs268832 hs268957
                    have kp268963 : F268955 q218910 = F218909 q218910 := (x268954).trans x268836
                    have he268964 : F268955 q218910 = .inr (22, [.ref (γ 9 0), .ref (γ 9 1), .ref (γ 9 2), .ref (γ 9 3), .ref (γ 9 4), .ref (γ 9 5), .ref (γ 9 6), .ref (γ 9 7), .ref (γ 9 8), .int p268909, .int p268910, .int p268911, .int p268912, .int p268913, .int p268914, .ref (γ 9 15), .ref (γ 9 16), .ref (γ 9 17), .ref (γ 9 18), .ref (γ 9 19), .ref (γ 9 20), .ref (γ 9 21), .ref (γ 9 22), .int p268915, .int p268916, .int p268917, .int p268918, .int p268919, .ref q268907, .ref (γ 9 29), .int p268920, .ref (γ 9 31), .int p268921, .int p268922, .int p268923, .ref q268908]) := (x268954).trans he268906
                    change G _ _ _ _ _ _ _ _ _ _ _
                    refine G_widen (cs' := 0) (sl' := 0) (by omega) (by omega) ?_
                    refine G_aload_n 3 dr_cX17_findLive_77 rfl ?_
                    refine G_aload 0 dr_cX17_findLive_78 rfl ?_
                    refine Gp_get 1 hm268874 he268961 dr_cX17_findLive_80 (gk_X12 D I) (Nat.le_of_ble_eq_true rfl) wr_9_223 rfl ?_
                    refine G_iload_n 5 dr_cX17_findLive_83 rfl ?_
                    have fl268965 : F268955 q268877 = F218909 (γ 15 q268867) := by rw [ht268886.2.1]; exact hs268962 q268877 (rT0 ht268882 (by decide)) (rT1 ht268882 (by decide)) (rT2 ht268882 (by decide))
                    refine Gw_callV (As := [.ref q268877, .int p218912]) (gV_ok D I) (ct_215576_SpillForgeModel_back l hl0 D I γ el P218908 F268955 q218910 q268877 p218912 hT268956 htq218910 ht268882 bp218912) dr_cX17_findLive_84 ⟨wr_10_174, wr_1_14, wr_10_177, by decide, rfl, (Nat.le_of_ble_eq_true rfl), (Nat.le_of_ble_eq_true rfl)⟩ wr_10_176 wr_p_96 hm268905 he268964 rfl (show 0 + 0 ≤ 0 by first | omega | decide) (show 0 + 0 ≤ 0 by first | omega | decide) (Nat.le_of_ble_eq_true rfl) (fun r268969 w268970 dc268966 ds268967 hp268968 => ?_) (fun _ _ _ _ _ z => z.elim)
                    obtain ⟨F268974, rfl, rfl, hT268975, hs268976, hdc, hds, x268971, x268972, x268973⟩ := hp268968
                    have he268977 : F268974 q218911 = .inr (18, [.ref q265110, .ref q265111, .int p265112, .int p265113]) := (hs268976 q218911 (rT0 htq218911 (by decide)) (rT1 htq218911 (by decide)) (rT2 htq218911 (by decide))).trans he268958
                    have he268978 : F268974 q265110 = .inr (4, [.int p268848, .ref q268850, .int p268849]) := (hs268976 q265110 (rT0 ht265114 (by decide)) (rT1 ht265114 (by decide)) (rT2 ht265114 (by decide))).trans he268959
                    have he268979 : F268974 q268850 = .inl (I (.object "java/lang/Object"), n268864, .inr (.inr (.inr (.inr f268865)))) := (hs268976 q268850 (rT0 r268856 (by decide)) (rT1 r268856 (by decide)) (rT2 r268856 (by decide))).trans he268960
                    have he268980 : F268974 q268867 = .inr (17, [.ref q268876, .ref q268877, .int p268878, .int p268879]) := (hs268976 q268867 (rT0 ht268872 (by decide)) (rT1 ht268872 (by decide)) (rT2 ht268872 (by decide))).trans he268961
                    have hs268981 : rStr γ [] F218909 F268974 := rStr_tr hs268962 hs268976
                    have kp268982 : F268974 q218910 = F218909 q218910 := (x268973).trans kp268963
                    have he268983 : F268974 q218910 = .inr (22, [.ref (γ 9 0), .ref (γ 9 1), .ref (γ 9 2), .ref (γ 9 3), .ref (γ 9 4), .ref (γ 9 5), .ref (γ 9 6), .ref (γ 9 7), .ref (γ 9 8), .int p268909, .int p268910, .int p268911, .int p268912, .int p268913, .int p268914, .ref (γ 9 15), .ref (γ 9 16), .ref (γ 9 17), .ref (γ 9 18), .ref (γ 9 19), .ref (γ 9 20), .ref (γ 9 21), .ref (γ 9 22), .int p268915, .int p268916, .int p268917, .int p268918, .int p268919, .ref q268907, .ref (γ 9 29), .int p268920, .ref (γ 9 31), .int p268921, .int p268922, .int p268923, .ref q268908]) := (x268973).trans he268964
                    change G _ _ _ _ _ _ _ _ _ _ _
                    refine G_widen (cs' := 0) (sl' := 0) (by omega) (by omega) ?_
                    refine G_aload 0 dr_cX17_findLive_87 rfl ?_
                    refine Gp_get 0 hm268874 he268980 dr_cX17_findLive_89 (gk_X12 D I) (Nat.le_of_ble_eq_true rfl) wr_9_220 rfl ?_
                    have hm268984 : q268876 ∈ P218908 := RS_m hT268975 ht268880 (by decide)
                    obtain ⟨⟨p268986, p268987, q268988, he268985, r268989, r268990, r268991, r268993⟩, r268992⟩ := show rk_3 D I γ el F268974 q268876 from RS_o hT268975 ht268880
                    have bp268986 := gB_any p268986
                    have bp268987 : gB p268987 0 1000000 := ⟨by omega, by omega⟩
                    refine Gw_callV (As := []) (gV_ok D I) (cp_7_ArrayList_size l hl0 D I P218908 F268974 q268876 p268986 q268988 p268987 hm268984 he268985 (gB_w bp268987 (by decide) (by decide))) dr_cX17_findLive_92 ⟨wr_10_200, wr_1_18, wr_9_160, by decide, rfl, (Nat.le_of_ble_eq_true rfl), (Nat.le_of_ble_eq_true rfl)⟩ wr_9_158 wr_9_159 hm268984 he268985 rfl (show 0 + 0 ≤ 0 by first | omega | decide) (show 0 + 0 ≤ 0 by first | omega | decide) (Nat.le_of_ble_eq_true rfl) (fun r268997 w268998 dc268994 ds268995 hp268996 => ?_) (fun _ _ _ _ _ z => z.elim)
                    obtain ⟨rfl, rfl, hdc, hds⟩ := hp268996
                    change G _ _ _ _ _ _ _ (.int p268987 :: _) _ _ _
                    refine G_widen (cs' := 0) (sl' := 0) (by omega) (by omega) ?_
                    refine G_iconst 1 dr_cX17_findLive_95 (by decide +kernel) ?_
                    refine G_isub dr_cX17_findLive_96 (G_nam fun z268999 hz268999 => ?_)
                    have ez268999 : z268999.toInt = p268987.toInt - 1 := by rw [gI_sub hz268999 bp268987 (gBl (show Int32.toInt 1 = 1 by decide)) (by decide) (by decide), show Int32.toInt 1 = 1 from by decide]
                    have bz268999 : gB z268999 (-1) 999999 := gB_sub (gI_sub hz268999 bp268987 (gBl (show Int32.toInt 1 = 1 by decide)) (by decide) (by decide)) bp268987 (gBl (show Int32.toInt 1 = 1 by decide)) (by decide) (by decide)
                    refine G_istore (L' := [(6, .int z268999), (5, .ref q268867), (4, .int g268828), (3, .int g268829), (0, .ref q218910), (1, .ref q218911), (2, .int p218912)]) dr_cX17_findLive_97 (Nat.le_of_ble_eq_true rfl) rfl ?_
                    have hlp99_269530 : ∀ (n99_269530 : Nat) (F269523 : Nat → va_E) (g269522 : Int32), gB g269522 (-1) 999999 → RS D I P218908 F269523 γ el → rStr γ [] F218909 F269523 → rLv γ F268830 F269523 → (∀ k : Nat, k < 2048 → rbt (cL (F269523 (γ 9 2))) k = trS γ el F218909 (decide (p218912.toInt = 1)) q268867 (lvM γ F268830) ((((γ 2 (γ 14 q268867) : Nat) : Int) - 1 - g269522.toInt).toNat) k) → ((g269522.toInt : Int) < γ 2 (γ 14 q268867)) → (q268867 = el (γ 14 q218911) (g268828.toInt : Int).toNat) → (F269523 q218910 = F218909 q218910) → ((g269522.toInt : Int) - (-2)).toNat < n99_269530 → G (gV D I) l (gRm 4 85 0 0) (gMA (gV D I) (pt_218914_SpillForgeModel_findLive D I γ el P218908 F218909 q218910 q218911 p218912) gNA 0 0) ky_218914_SpillForgeModel_findLive 99 [(6, .int g269522), (5, .ref q268867), (4, .int g268828), (3, .int g268829), (0, .ref q218910), (1, .ref q218911), (2, .int p218912)] [] (va_pl P218908 F269523) 0 0 := by
                      intro n99_269530
                      induction n99_269530 with
                      | zero => intro F269523 g269522 bg269522 hT269524 hs269525 x269526 x269527 x269528 x269529 x269530 hm99_269530; exact absurd hm99_269530 (Nat.not_lt_zero _)
                      | succ n99_269530 ih99_269530 =>
                        intro F269523 g269522 bg269522 hT269524 hs269525 x269526 x269527 x269528 x269529 x269530 hm99_269530
                        have hs269532 : rStr γ [] F268974 F269523 := fun b h0 hb hw => (hs269525 b h0 hb hw).trans (hs268981 b h0 hb hw).symm
                        have he269533 : F269523 q218911 = .inr (18, [.ref q265110, .ref q265111, .int p265112, .int p265113]) := (hs269532 q218911 (rT0 htq218911 (by decide)) (rT1 htq218911 (by decide)) (rT2 htq218911 (by decide))).trans he268977
                        have he269534 : F269523 q265110 = .inr (4, [.int p268848, .ref q268850, .int p268849]) := (hs269532 q265110 (rT0 ht265114 (by decide)) (rT1 ht265114 (by decide)) (rT2 ht265114 (by decide))).trans he268978
                        have he269535 : F269523 q268850 = .inl (I (.object "java/lang/Object"), n268864, .inr (.inr (.inr (.inr f268865)))) := (hs269532 q268850 (rT0 r268856 (by decide)) (rT1 r268856 (by decide)) (rT2 r268856 (by decide))).trans he268979
                        have he269536 : F269523 q268867 = .inr (17, [.ref q268876, .ref q268877, .int p268878, .int p268879]) := (hs269532 q268867 (rT0 ht268872 (by decide)) (rT1 ht268872 (by decide)) (rT2 ht268872 (by decide))).trans he268980
                        have he269537 : F269523 q268876 = .inr (4, [.int p268986, .ref q268988, .int p268987]) := (hs269532 q268876 (rT0 ht268880 (by decide)) (rT1 ht268880 (by decide)) (rT2 ht268880 (by decide))).trans he268985
                        have hs269538 : rStr γ [] F218909 F269523 := rStr_tr hs268981 hs269532
                        refine G_iload 0 dr_cX17_findLive_99 rfl ?_
                        refine G_if_lt 128 dr_cX17_findLive_101 (by decide +kernel) (fun hc269539 => ?_) (fun hc269539 => ?_)
                        · have r269540 : g269522.toInt < 0 := gj_lt hc269539 (show Int32.toInt 0 = 0 by decide)
                          have bg269522' : gB g269522 (-1) (-1) := ⟨by omega, by omega⟩
                          refine G_iconst 0 dr_cX17_findLive_128 (by decide +kernel) ?_
                          refine G_istore (L' := [(6, .int 0), (5, .ref q268867), (4, .int g268828), (3, .int g268829), (0, .ref q218910), (1, .ref q218911), (2, .int p218912)]) dr_cX17_findLive_129 (Nat.le_of_ble_eq_true rfl) rfl ?_
                          have hlp131_269744 : ∀ (n131_269744 : Nat) (F269736 : Nat → va_E) (g269734 : Int32) (g269735 : Int32), gB g269734 0 32 → gB g269735 0 1 → RS D I P218908 F269736 γ el → rStr γ [] F218909 F269736 → (∀ i : Nat, i < 40 → (i : Int) ≠ g268828.toInt → F269736 (γ 10 i) = F268830 (γ 10 i)) → (∀ k : Nat, k < 2048 → rbt (cL (F269736 (γ 9 2))) k = trS γ el F218909 (decide (p218912.toInt = 1)) q268867 (lvM γ F268830) (γ 2 (γ 14 q268867)) k) → (∀ k : Nat, k < 2048 → lvS γ F269736 (g268828.toInt : Int).toNat k = if (k : Int) < 64 * g269734.toInt then trS γ el F218909 (decide (p218912.toInt = 1)) q268867 (lvM γ F268830) (γ 2 (γ 14 q268867)) k else lvS γ F268830 (g268828.toInt : Int).toNat k) → (lvT γ F267593 + (g269735.toInt : Int).toNat ≤ lvT γ F269736) → (q268867 = el (γ 14 q218911) (g268828.toInt : Int).toNat) → (F269736 q218910 = F218909 q218910) → ((33 : Int) - g269734.toInt).toNat < n131_269744 → G (gV D I) l (gRm 4 85 0 0) (gMA (gV D I) (pt_218914_SpillForgeModel_findLive D I γ el P218908 F218909 q218910 q218911 p218912) gNA 0 0) ky_218914_SpillForgeModel_findLive 131 [(6, .int g269734), (5, .ref q268867), (4, .int g268828), (3, .int g269735), (0, .ref q218910), (1, .ref q218911), (2, .int p218912)] [] (va_pl P218908 F269736) 0 0 := by
                            intro n131_269744
                            induction n131_269744 with
                            | zero => intro F269736 g269734 g269735 bg269734 bg269735 hT269737 hs269738 x269739 x269740 x269741 x269742 x269743 x269744 hm131_269744; exact absurd hm131_269744 (Nat.not_lt_zero _)
                            | succ n131_269744 ih131_269744 =>
                              intro F269736 g269734 g269735 bg269734 bg269735 hT269737 hs269738 x269739 x269740 x269741 x269742 x269743 x269744 hm131_269744
                              have hs269746 : rStr γ [] F269523 F269736 := fun b h0 hb hw => (hs269738 b h0 hb hw).trans (hs269525 b h0 hb hw).symm
                              have he269747 : F269736 q218911 = .inr (18, [.ref q265110, .ref q265111, .int p265112, .int p265113]) := (hs269746 q218911 (rT0 htq218911 (by decide)) (rT1 htq218911 (by decide)) (rT2 htq218911 (by decide))).trans he269533
                              have he269748 : F269736 q265110 = .inr (4, [.int p268848, .ref q268850, .int p268849]) := (hs269746 q265110 (rT0 ht265114 (by decide)) (rT1 ht265114 (by decide)) (rT2 ht265114 (by decide))).trans he269534
                              have he269749 : F269736 q268850 = .inl (I (.object "java/lang/Object"), n268864, .inr (.inr (.inr (.inr f268865)))) := (hs269746 q268850 (rT0 r268856 (by decide)) (rT1 r268856 (by decide)) (rT2 r268856 (by decide))).trans he269535
                              have he269750 : F269736 q268867 = .inr (17, [.ref q268876, .ref q268877, .int p268878, .int p268879]) := (hs269746 q268867 (rT0 ht268872 (by decide)) (rT1 ht268872 (by decide)) (rT2 ht268872 (by decide))).trans he269536
                              have hs269751 : rStr γ [] F218909 F269736 := rStr_tr hs269525 hs269746
                              refine G_iload 0 dr_cX17_findLive_131 rfl ?_
                              refine G_bipush 32 dr_cX17_findLive_133 (by decide +kernel) ?_
                              refine G_icmp_ge 192 dr_cX17_findLive_135 (by decide +kernel) (fun hc269752 => ?_) (fun hc269752 => ?_)
                              · have r269753 : 32 ≤ g269734.toInt := gj_leL hc269752 (show Int32.toInt 32 = 32 by decide)
                                have bg269734' : gB g269734 32 32 := ⟨by omega, by omega⟩
                                obtain ⟨z269754, hz269754⟩ : ∃ z : Int32, z = g268828 + Int32.ofInt (-1) := ⟨_, rfl⟩
                                have ez269754 : z269754.toInt = g268828.toInt + (-1) := gI_inc hz269754 (by decide) bg268828' (by decide) (by decide)
                                have bz269754 : gB z269754 (-1) 999998 := ⟨by omega, by omega⟩
                                refine G_iinc (L' := [(4, .int z269754), (6, .int g269734), (5, .ref q268867), (3, .int g269735), (0, .ref q218910), (1, .ref q218911), (2, .int p218912)]) z269754 2 dr_cX17_findLive_192 rfl hz269754.symm (Nat.le_of_ble_eq_true rfl) rfl ?_
                                refine G_goto 58 dr_cX17_findLive_195 (by decide +kernel) ?_
                                refine G_lv (L' := [(4, .int z269754), (3, .int g269735), (0, .ref q218910), (1, .ref q218911), (2, .int p218912)]) [0, 3, 4, 5, 6] rfl ?_
                                exact ih58_268836 F269736 z269754 g269735 (gB_w bz269754 (by decide) (by decide)) bg269735 hT269737 hs269738 (rJv_s x268833 (i0 := g268828.toInt.toNat) (by omega) (by omega) (fun i hi hne => x269739 i hi (by omega)) (fun k hk => by have q := x269741 k hk; rw [if_pos (by omega)] at q; rw [q, ← x269743])) (by have q := x269742; omega) (by omega) x269744 (by omega)
                              · have r269755 : g269734.toInt < 32 := gj_nleL hc269752 (show Int32.toInt 32 = 32 by decide)
                                have bg269734' : gB g269734 0 31 := ⟨by omega, by omega⟩
                                refine G_iload_n 3 dr_cX17_findLive_138 rfl ?_
                                refine G_if_ne 163 dr_cX17_findLive_139 (by decide +kernel) (fun hc269756 => ?_) (fun hc269756 => ?_)
                                · have r269757 : g269735.toInt ≠ 0 := gj_neq hc269756 (show Int32.toInt 0 = 0 by decide)
                                  have bg269735' : gB g269735 1 1 := ⟨by omega, by omega⟩
                                  refine G_iconst 1 dr_cX17_findLive_163 (by decide +kernel) ?_
                                  refine G_goto 168 dr_cX17_findLive_164 (by decide +kernel) ?_
                                  refine G_istore_n (L' := [(3, .int 1), (6, .int g269734), (5, .ref q268867), (4, .int g268828), (0, .ref q218910), (1, .ref q218911), (2, .int p218912)]) dr_cX17_findLive_168 (Nat.le_of_ble_eq_true rfl) rfl ?_
                                  refine G_aload_n 4 dr_cX17_findLive_169 rfl ?_
                                  have hm269758 : q218910 ∈ P218908 := RS_m hT269737 htq218910 (by decide)
                                  obtain ⟨q269760, q269761, p269762, p269763, p269764, p269765, p269766, p269767, p269768, p269769, p269770, p269771, p269772, p269773, p269774, p269775, p269776, he269759, hB269803, ht269777, ht269778, ht269779, ht269780, ht269781, ht269782, ht269783, ht269784, ht269785, ht269786, ht269787, ht269788, ht269789, ht269790, ht269791, ht269792, ht269793, ht269794, ht269795, ht269796, ht269797, ht269798, ht269799, ht269800, hB269804⟩ := show rk_10 γ (F269736 q218910) from RS_o hT269737 htq218910
                                  refine Gp_get 0 hm269758 he269759 dr_cX17_findLive_170 (gk_X17 D I) (Nat.le_of_ble_eq_true rfl) wr_7_74 rfl ?_
                                  refine G_iload 3 dr_cX17_findLive_173 rfl ?_
                                  have hm269805 : (γ 9 0) ∈ P218908 := RS_m hT269737 ht269779 (by decide)
                                  obtain ⟨f269807, he269806, hg269808⟩ := show rk_12 I γ (F269736 (γ 9 0)) from RS_o hT269737 ht269779
                                  obtain ⟨q269809, hx269811⟩ : ∃ x, x = γ 10 g268828.toInt.toNat := ⟨_, rfl⟩
                                  have ht269810 : rKd γ q269809 11 := by rw [hx269811]; exact (hg269808 _ (show g268828.toInt.toNat < 40 by omega)).2.1
                                  refine Gp_aald 5 hm269805 he269806 dr_cX17_findLive_175 rfl rfl (gB_inr (by omega) (by omega)) ?_
                                  rw [show f269807 g268828.toNatClampNeg = some q269809 from (hg269808 _ (show g268828.toInt.toNat < 40 by omega)).1.trans (by rw [hx269811])]
                                  change G _ _ _ _ _ _ _ (.ref q269809 :: _) _ _ _
                                  refine G_iload 1 dr_cX17_findLive_176 rfl ?_
                                  refine G_aload_n 4 dr_cX17_findLive_178 rfl ?_
                                  refine Gp_get 2 hm269758 he269759 dr_cX17_findLive_179 (gk_X17 D I) (Nat.le_of_ble_eq_true rfl) wr_7_76 rfl ?_
                                  refine G_iload 1 dr_cX17_findLive_182 rfl ?_
                                  have hm269812 : (γ 9 2) ∈ P218908 := RS_m hT269737 ht269781 (by decide)
                                  obtain ⟨f269814, he269813, wf269814⟩ := show rk_35 I (F269736 (γ 9 2)) from RS_o hT269737 ht269781
                                  refine Gp_lald 2 hm269812 he269813 dr_cX17_findLive_184 rfl (gB_in bg269734' (by decide) (by decide)) (G_namL fun u269815 hu269815 => ?_)
                                  have qu269815 : lb_Q u269815 (2000 - 64 * g269734.toInt) := lb_Wld hu269815 wf269814 (by omega) (by omega) (lb_Mod0 (by omega) (by omega))
                                  have hm269816 : q269809 ∈ P218908 := RS_m hT269737 ht269810 (by decide)
                                  obtain ⟨f269818, he269817, wf269818⟩ := show rk_11 I (F269736 q269809) from RS_o hT269737 ht269810
                                  refine Gp_last 2 hm269816 he269817 dr_cX17_findLive_185 rfl (gB_in bg269734' (by decide) (by decide)) (fun F269819 e269820 n269821 => ?_)
                                  obtain ⟨f269822, hf269822⟩ : ∃ z, z = vp_updL f269818 g269734.toNatClampNeg u269815 := ⟨_, rfl⟩
                                  rw [← hf269822] at e269820
                                  have he269823 : F269819 q218911 = .inr (18, [.ref q265110, .ref q265111, .int p265112, .int p265113]) := (n269821 q218911 (rn_oa he269747 he269817)).trans he269747
                                  have he269824 : F269819 q265110 = .inr (4, [.int p268848, .ref q268850, .int p268849]) := (n269821 q265110 (rn_oa he269748 he269817)).trans he269748
                                  have he269825 : F269819 q268850 = .inl (I (.object "java/lang/Object"), n268864, .inr (.inr (.inr (.inr f268865)))) := (n269821 q268850 (rn_ref_long he269749 he269817)).trans he269749
                                  have he269826 : F269819 q268867 = .inr (17, [.ref q268876, .ref q268877, .int p268878, .int p268879]) := (n269821 q268867 (rn_oa he269750 he269817)).trans he269750
                                  have he269827 : F269819 q218910 = .inr (22, [.ref (γ 9 0), .ref (γ 9 1), .ref (γ 9 2), .ref (γ 9 3), .ref (γ 9 4), .ref (γ 9 5), .ref (γ 9 6), .ref (γ 9 7), .ref (γ 9 8), .int p269762, .int p269763, .int p269764, .int p269765, .int p269766, .int p269767, .ref (γ 9 15), .ref (γ 9 16), .ref (γ 9 17), .ref (γ 9 18), .ref (γ 9 19), .ref (γ 9 20), .ref (γ 9 21), .ref (γ 9 22), .int p269768, .int p269769, .int p269770, .int p269771, .int p269772, .ref q269760, .ref (γ 9 29), .int p269773, .ref (γ 9 31), .int p269774, .int p269775, .int p269776, .ref q269761]) := (n269821 q218910 (rn_oa he269759 he269817)).trans he269759
                                  have he269828 : F269819 (γ 9 0) = .inl (I (.array .long), 40, .inr (.inr (.inr (.inr f269807)))) := (n269821 (γ 9 0) (rn_ref_long he269806 he269817)).trans he269806
                                  have he269829 : F269819 (γ 9 2) = .inl (I .long, 32, .inr (.inl f269814)) := (n269821 (γ 9 2) (rn_ty ht269781 ht269810 (by decide))).trans he269813
                                  have he269830 : F269819 q269809 = .inl (I .long, 32, .inr (.inl f269822)) := e269820
                                  have hs269831 : rStr γ [] F218909 F269819 := rStr_put hs269738 n269821 ht269810 (by decide)
                                  have kp269832 : F269819 q218910 = F218909 q218910 := (n269821 q218910 (rn_ty htq218910 ht269810 (by decide))).trans x269744
                                  have wf269822 : lb_W f269822 (32) (32) (2000) := lb_Wst hf269822 wf269818 (by omega) (lb_Mod0 (by omega) (by omega)) qu269815
                                  obtain ⟨z269833, hz269833⟩ : ∃ z : Int32, z = g269734 + Int32.ofInt 1 := ⟨_, rfl⟩
                                  have ez269833 : z269833.toInt = g269734.toInt + 1 := gI_inc hz269833 (by decide) bg269734' (by decide) (by decide)
                                  have bz269833 : gB z269833 1 32 := ⟨by omega, by omega⟩
                                  refine G_iinc (L' := [(6, .int z269833), (3, .int 1), (5, .ref q268867), (4, .int g268828), (0, .ref q218910), (1, .ref q218911), (2, .int p218912)]) z269833 1 dr_cX17_findLive_186 rfl hz269833.symm (Nat.le_of_ble_eq_true rfl) rfl ?_
                                  refine G_goto 131 dr_cX17_findLive_189 (by decide +kernel) ?_
                                  have hT269834 : RS D I P218908 F269819 γ el := RS_set hT269737 n269821 ht269810 (by decide) ⟨f269822, he269830, wf269822⟩
                                  refine G_lv (L' := [(6, .int z269833), (5, .ref q268867), (4, .int g268828), (3, .int 1), (0, .ref q218910), (1, .ref q218911), (2, .int p218912)]) [0, 2, 3, 1, 4, 5, 6] rfl ?_
                                  exact ih131_269744 F269819 z269833 1 (gB_w bz269833 (by decide) (by decide)) (gB_w (gBl (show Int32.toInt 1 = 1 by decide)) (by decide) (by decide)) hT269834 hs269831 (fun i hi hne => (n269821 _ (by rw [hx269811]; exact RS_lne hT269834 ht269779 hi (by omega) (by omega))).trans (x269739 i hi hne)) (fun k hk => by rw [n269821 (γ 9 2) (rn_ty ht269781 ht269810 (by decide))]; exact x269740 k hk) (fun k hk => by unfold lvS; rw [← hx269811, cL_of he269830]; exact cp_st hu269815 hf269822 bg269734'.1 ez269833 (fun k hk => by have q := x269741 k hk; unfold lvS at q; rw [← hx269811, cL_of he269817] at q; exact q) (fun k hk => by have q := x269740 k hk; rw [cL_of he269813] at q; exact q) k hk) (by have gz : (g269734.toNatClampNeg : Int) = g269734.toInt := g_nn bg269734'.1; have hU := lvT_u (γ := γ) (F := F269736) (i := g268828.toInt.toNat) (z := g269734.toNatClampNeg) (by omega) (cl32 bg269734'.1 (by omega)) (fun i hi hne => n269821 _ (by rw [hx269811]; exact RS_lne hT269834 ht269779 hi (by omega) hne)) (by rw [← hx269811]; exact cL_of he269817) (by rw [← hx269811]; exact cL_of he269830) hf269822; have hS := rpop_sub (lv_w (f := f269818) (g := f269814) (A := trS γ el F218909 (decide (p218912.toInt = 1)) q268867 (lvM γ F268830) (γ 2 (γ 14 q268867))) (z := g269734.toNatClampNeg) (cl32 bg269734'.1 (by omega)) (fun k' h1 h2 h3 => by have q := x269741 k' h1; unfold lvS at q; rw [← hx269811, cL_of he269817, if_neg (by omega)] at q; rw [q] at h3; rw [x269743]; exact x268833 _ (by omega) k' ((lvM_e (by omega) h1).trans (by unfold lvS; rw [← hx269811]; exact h3))) (fun k hk => by have q := x269740 k hk; rw [cL_of he269813] at q; exact q)); rw [← hu269815] at hS; have q := x269742; have qb0 : Int32.toInt 0 = 0 := (by decide); have qb1 : Int32.toInt 1 = 1 := (by decide); omega) x269743 kp269832 (by have qa0 : Int32.toInt 1 = 1 := (by decide); omega)
                                · have r269835 : g269735.toInt = 0 := gj_eq hc269756 (show Int32.toInt 0 = 0 by decide)
                                  have bg269735' : gB g269735 0 0 := ⟨by omega, by omega⟩
                                  refine G_aload_n 4 dr_cX17_findLive_142 rfl ?_
                                  have hm269836 : q218910 ∈ P218908 := RS_m hT269737 htq218910 (by decide)
                                  obtain ⟨q269838, q269839, p269840, p269841, p269842, p269843, p269844, p269845, p269846, p269847, p269848, p269849, p269850, p269851, p269852, p269853, p269854, he269837, hB269881, ht269855, ht269856, ht269857, ht269858, ht269859, ht269860, ht269861, ht269862, ht269863, ht269864, ht269865, ht269866, ht269867, ht269868, ht269869, ht269870, ht269871, ht269872, ht269873, ht269874, ht269875, ht269876, ht269877, ht269878, hB269882⟩ := show rk_10 γ (F269736 q218910) from RS_o hT269737 htq218910
                                  refine Gp_get 0 hm269836 he269837 dr_cX17_findLive_143 (gk_X17 D I) (Nat.le_of_ble_eq_true rfl) wr_7_74 rfl ?_
                                  refine G_iload 2 dr_cX17_findLive_146 rfl ?_
                                  have hm269883 : (γ 9 0) ∈ P218908 := RS_m hT269737 ht269857 (by decide)
                                  obtain ⟨f269885, he269884, hg269886⟩ := show rk_12 I γ (F269736 (γ 9 0)) from RS_o hT269737 ht269857
                                  obtain ⟨q269887, hx269889⟩ : ∃ x, x = γ 10 g268828.toInt.toNat := ⟨_, rfl⟩
                                  have ht269888 : rKd γ q269887 11 := by rw [hx269889]; exact (hg269886 _ (show g268828.toInt.toNat < 40 by omega)).2.1
                                  refine Gp_aald 5 hm269883 he269884 dr_cX17_findLive_148 rfl rfl (gB_inr (by omega) (by omega)) ?_
                                  rw [show f269885 g268828.toNatClampNeg = some q269887 from (hg269886 _ (show g268828.toInt.toNat < 40 by omega)).1.trans (by rw [hx269889])]
                                  change G _ _ _ _ _ _ _ (.ref q269887 :: _) _ _ _
                                  refine G_iload 0 dr_cX17_findLive_149 rfl ?_
                                  have hm269890 : q269887 ∈ P218908 := RS_m hT269737 ht269888 (by decide)
                                  obtain ⟨f269892, he269891, wf269892⟩ := show rk_11 I (F269736 q269887) from RS_o hT269737 ht269888
                                  refine Gp_lald 2 hm269890 he269891 dr_cX17_findLive_151 rfl (gB_in bg269734' (by decide) (by decide)) (G_namL fun u269893 hu269893 => ?_)
                                  have qu269893 : lb_Q u269893 (2000 - 64 * g269734.toInt) := lb_Wld hu269893 wf269892 (by omega) (by omega) (lb_Mod0 (by omega) (by omega))
                                  refine G_aload_n 4 dr_cX17_findLive_152 rfl ?_
                                  refine Gp_get 2 hm269836 he269837 dr_cX17_findLive_153 (gk_X17 D I) (Nat.le_of_ble_eq_true rfl) wr_7_76 rfl ?_
                                  refine G_iload 0 dr_cX17_findLive_156 rfl ?_
                                  have hm269894 : (γ 9 2) ∈ P218908 := RS_m hT269737 ht269859 (by decide)
                                  obtain ⟨f269896, he269895, wf269896⟩ := show rk_35 I (F269736 (γ 9 2)) from RS_o hT269737 ht269859
                                  refine Gp_lald 2 hm269894 he269895 dr_cX17_findLive_158 rfl (gB_in bg269734' (by decide) (by decide)) (G_namL fun u269897 hu269897 => ?_)
                                  have qu269897 : lb_Q u269897 (2000 - 64 * g269734.toInt) := lb_Wld hu269897 wf269896 (by omega) (by omega) (lb_Mod0 (by omega) (by omega))
                                  refine G_lcmp dr_cX17_findLive_159 (G_nam fun z269898 hz269898 => ?_)
                                  have bz269898 : gB z269898 (-1) 1 := gB_cmp hz269898
                                  refine G_if_eq 167 dr_cX17_findLive_160 (by decide +kernel) (fun hc269899 => ?_) (fun hc269899 => ?_)
                                  · have r269900 : z269898.toInt = 0 := gj_eq hc269899 (show Int32.toInt 0 = 0 by decide)
                                    have bz269898' : gB z269898 0 0 := ⟨by omega, by omega⟩
                                    have lhc269899 := gC_cmpE hz269898 hc269899
                                    refine G_iconst 0 dr_cX17_findLive_167 (by decide +kernel) ?_
                                    refine G_istore_n (L' := [(3, .int 0), (6, .int g269734), (5, .ref q268867), (4, .int g268828), (0, .ref q218910), (1, .ref q218911), (2, .int p218912)]) dr_cX17_findLive_168 (Nat.le_of_ble_eq_true rfl) rfl ?_
                                    refine G_aload_n 4 dr_cX17_findLive_169 rfl ?_
                                    refine Gp_get 0 hm269836 he269837 dr_cX17_findLive_170 (gk_X17 D I) (Nat.le_of_ble_eq_true rfl) wr_7_74 rfl ?_
                                    refine G_iload 3 dr_cX17_findLive_173 rfl ?_
                                    refine Gp_aald 5 hm269883 he269884 dr_cX17_findLive_175 rfl rfl (gB_inr (by omega) (by omega)) ?_
                                    rw [show f269885 g268828.toNatClampNeg = some q269887 from (hg269886 _ (show g268828.toInt.toNat < 40 by omega)).1.trans (by rw [hx269889])]
                                    change G _ _ _ _ _ _ _ (.ref q269887 :: _) _ _ _
                                    refine G_iload 1 dr_cX17_findLive_176 rfl ?_
                                    refine G_aload_n 4 dr_cX17_findLive_178 rfl ?_
                                    refine Gp_get 2 hm269836 he269837 dr_cX17_findLive_179 (gk_X17 D I) (Nat.le_of_ble_eq_true rfl) wr_7_76 rfl ?_
                                    refine G_iload 1 dr_cX17_findLive_182 rfl ?_
                                    refine Gp_lald 2 hm269894 he269895 dr_cX17_findLive_184 rfl (gB_in bg269734' (by decide) (by decide)) (G_eql (y := u269897) hu269897.symm ?_)
                                    refine Gp_last 2 hm269890 he269891 dr_cX17_findLive_185 rfl (gB_in bg269734' (by decide) (by decide)) (fun F269901 e269902 n269903 => ?_)
                                    obtain ⟨f269904, hf269904⟩ : ∃ z, z = vp_updL f269892 g269734.toNatClampNeg u269897 := ⟨_, rfl⟩
                                    rw [← hf269904] at e269902
                                    have he269905 : F269901 q218911 = .inr (18, [.ref q265110, .ref q265111, .int p265112, .int p265113]) := (n269903 q218911 (rn_oa he269747 he269891)).trans he269747
                                    have he269906 : F269901 q265110 = .inr (4, [.int p268848, .ref q268850, .int p268849]) := (n269903 q265110 (rn_oa he269748 he269891)).trans he269748
                                    have he269907 : F269901 q268850 = .inl (I (.object "java/lang/Object"), n268864, .inr (.inr (.inr (.inr f268865)))) := (n269903 q268850 (rn_ref_long he269749 he269891)).trans he269749
                                    have he269908 : F269901 q268867 = .inr (17, [.ref q268876, .ref q268877, .int p268878, .int p268879]) := (n269903 q268867 (rn_oa he269750 he269891)).trans he269750
                                    have he269909 : F269901 q218910 = .inr (22, [.ref (γ 9 0), .ref (γ 9 1), .ref (γ 9 2), .ref (γ 9 3), .ref (γ 9 4), .ref (γ 9 5), .ref (γ 9 6), .ref (γ 9 7), .ref (γ 9 8), .int p269840, .int p269841, .int p269842, .int p269843, .int p269844, .int p269845, .ref (γ 9 15), .ref (γ 9 16), .ref (γ 9 17), .ref (γ 9 18), .ref (γ 9 19), .ref (γ 9 20), .ref (γ 9 21), .ref (γ 9 22), .int p269846, .int p269847, .int p269848, .int p269849, .int p269850, .ref q269838, .ref (γ 9 29), .int p269851, .ref (γ 9 31), .int p269852, .int p269853, .int p269854, .ref q269839]) := (n269903 q218910 (rn_oa he269837 he269891)).trans he269837
                                    have he269910 : F269901 (γ 9 0) = .inl (I (.array .long), 40, .inr (.inr (.inr (.inr f269885)))) := (n269903 (γ 9 0) (rn_ref_long he269884 he269891)).trans he269884
                                    have he269911 : F269901 (γ 9 2) = .inl (I .long, 32, .inr (.inl f269896)) := (n269903 (γ 9 2) (rn_ty ht269859 ht269888 (by decide))).trans he269895
                                    have he269912 : F269901 q269887 = .inl (I .long, 32, .inr (.inl f269904)) := e269902
                                    have hs269913 : rStr γ [] F218909 F269901 := rStr_put hs269738 n269903 ht269888 (by decide)
                                    have kp269914 : F269901 q218910 = F218909 q218910 := (n269903 q218910 (rn_ty htq218910 ht269888 (by decide))).trans x269744
                                    have wf269904 : lb_W f269904 (32) (32) (2000) := lb_Wst hf269904 wf269892 (by omega) (lb_Mod0 (by omega) (by omega)) qu269897
                                    obtain ⟨z269915, hz269915⟩ : ∃ z : Int32, z = g269734 + Int32.ofInt 1 := ⟨_, rfl⟩
                                    have ez269915 : z269915.toInt = g269734.toInt + 1 := gI_inc hz269915 (by decide) bg269734' (by decide) (by decide)
                                    have bz269915 : gB z269915 1 32 := ⟨by omega, by omega⟩
                                    refine G_iinc (L' := [(6, .int z269915), (3, .int 0), (5, .ref q268867), (4, .int g268828), (0, .ref q218910), (1, .ref q218911), (2, .int p218912)]) z269915 1 dr_cX17_findLive_186 rfl hz269915.symm (Nat.le_of_ble_eq_true rfl) rfl ?_
                                    refine G_goto 131 dr_cX17_findLive_189 (by decide +kernel) ?_
                                    have hT269916 : RS D I P218908 F269901 γ el := RS_set hT269737 n269903 ht269888 (by decide) ⟨f269904, he269912, wf269904⟩
                                    refine G_lv (L' := [(6, .int z269915), (5, .ref q268867), (4, .int g268828), (3, .int 0), (0, .ref q218910), (1, .ref q218911), (2, .int p218912)]) [0, 2, 3, 1, 4, 5, 6] rfl ?_
                                    exact ih131_269744 F269901 z269915 0 (gB_w bz269915 (by decide) (by decide)) (gB_w (gBl (show Int32.toInt 0 = 0 by decide)) (by decide) (by decide)) hT269916 hs269913 (fun i hi hne => (n269903 _ (by rw [hx269889]; exact RS_lne hT269916 ht269857 hi (by omega) (by omega))).trans (x269739 i hi hne)) (fun k hk => by rw [n269903 (γ 9 2) (rn_ty ht269859 ht269888 (by decide))]; exact x269740 k hk) (fun k hk => by unfold lvS; rw [← hx269889, cL_of he269912]; exact cp_st hu269897 hf269904 bg269734'.1 ez269915 (fun k hk => by have q := x269741 k hk; unfold lvS at q; rw [← hx269889, cL_of he269891] at q; exact q) (fun k hk => by have q := x269740 k hk; rw [cL_of he269895] at q; exact q) k hk) (by have gz : (g269734.toNatClampNeg : Int) = g269734.toInt := g_nn bg269734'.1; have hU := lvT_u (γ := γ) (F := F269736) (i := g268828.toInt.toNat) (z := g269734.toNatClampNeg) (by omega) (cl32 bg269734'.1 (by omega)) (fun i hi hne => n269903 _ (by rw [hx269889]; exact RS_lne hT269916 ht269857 hi (by omega) hne)) (by rw [← hx269889]; exact cL_of he269891) (by rw [← hx269889]; exact cL_of he269912) hf269904; have hS := rpop_sub (lv_w (f := f269892) (g := f269896) (A := trS γ el F218909 (decide (p218912.toInt = 1)) q268867 (lvM γ F268830) (γ 2 (γ 14 q268867))) (z := g269734.toNatClampNeg) (cl32 bg269734'.1 (by omega)) (fun k' h1 h2 h3 => by have q := x269741 k' h1; unfold lvS at q; rw [← hx269889, cL_of he269891, if_neg (by omega)] at q; rw [q] at h3; rw [x269743]; exact x268833 _ (by omega) k' ((lvM_e (by omega) h1).trans (by unfold lvS; rw [← hx269889]; exact h3))) (fun k hk => by have q := x269740 k hk; rw [cL_of he269895] at q; exact q)); rw [← hu269897] at hS; have q := x269742; have qb0 : Int32.toInt 0 = 0 := (by decide); have qb1 : Int32.toInt 1 = 1 := (by decide); omega) x269743 kp269914 (by have qa0 : Int32.toInt 0 = 0 := (by decide); omega)
                                  · have r269917 : z269898.toInt ≠ 0 := gj_neq hc269899 (show Int32.toInt 0 = 0 by decide)
                                    have lhc269899 := gC_cmpN hz269898 hc269899
                                    refine G_iconst 1 dr_cX17_findLive_163 (by decide +kernel) ?_
                                    refine G_goto 168 dr_cX17_findLive_164 (by decide +kernel) ?_
                                    refine G_istore_n (L' := [(3, .int 1), (6, .int g269734), (5, .ref q268867), (4, .int g268828), (0, .ref q218910), (1, .ref q218911), (2, .int p218912)]) dr_cX17_findLive_168 (Nat.le_of_ble_eq_true rfl) rfl ?_
                                    refine G_aload_n 4 dr_cX17_findLive_169 rfl ?_
                                    refine Gp_get 0 hm269836 he269837 dr_cX17_findLive_170 (gk_X17 D I) (Nat.le_of_ble_eq_true rfl) wr_7_74 rfl ?_
                                    refine G_iload 3 dr_cX17_findLive_173 rfl ?_
                                    refine Gp_aald 5 hm269883 he269884 dr_cX17_findLive_175 rfl rfl (gB_inr (by omega) (by omega)) ?_
                                    rw [show f269885 g268828.toNatClampNeg = some q269887 from (hg269886 _ (show g268828.toInt.toNat < 40 by omega)).1.trans (by rw [hx269889])]
                                    change G _ _ _ _ _ _ _ (.ref q269887 :: _) _ _ _
                                    refine G_iload 1 dr_cX17_findLive_176 rfl ?_
                                    refine G_aload_n 4 dr_cX17_findLive_178 rfl ?_
                                    refine Gp_get 2 hm269836 he269837 dr_cX17_findLive_179 (gk_X17 D I) (Nat.le_of_ble_eq_true rfl) wr_7_76 rfl ?_
                                    refine G_iload 1 dr_cX17_findLive_182 rfl ?_
                                    refine Gp_lald 2 hm269894 he269895 dr_cX17_findLive_184 rfl (gB_in bg269734' (by decide) (by decide)) (G_eql (y := u269897) hu269897.symm ?_)
                                    refine Gp_last 2 hm269890 he269891 dr_cX17_findLive_185 rfl (gB_in bg269734' (by decide) (by decide)) (fun F269918 e269919 n269920 => ?_)
                                    obtain ⟨f269921, hf269921⟩ : ∃ z, z = vp_updL f269892 g269734.toNatClampNeg u269897 := ⟨_, rfl⟩
                                    rw [← hf269921] at e269919
                                    have he269922 : F269918 q218911 = .inr (18, [.ref q265110, .ref q265111, .int p265112, .int p265113]) := (n269920 q218911 (rn_oa he269747 he269891)).trans he269747
                                    have he269923 : F269918 q265110 = .inr (4, [.int p268848, .ref q268850, .int p268849]) := (n269920 q265110 (rn_oa he269748 he269891)).trans he269748
                                    have he269924 : F269918 q268850 = .inl (I (.object "java/lang/Object"), n268864, .inr (.inr (.inr (.inr f268865)))) := (n269920 q268850 (rn_ref_long he269749 he269891)).trans he269749
                                    have he269925 : F269918 q268867 = .inr (17, [.ref q268876, .ref q268877, .int p268878, .int p268879]) := (n269920 q268867 (rn_oa he269750 he269891)).trans he269750
                                    have he269926 : F269918 q218910 = .inr (22, [.ref (γ 9 0), .ref (γ 9 1), .ref (γ 9 2), .ref (γ 9 3), .ref (γ 9 4), .ref (γ 9 5), .ref (γ 9 6), .ref (γ 9 7), .ref (γ 9 8), .int p269840, .int p269841, .int p269842, .int p269843, .int p269844, .int p269845, .ref (γ 9 15), .ref (γ 9 16), .ref (γ 9 17), .ref (γ 9 18), .ref (γ 9 19), .ref (γ 9 20), .ref (γ 9 21), .ref (γ 9 22), .int p269846, .int p269847, .int p269848, .int p269849, .int p269850, .ref q269838, .ref (γ 9 29), .int p269851, .ref (γ 9 31), .int p269852, .int p269853, .int p269854, .ref q269839]) := (n269920 q218910 (rn_oa he269837 he269891)).trans he269837
                                    have he269927 : F269918 (γ 9 0) = .inl (I (.array .long), 40, .inr (.inr (.inr (.inr f269885)))) := (n269920 (γ 9 0) (rn_ref_long he269884 he269891)).trans he269884
                                    have he269928 : F269918 (γ 9 2) = .inl (I .long, 32, .inr (.inl f269896)) := (n269920 (γ 9 2) (rn_ty ht269859 ht269888 (by decide))).trans he269895
                                    have he269929 : F269918 q269887 = .inl (I .long, 32, .inr (.inl f269921)) := e269919
                                    have hs269930 : rStr γ [] F218909 F269918 := rStr_put hs269738 n269920 ht269888 (by decide)
                                    have kp269931 : F269918 q218910 = F218909 q218910 := (n269920 q218910 (rn_ty htq218910 ht269888 (by decide))).trans x269744
                                    have wf269921 : lb_W f269921 (32) (32) (2000) := lb_Wst hf269921 wf269892 (by omega) (lb_Mod0 (by omega) (by omega)) qu269897
                                    obtain ⟨z269932, hz269932⟩ : ∃ z : Int32, z = g269734 + Int32.ofInt 1 := ⟨_, rfl⟩
                                    have ez269932 : z269932.toInt = g269734.toInt + 1 := gI_inc hz269932 (by decide) bg269734' (by decide) (by decide)
                                    have bz269932 : gB z269932 1 32 := ⟨by omega, by omega⟩
                                    refine G_iinc (L' := [(6, .int z269932), (3, .int 1), (5, .ref q268867), (4, .int g268828), (0, .ref q218910), (1, .ref q218911), (2, .int p218912)]) z269932 1 dr_cX17_findLive_186 rfl hz269932.symm (Nat.le_of_ble_eq_true rfl) rfl ?_
                                    refine G_goto 131 dr_cX17_findLive_189 (by decide +kernel) ?_
                                    have hT269933 : RS D I P218908 F269918 γ el := RS_set hT269737 n269920 ht269888 (by decide) ⟨f269921, he269929, wf269921⟩
                                    refine G_lv (L' := [(6, .int z269932), (5, .ref q268867), (4, .int g268828), (3, .int 1), (0, .ref q218910), (1, .ref q218911), (2, .int p218912)]) [0, 2, 3, 1, 4, 5, 6] rfl ?_
                                    exact ih131_269744 F269918 z269932 1 (gB_w bz269932 (by decide) (by decide)) (gB_w (gBl (show Int32.toInt 1 = 1 by decide)) (by decide) (by decide)) hT269933 hs269930 (fun i hi hne => (n269920 _ (by rw [hx269889]; exact RS_lne hT269933 ht269857 hi (by omega) (by omega))).trans (x269739 i hi hne)) (fun k hk => by rw [n269920 (γ 9 2) (rn_ty ht269859 ht269888 (by decide))]; exact x269740 k hk) (fun k hk => by unfold lvS; rw [← hx269889, cL_of he269929]; exact cp_st hu269897 hf269921 bg269734'.1 ez269932 (fun k hk => by have q := x269741 k hk; unfold lvS at q; rw [← hx269889, cL_of he269891] at q; exact q) (fun k hk => by have q := x269740 k hk; rw [cL_of he269895] at q; exact q) k hk) (by have gz : (g269734.toNatClampNeg : Int) = g269734.toInt := g_nn bg269734'.1; have hU := lvT_u (γ := γ) (F := F269736) (i := g268828.toInt.toNat) (z := g269734.toNatClampNeg) (by omega) (cl32 bg269734'.1 (by omega)) (fun i hi hne => n269920 _ (by rw [hx269889]; exact RS_lne hT269933 ht269857 hi (by omega) hne)) (by rw [← hx269889]; exact cL_of he269891) (by rw [← hx269889]; exact cL_of he269929) hf269921; have hS := rpop_slt (lv_w (f := f269892) (g := f269896) (A := trS γ el F218909 (decide (p218912.toInt = 1)) q268867 (lvM γ F268830) (γ 2 (γ 14 q268867))) (z := g269734.toNatClampNeg) (cl32 bg269734'.1 (by omega)) (fun k' h1 h2 h3 => by have q := x269741 k' h1; unfold lvS at q; rw [← hx269889, cL_of he269891, if_neg (by omega)] at q; rw [q] at h3; rw [x269743]; exact x268833 _ (by omega) k' ((lvM_e (by omega) h1).trans (by unfold lvS; rw [← hx269889]; exact h3))) (fun k hk => by have q := x269740 k hk; rw [cL_of he269895] at q; exact q)) (fun e => lc_ne hz269898 (by omega) (hu269893.trans (e.trans hu269897.symm))); rw [← hu269897] at hS; have q := x269742; have qb0 : Int32.toInt 0 = 0 := (by decide); have qb1 : Int32.toInt 1 = 1 := (by decide); omega) x269743 kp269931 (by have qa0 : Int32.toInt 1 = 1 := (by decide); omega)
                          exact hlp131_269744 (((33 : Int) - 0).toNat + 1) F269523 0 g268829 (gB_w (gBl (show Int32.toInt 0 = 0 by decide)) (by decide) (by decide)) bg268829 hT269524 hs269525 (fun i hi _ => x269526 i hi) (fun k hk => by have q := x269527 k hk; rw [show ((((γ 2 (γ 14 q268867) : Nat) : Int) - 1 - g269522.toInt).toNat) = γ 2 (γ 14 q268867) by omega] at q; exact q) (fun k hk => by rw [if_neg (by have qa : Int32.toInt 0 = 0 := (by decide); omega)]; exact lvS_l x269526 (by omega)) (by have q := lvT_l x269526; have q2 := x268834; omega) x269529 x269530 (Nat.lt_succ_self _)
                        · have r269934 : 0 ≤ g269522.toInt := gj_nlt hc269539 (show Int32.toInt 0 = 0 by decide)
                          have bg269522' : gB g269522 0 999999 := ⟨by omega, by omega⟩
                          refine G_aload_n 4 dr_cX17_findLive_104 rfl ?_
                          refine G_aload 1 dr_cX17_findLive_105 rfl ?_
                          refine Gp_get 0 hm268874 he269536 dr_cX17_findLive_107 (gk_X12 D I) (Nat.le_of_ble_eq_true rfl) wr_9_220 rfl ?_
                          refine G_iload 0 dr_cX17_findLive_110 rfl ?_
                          have hm269935 : q268876 ∈ P218908 := RS_m hT269524 ht268880 (by decide)
                          obtain ⟨⟨p269937, p269938, q269939, he269936, r269940, r269941, r269942, r269944⟩, r269943⟩ := show rk_3 D I γ el F269523 q268876 from RS_o hT269524 ht268880
                          have bp269937 := gB_any p269937
                          have bp269938 : gB p269938 0 1000000 := ⟨by omega, by omega⟩
                          obtain ⟨r269945, r269946, n269953, f269954, r269947, r269948, r269949, r269950, r269951, r269952⟩ := rLC_n r269942 (by omega)
                          have hm269955 : q269939 ∈ P218908 := RS_m hT269524 r269945 (by decide)
                          obtain ⟨q269956, hx269957⟩ : ∃ x, x = el q268876 g269522.toInt.toNat := ⟨_, rfl⟩
                          have hx269958 : f269954 g269522.toNatClampNeg = some q269956 := (r269951 _ (show g269522.toInt.toNat < γ 2 q268876 by omega)).trans (by rw [hx269957])
                          have ht269959 : rKd γ q269956 1 := by rw [hx269957]; exact (r269943 _ (show g269522.toInt.toNat < γ 2 q268876 by omega)).1
                          have ht269960 : rFm γ q269956 q268876 := by rw [hx269957]; exact (r269943 _ (show g269522.toInt.toNat < γ 2 q268876 by omega)).2.1
                          refine Gw_callV (As := [.int g269522]) (gV_ok D I) (cp_22_ArrayList_get l hl0 D I P218908 F269523 q268876 q269939 g269522 p269937 p269938 f269954 n269953 q269956 hm269935 hm269955 he269936 r269947 (gB_w bg269522' (by decide) (by decide)) (gB_w bp269938 (by decide) (by decide)) (by omega) (by omega) (by assumption) (by omega)) dr_cX17_findLive_112 ⟨wr_10_201, wr_1_18, wr_10_65, by decide, rfl, (Nat.le_of_ble_eq_true rfl), (Nat.le_of_ble_eq_true rfl)⟩ wr_10_63 wr_10_64 hm269935 he269936 rfl (show 0 + 0 ≤ 0 by first | omega | decide) (show 0 + 0 ≤ 0 by first | omega | decide) (Nat.le_of_ble_eq_true rfl) (fun r269964 w269965 dc269961 ds269962 hp269963 => ?_) (fun _ _ _ _ _ z => z.elim)
                          obtain ⟨rfl, rfl, hdc, hds⟩ := hp269963
                          change G _ _ _ _ _ _ _ (.ref q269956 :: _) _ _ _
                          refine G_widen (cs' := 0) (sl' := 0) (by omega) (by omega) ?_
                          have hm269966 : q269956 ∈ P218908 := RS_m hT269524 ht269959 (by decide)
                          obtain ⟨p269968, p269969, p269970, p269971, p269972, p269973, p269974, he269967, bp269968, bp269969, bp269972, bp269973, bp269974, r269975, r269976, r269977, r269978, r269979⟩ := show rk_1 γ q269956 (F269523 q269956) from RS_o hT269524 ht269959
                          have bp269970 := gB_any p269970
                          have bp269971 := gB_any p269971
                          refine Gp_cast hm269966 he269967 rfl dr_cX17_findLive_115 wr_10_202 (gr_cast 1 rfl) ?_
                          refine G_iload_n 6 dr_cX17_findLive_118 rfl ?_
                          have fl269980 : F269523 q269956 = F218909 (el (γ 14 q268867) (γ 2 (γ 14 q268867) - 1 - ((((γ 2 (γ 14 q268867) : Nat) : Int) - 1 - g269522.toInt).toNat))) := by rw [show γ 2 (γ 14 q268867) - 1 - ((((γ 2 (γ 14 q268867) : Nat) : Int) - 1 - g269522.toInt).toNat) = g269522.toInt.toNat by omega, ht268886.1, ← hx269957]; exact hs269525 q269956 (rT0 ht269959 (by decide)) (rT1 ht269959 (by decide)) (rT2 ht269959 (by decide))
                          have hm269986 : q218910 ∈ P218908 := RS_m hT269524 htq218910 (by decide)
                          obtain ⟨q269988, q269989, p269990, p269991, p269992, p269993, p269994, p269995, p269996, p269997, p269998, p269999, p270000, p270001, p270002, p270003, p270004, he269987, hB270031, ht270005, ht270006, ht270007, ht270008, ht270009, ht270010, ht270011, ht270012, ht270013, ht270014, ht270015, ht270016, ht270017, ht270018, ht270019, ht270020, ht270021, ht270022, ht270023, ht270024, ht270025, ht270026, ht270027, ht270028, hB270032⟩ := show rk_10 γ (F269523 q218910) from RS_o hT269524 htq218910
                          refine Gw_callV (As := [.ref q269956, .int p218912]) (gV_ok D I) (ct_215576_SpillForgeModel_back l hl0 D I γ el P218908 F269523 q218910 q269956 p218912 hT269524 htq218910 ht269959 bp218912) dr_cX17_findLive_119 ⟨wr_10_174, wr_1_14, wr_10_177, by decide, rfl, (Nat.le_of_ble_eq_true rfl), (Nat.le_of_ble_eq_true rfl)⟩ wr_10_176 wr_p_96 hm269986 he269987 rfl (show 0 + 0 ≤ 0 by first | omega | decide) (show 0 + 0 ≤ 0 by first | omega | decide) (Nat.le_of_ble_eq_true rfl) (fun r269984 w269985 dc269981 ds269982 hp269983 => ?_) (fun _ _ _ _ _ z => z.elim)
                          obtain ⟨F270036, rfl, rfl, hT270037, hs270038, hdc, hds, x270033, x270034, x270035⟩ := hp269983
                          have he270039 : F270036 q218911 = .inr (18, [.ref q265110, .ref q265111, .int p265112, .int p265113]) := (hs270038 q218911 (rT0 htq218911 (by decide)) (rT1 htq218911 (by decide)) (rT2 htq218911 (by decide))).trans he269533
                          have he270040 : F270036 q265110 = .inr (4, [.int p268848, .ref q268850, .int p268849]) := (hs270038 q265110 (rT0 ht265114 (by decide)) (rT1 ht265114 (by decide)) (rT2 ht265114 (by decide))).trans he269534
                          have he270041 : F270036 q268850 = .inl (I (.object "java/lang/Object"), n268864, .inr (.inr (.inr (.inr f268865)))) := (hs270038 q268850 (rT0 r268856 (by decide)) (rT1 r268856 (by decide)) (rT2 r268856 (by decide))).trans he269535
                          have he270042 : F270036 q268867 = .inr (17, [.ref q268876, .ref q268877, .int p268878, .int p268879]) := (hs270038 q268867 (rT0 ht268872 (by decide)) (rT1 ht268872 (by decide)) (rT2 ht268872 (by decide))).trans he269536
                          have he270043 : F270036 q268876 = .inr (4, [.int p269937, .ref q269939, .int p269938]) := (hs270038 q268876 (rT0 ht268880 (by decide)) (rT1 ht268880 (by decide)) (rT2 ht268880 (by decide))).trans he269936
                          have he270044 : F270036 q269939 = .inl (I (.object "java/lang/Object"), n269953, .inr (.inr (.inr (.inr f269954)))) := (hs270038 q269939 (rT0 r269945 (by decide)) (rT1 r269945 (by decide)) (rT2 r269945 (by decide))).trans r269947
                          have he270045 : F270036 q269956 = .inr (20, [.int p269968, .int p269969, .int p269970, .int p269971, .int p269972, .int p269973, .int p269974]) := (hs270038 q269956 (rT0 ht269959 (by decide)) (rT1 ht269959 (by decide)) (rT2 ht269959 (by decide))).trans he269967
                          have hs270046 : rStr γ [] F218909 F270036 := rStr_tr hs269525 hs270038
                          have kp270047 : F270036 q218910 = F218909 q218910 := (x270035).trans x269530
                          have he270048 : F270036 q218910 = .inr (22, [.ref (γ 9 0), .ref (γ 9 1), .ref (γ 9 2), .ref (γ 9 3), .ref (γ 9 4), .ref (γ 9 5), .ref (γ 9 6), .ref (γ 9 7), .ref (γ 9 8), .int p269990, .int p269991, .int p269992, .int p269993, .int p269994, .int p269995, .ref (γ 9 15), .ref (γ 9 16), .ref (γ 9 17), .ref (γ 9 18), .ref (γ 9 19), .ref (γ 9 20), .ref (γ 9 21), .ref (γ 9 22), .int p269996, .int p269997, .int p269998, .int p269999, .int p270000, .ref q269988, .ref (γ 9 29), .int p270001, .ref (γ 9 31), .int p270002, .int p270003, .int p270004, .ref q269989]) := (x270035).trans he269987
                          change G _ _ _ _ _ _ _ _ _ _ _
                          refine G_widen (cs' := 0) (sl' := 0) (by omega) (by omega) ?_
                          obtain ⟨z270049, hz270049⟩ : ∃ z : Int32, z = g269522 + Int32.ofInt (-1) := ⟨_, rfl⟩
                          have ez270049 : z270049.toInt = g269522.toInt + (-1) := gI_inc hz270049 (by decide) bg269522' (by decide) (by decide)
                          have bz270049 : gB z270049 (-1) 999998 := ⟨by omega, by omega⟩
                          refine G_iinc (L' := [(6, .int z270049), (5, .ref q268867), (4, .int g268828), (3, .int g268829), (0, .ref q218910), (1, .ref q218911), (2, .int p218912)]) z270049 0 dr_cX17_findLive_122 rfl hz270049.symm (Nat.le_of_ble_eq_true rfl) rfl ?_
                          refine G_goto 99 dr_cX17_findLive_125 (by decide +kernel) ?_
                          exact ih99_269530 F270036 z270049 (gB_w bz270049 (by decide) (by decide)) hT270037 hs270046 (rLv_tr x269526 x270034) (by rw [show ((((γ 2 (γ 14 q268867) : Nat) : Int) - 1 - z270049.toInt).toNat) = ((((γ 2 (γ 14 q268867) : Nat) : Int) - 1 - g269522.toInt).toNat) + 1 by omega]; exact tr_b x269527 fl269980 x270033) (by omega) x269529 kp270047 (by omega)
                    exact hlp99_269530 (((z268999.toInt : Int) - (-2)).toNat + 1) F268974 z268999 bz268999 hT268975 hs268981 (rLv_tr x268953 x268972) (by rw [show ((((γ 2 (γ 14 q268867) : Nat) : Int) - 1 - z268999.toInt).toNat) = 0 by omega]; exact tr_0 (fun k hk => by have q := x268952 k hk; rw [ht268886.2.1, fl268895, fl268894] at q; rw [q, ht268886.2.1]; exact bhV_c ⟨by omega, by omega⟩ ⟨by omega, by omega⟩ (fun i hi => (lvM_e hi hk).symm)) fl268965 x268971) (by omega) fl268899 kp268982 (Nat.lt_succ_self _)
              exact hlp58_268836 (((z267610.toInt : Int) - (-2)).toNat + 1) F267593 z267610 0 bz267610 (gB_w (gBl (show Int32.toInt 0 = 0 by decide)) (by decide) (by decide)) hT267594 hs267595 x267596 (by have qa : Int32.toInt 0 = 0 := (by decide); rw [qa]; exact Nat.le_refl _) (by have qa0 : Int32.toInt 0 = 0 := (by decide); omega) x267597 (Nat.lt_succ_self _)
        exact hlp44_267597 (((81920 - lvT γ F265100) + (1 : Int).toNat) + 1) F265100 1 (gB_w (gBl (show Int32.toInt 1 = 1 by decide)) (by decide) (by decide)) hT265101 hs265102 (rJv_0 (fun i hi j hj => x265103 i (by omega) j hj)) x265104 (Nat.lt_succ_self _)
      · have r270050 : g265099.toInt < p265113.toInt := gC_nle hc265135
        have bg265099' : gB g265099 0 999999 := ⟨by omega, by omega⟩
        have bp265113' : gB p265113 1 1000000 := ⟨by omega, by omega⟩
        refine G_iconst 0 dr_cX17_findLive_10 (by decide +kernel) ?_
        refine G_istore (L' := [(4, .int 0), (3, .int g265099), (0, .ref q218910), (1, .ref q218911), (2, .int p218912)]) dr_cX17_findLive_11 (Nat.le_of_ble_eq_true rfl) rfl ?_
        have hlp13_270137 : ∀ (n13_270137 : Nat) (F270132 : Nat → va_E) (g270131 : Int32), gB g270131 0 32 → RS D I P218908 F270132 γ el → rStr γ [] F218909 F270132 → (∀ i : Nat, (i : Int) < g265099.toInt → ∀ j : Nat, j < 32 → cL (F270132 (γ 10 i)) j = 0) → (∀ j : Nat, (j : Int) < g270131.toInt → cL (F270132 (γ 10 (g265099.toInt : Int).toNat)) j = 0) → (F270132 q218910 = F218909 q218910) → ((33 : Int) - g270131.toInt).toNat < n13_270137 → G (gV D I) l (gRm 4 85 0 0) (gMA (gV D I) (pt_218914_SpillForgeModel_findLive D I γ el P218908 F218909 q218910 q218911 p218912) gNA 0 0) ky_218914_SpillForgeModel_findLive 13 [(4, .int g270131), (3, .int g265099), (0, .ref q218910), (1, .ref q218911), (2, .int p218912)] [] (va_pl P218908 F270132) 0 0 := by
          intro n13_270137
          induction n13_270137 with
          | zero => intro F270132 g270131 bg270131 hT270133 hs270134 x270135 x270136 x270137 hm13_270137; exact absurd hm13_270137 (Nat.not_lt_zero _)
          | succ n13_270137 ih13_270137 =>
            intro F270132 g270131 bg270131 hT270133 hs270134 x270135 x270136 x270137 hm13_270137
            have hs270139 : rStr γ [] F265100 F270132 := fun b h0 hb hw => (hs270134 b h0 hb hw).trans (hs265102 b h0 hb hw).symm
            have he270140 : F270132 q218911 = .inr (18, [.ref q265110, .ref q265111, .int p265112, .int p265113]) := (hs270139 q218911 (rT0 htq218911 (by decide)) (rT1 htq218911 (by decide)) (rT2 htq218911 (by decide))).trans he265109
            have hs270141 : rStr γ [] F218909 F270132 := rStr_tr hs265102 hs270139
            refine G_iload 0 dr_cX17_findLive_13 rfl ?_
            refine G_bipush 32 dr_cX17_findLive_15 (by decide +kernel) ?_
            refine G_icmp_ge 36 dr_cX17_findLive_17 (by decide +kernel) (fun hc270142 => ?_) (fun hc270142 => ?_)
            · have r270143 : 32 ≤ g270131.toInt := gj_leL hc270142 (show Int32.toInt 32 = 32 by decide)
              have bg270131' : gB g270131 32 32 := ⟨by omega, by omega⟩
              obtain ⟨z270144, hz270144⟩ : ∃ z : Int32, z = g265099 + Int32.ofInt 1 := ⟨_, rfl⟩
              have ez270144 : z270144.toInt = g265099.toInt + 1 := gI_inc hz270144 (by decide) bg265099' (by decide) (by decide)
              have bz270144 : gB z270144 1 1000000 := ⟨by omega, by omega⟩
              refine G_iinc (L' := [(3, .int z270144), (4, .int g270131), (0, .ref q218910), (1, .ref q218911), (2, .int p218912)]) z270144 1 dr_cX17_findLive_36 rfl hz270144.symm (Nat.le_of_ble_eq_true rfl) rfl ?_
              refine G_goto 2 dr_cX17_findLive_39 (by decide +kernel) ?_
              refine G_lv (L' := [(3, .int z270144), (0, .ref q218910), (1, .ref q218911), (2, .int p218912)]) [0, 2, 3, 4] rfl ?_
              exact ih2_265104 F270132 z270144 (gB_w bz270144 (by decide) (by decide)) hT270133 hs270134 (zl_s x270135 x270136 (by omega) ez270144 bg265099'.1) x270137 (by omega)
            · have r270145 : g270131.toInt < 32 := gj_nleL hc270142 (show Int32.toInt 32 = 32 by decide)
              have bg270131' : gB g270131 0 31 := ⟨by omega, by omega⟩
              refine G_aload_n 2 dr_cX17_findLive_20 rfl ?_
              have hm270146 : q218910 ∈ P218908 := RS_m hT270133 htq218910 (by decide)
              obtain ⟨q270148, q270149, p270150, p270151, p270152, p270153, p270154, p270155, p270156, p270157, p270158, p270159, p270160, p270161, p270162, p270163, p270164, he270147, hB270191, ht270165, ht270166, ht270167, ht270168, ht270169, ht270170, ht270171, ht270172, ht270173, ht270174, ht270175, ht270176, ht270177, ht270178, ht270179, ht270180, ht270181, ht270182, ht270183, ht270184, ht270185, ht270186, ht270187, ht270188, hB270192⟩ := show rk_10 γ (F270132 q218910) from RS_o hT270133 htq218910
              refine Gp_get 0 hm270146 he270147 dr_cX17_findLive_21 (gk_X17 D I) (Nat.le_of_ble_eq_true rfl) wr_7_74 rfl ?_
              refine G_iload_n 1 dr_cX17_findLive_24 rfl ?_
              have hm270193 : (γ 9 0) ∈ P218908 := RS_m hT270133 ht270167 (by decide)
              obtain ⟨f270195, he270194, hg270196⟩ := show rk_12 I γ (F270132 (γ 9 0)) from RS_o hT270133 ht270167
              obtain ⟨q270197, hx270199⟩ : ∃ x, x = γ 10 g265099.toInt.toNat := ⟨_, rfl⟩
              have ht270198 : rKd γ q270197 11 := by rw [hx270199]; exact (hg270196 _ (show g265099.toInt.toNat < 40 by omega)).2.1
              refine Gp_aald 5 hm270193 he270194 dr_cX17_findLive_25 rfl rfl (gB_inr (by omega) (by omega)) ?_
              rw [show f270195 g265099.toNatClampNeg = some q270197 from (hg270196 _ (show g265099.toInt.toNat < 40 by omega)).1.trans (by rw [hx270199])]
              change G _ _ _ _ _ _ _ (.ref q270197 :: _) _ _ _
              refine G_iload 0 dr_cX17_findLive_26 rfl ?_
              refine G_lconst 0 dr_cX17_findLive_28 rfl ?_
              have hm270200 : q270197 ∈ P218908 := RS_m hT270133 ht270198 (by decide)
              obtain ⟨f270202, he270201, wf270202⟩ := show rk_11 I (F270132 q270197) from RS_o hT270133 ht270198
              refine Gp_last 2 hm270200 he270201 dr_cX17_findLive_29 rfl (gB_in bg270131' (by decide) (by decide)) (fun F270203 e270204 n270205 => ?_)
              obtain ⟨f270206, hf270206⟩ : ∃ z, z = vp_updL f270202 g270131.toNatClampNeg 0 := ⟨_, rfl⟩
              rw [← hf270206] at e270204
              have he270207 : F270203 q218911 = .inr (18, [.ref q265110, .ref q265111, .int p265112, .int p265113]) := (n270205 q218911 (rn_oa he270140 he270201)).trans he270140
              have he270208 : F270203 q218910 = .inr (22, [.ref (γ 9 0), .ref (γ 9 1), .ref (γ 9 2), .ref (γ 9 3), .ref (γ 9 4), .ref (γ 9 5), .ref (γ 9 6), .ref (γ 9 7), .ref (γ 9 8), .int p270150, .int p270151, .int p270152, .int p270153, .int p270154, .int p270155, .ref (γ 9 15), .ref (γ 9 16), .ref (γ 9 17), .ref (γ 9 18), .ref (γ 9 19), .ref (γ 9 20), .ref (γ 9 21), .ref (γ 9 22), .int p270156, .int p270157, .int p270158, .int p270159, .int p270160, .ref q270148, .ref (γ 9 29), .int p270161, .ref (γ 9 31), .int p270162, .int p270163, .int p270164, .ref q270149]) := (n270205 q218910 (rn_oa he270147 he270201)).trans he270147
              have he270209 : F270203 (γ 9 0) = .inl (I (.array .long), 40, .inr (.inr (.inr (.inr f270195)))) := (n270205 (γ 9 0) (rn_ref_long he270194 he270201)).trans he270194
              have he270210 : F270203 q270197 = .inl (I .long, 32, .inr (.inl f270206)) := e270204
              have hs270211 : rStr γ [] F218909 F270203 := rStr_put hs270134 n270205 ht270198 (by decide)
              have kp270212 : F270203 q218910 = F218909 q218910 := (n270205 q218910 (rn_ty htq218910 ht270198 (by decide))).trans x270137
              have wf270206 : lb_W f270206 (32) (32) (2000) := lb_Wst hf270206 wf270202 (by omega) (lb_Mod0 (by omega) (by omega)) lb_Q0
              obtain ⟨z270213, hz270213⟩ : ∃ z : Int32, z = g270131 + Int32.ofInt 1 := ⟨_, rfl⟩
              have ez270213 : z270213.toInt = g270131.toInt + 1 := gI_inc hz270213 (by decide) bg270131' (by decide) (by decide)
              have bz270213 : gB z270213 1 32 := ⟨by omega, by omega⟩
              refine G_iinc (L' := [(4, .int z270213), (3, .int g265099), (0, .ref q218910), (1, .ref q218911), (2, .int p218912)]) z270213 0 dr_cX17_findLive_30 rfl hz270213.symm (Nat.le_of_ble_eq_true rfl) rfl ?_
              refine G_goto 13 dr_cX17_findLive_33 (by decide +kernel) ?_
              have hT270214 : RS D I P218908 F270203 γ el := RS_set hT270133 n270205 ht270198 (by decide) ⟨f270206, he270210, wf270206⟩
              exact ih13_270137 F270203 z270213 (gB_w bz270213 (by decide) (by decide)) hT270214 hs270211 (zl_r x270135 (fun i hi => n270205 _ (by rw [hx270199]; exact RS_lne hT270214 ht270167 (by omega) (by omega) (by omega)))) (by rw [← hx270199, cL_of he270210]; exact zr_st hf270206 (by have q := x270136; rw [← hx270199, cL_of he270201] at q; exact q) ez270213 bg270131'.1) kp270212 (by omega)
        exact hlp13_270137 (((33 : Int) - 0).toNat + 1) F265100 0 (gB_w (gBl (show Int32.toInt 0 = 0 by decide)) (by decide) (by decide)) hT265101 hs265102 x265103 (fun j hj => absurd hj (by have qa : Int32.toInt 0 = 0 := (by decide); omega)) x265104 (Nat.lt_succ_self _)
  exact hlp2_265104 (((1000001 : Int) - 0).toNat + 1) F218909 0 (gB_w (gBl (show Int32.toInt 0 = 0 by decide)) (by decide) (by decide)) hT (rStr_rf (γ := γ) (W := []) (F := F218909)) (fun i hi => absurd hi (by have qa : Int32.toInt 0 = 0 := (by decide); omega)) rfl (Nat.lt_succ_self _)
