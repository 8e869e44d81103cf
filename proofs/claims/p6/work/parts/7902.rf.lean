theorem dr_cX17_findLive_0 : decode cX17_findLive 0 = .ok (.iconst 0, 1) := by decide +kernel
theorem dr_cX17_findLive_1 : decode cX17_findLive 1 = .ok (.istore_n 3, 1) := by decide +kernel
theorem dr_cX17_findLive_2 : decode cX17_findLive 2 = .ok (.iload_n 3, 1) := by decide +kernel
theorem dr_cX17_findLive_3 : decode cX17_findLive 3 = .ok (.aload_n 1, 1) := by decide +kernel
theorem dr_cX17_findLive_4 : decode cX17_findLive 4 = .ok (.invokevirtual 96, 3) := by decide +kernel
theorem dr_cX17_findLive_7 : decode cX17_findLive 7 = .ok (.if_icmp .ge 35, 3) := by decide +kernel
theorem dr_cX17_findLive_42 : decode cX17_findLive 42 = .ok (.iconst 1, 1) := by decide +kernel
theorem dr_cX17_findLive_43 : decode cX17_findLive 43 = .ok (.istore_n 3, 1) := by decide +kernel
theorem dr_cX17_findLive_44 : decode cX17_findLive 44 = .ok (.iload_n 3, 1) := by decide +kernel
theorem dr_cX17_findLive_45 : decode cX17_findLive 45 = .ok (.ifCond .eq 156, 3) := by decide +kernel
theorem dr_cX17_findLive_201 : decode cX17_findLive 201 = .ok (.return_, 1) := by decide +kernel
theorem dr_cX17_findLive_48 : decode cX17_findLive 48 = .ok (.iconst 0, 1) := by decide +kernel
theorem dr_cX17_findLive_49 : decode cX17_findLive 49 = .ok (.istore_n 3, 1) := by decide +kernel
theorem dr_cX17_findLive_50 : decode cX17_findLive 50 = .ok (.aload_n 1, 1) := by decide +kernel
theorem dr_cX17_findLive_51 : decode cX17_findLive 51 = .ok (.invokevirtual 96, 3) := by decide +kernel
theorem dr_cX17_findLive_54 : decode cX17_findLive 54 = .ok (.iconst 1, 1) := by decide +kernel
theorem dr_cX17_findLive_55 : decode cX17_findLive 55 = .ok (.isub, 1) := by decide +kernel
theorem dr_cX17_findLive_56 : decode cX17_findLive 56 = .ok (.istore 4, 2) := by decide +kernel
theorem dr_cX17_findLive_58 : decode cX17_findLive 58 = .ok (.iload 4, 2) := by decide +kernel
theorem dr_cX17_findLive_60 : decode cX17_findLive 60 = .ok (.ifCond .lt 138, 3) := by decide +kernel
theorem dr_cX17_findLive_198 : decode cX17_findLive 198 = .ok (.goto (-154), 3) := by decide +kernel
theorem dr_cX17_findLive_63 : decode cX17_findLive 63 = .ok (.aload_n 1, 1) := by decide +kernel
theorem dr_cX17_findLive_64 : decode cX17_findLive 64 = .ok (.iload 4, 2) := by decide +kernel
theorem dr_cX17_findLive_66 : decode cX17_findLive 66 = .ok (.invokevirtual 101, 3) := by decide +kernel
theorem dr_cX17_findLive_69 : decode cX17_findLive 69 = .ok (.astore 5, 2) := by decide +kernel
theorem dr_cX17_findLive_71 : decode cX17_findLive 71 = .ok (.aload_n 0, 1) := by decide +kernel
theorem dr_cX17_findLive_72 : decode cX17_findLive 72 = .ok (.aload 5, 2) := by decide +kernel
theorem dr_cX17_findLive_74 : decode cX17_findLive 74 = .ok (.invokevirtual 105, 3) := by decide +kernel
theorem wr_10_162 : (Jvm.Cond.methodLink "SpillForgeModel" (105 : Nat) ({ cls := "SpillForgeModel", name := "behind", desc := "(LSpillForgeModel$Block;)V" } : Jvm.MethodName)) ∈ gw := gw_10 162 rfl rfl
theorem wr_10_165 : (Jvm.Cond.code ({ cls := "SpillForgeModel", name := "behind", desc := "(LSpillForgeModel$Block;)V" } : Jvm.MethodName) prog_14_method_8_code (4 : Nat) (Option.none : Option Jvm.ClassFile.FieldType)) ∈ gw := gw_10 165 rfl rfl
theorem wr_10_164 : (Jvm.Cond.instanceMethod ({ cls := "SpillForgeModel", name := "behind", desc := "(LSpillForgeModel$Block;)V" } : Jvm.MethodName)) ∈ gw := gw_10 164 rfl rfl
theorem wr_p_95 : Cond.selects "SpillForgeModel" ⟨"SpillForgeModel", "behind", "(LSpillForgeModel$Block;)V"⟩ ⟨"SpillForgeModel", "behind", "(LSpillForgeModel$Block;)V"⟩ ∈ gw := gw_p _ 95 rfl rfl rfl
theorem dr_cX17_findLive_77 : decode cX17_findLive 77 = .ok (.aload_n 0, 1) := by decide +kernel
theorem dr_cX17_findLive_78 : decode cX17_findLive 78 = .ok (.aload 5, 2) := by decide +kernel
theorem dr_cX17_findLive_80 : decode cX17_findLive 80 = .ok (.getfield 109, 3) := by decide +kernel
theorem dr_cX17_findLive_83 : decode cX17_findLive 83 = .ok (.iload_n 2, 1) := by decide +kernel
theorem dr_cX17_findLive_84 : decode cX17_findLive 84 = .ok (.invokevirtual 113, 3) := by decide +kernel
theorem wr_10_174 : (Jvm.Cond.methodLink "SpillForgeModel" (113 : Nat) ({ cls := "SpillForgeModel", name := "back", desc := "(LSpillForgeModel$Row;Z)V" } : Jvm.MethodName)) ∈ gw := gw_10 174 rfl rfl
theorem wr_10_177 : (Jvm.Cond.code ({ cls := "SpillForgeModel", name := "back", desc := "(LSpillForgeModel$Row;Z)V" } : Jvm.MethodName) prog_14_method_7_code (4 : Nat) (Option.none : Option Jvm.ClassFile.FieldType)) ∈ gw := gw_10 177 rfl rfl
theorem wr_10_176 : (Jvm.Cond.instanceMethod ({ cls := "SpillForgeModel", name := "back", desc := "(LSpillForgeModel$Row;Z)V" } : Jvm.MethodName)) ∈ gw := gw_10 176 rfl rfl
theorem wr_p_96 : Cond.selects "SpillForgeModel" ⟨"SpillForgeModel", "back", "(LSpillForgeModel$Row;Z)V"⟩ ⟨"SpillForgeModel", "back", "(LSpillForgeModel$Row;Z)V"⟩ ∈ gw := gw_p _ 96 rfl rfl rfl
theorem dr_cX17_findLive_87 : decode cX17_findLive 87 = .ok (.aload 5, 2) := by decide +kernel
theorem dr_cX17_findLive_89 : decode cX17_findLive 89 = .ok (.getfield 117, 3) := by decide +kernel
theorem dr_cX17_findLive_92 : decode cX17_findLive 92 = .ok (.invokevirtual 121, 3) := by decide +kernel
theorem dr_cX17_findLive_95 : decode cX17_findLive 95 = .ok (.iconst 1, 1) := by decide +kernel
theorem dr_cX17_findLive_96 : decode cX17_findLive 96 = .ok (.isub, 1) := by decide +kernel
theorem dr_cX17_findLive_97 : decode cX17_findLive 97 = .ok (.istore 6, 2) := by decide +kernel
theorem dr_cX17_findLive_99 : decode cX17_findLive 99 = .ok (.iload 6, 2) := by decide +kernel
theorem dr_cX17_findLive_101 : decode cX17_findLive 101 = .ok (.ifCond .lt 27, 3) := by decide +kernel
theorem dr_cX17_findLive_128 : decode cX17_findLive 128 = .ok (.iconst 0, 1) := by decide +kernel
theorem dr_cX17_findLive_129 : decode cX17_findLive 129 = .ok (.istore 6, 2) := by decide +kernel
theorem dr_cX17_findLive_131 : decode cX17_findLive 131 = .ok (.iload 6, 2) := by decide +kernel
theorem dr_cX17_findLive_133 : decode cX17_findLive 133 = .ok (.bipush 32, 2) := by decide +kernel
theorem dr_cX17_findLive_135 : decode cX17_findLive 135 = .ok (.if_icmp .ge 57, 3) := by decide +kernel
theorem dr_cX17_findLive_192 : decode cX17_findLive 192 = .ok (.iinc 4 (-1), 3) := by decide +kernel
theorem dr_cX17_findLive_195 : decode cX17_findLive 195 = .ok (.goto (-137), 3) := by decide +kernel
theorem dr_cX17_findLive_138 : decode cX17_findLive 138 = .ok (.iload_n 3, 1) := by decide +kernel
theorem dr_cX17_findLive_139 : decode cX17_findLive 139 = .ok (.ifCond .ne 24, 3) := by decide +kernel
theorem dr_cX17_findLive_163 : decode cX17_findLive 163 = .ok (.iconst 1, 1) := by decide +kernel
theorem dr_cX17_findLive_164 : decode cX17_findLive 164 = .ok (.goto 4, 3) := by decide +kernel
theorem dr_cX17_findLive_168 : decode cX17_findLive 168 = .ok (.istore_n 3, 1) := by decide +kernel
theorem dr_cX17_findLive_169 : decode cX17_findLive 169 = .ok (.aload_n 0, 1) := by decide +kernel
theorem dr_cX17_findLive_170 : decode cX17_findLive 170 = .ok (.getfield 88, 3) := by decide +kernel
theorem dr_cX17_findLive_173 : decode cX17_findLive 173 = .ok (.iload 4, 2) := by decide +kernel
theorem dr_cX17_findLive_175 : decode cX17_findLive 175 = .ok (.aaload, 1) := by decide +kernel
theorem dr_cX17_findLive_176 : decode cX17_findLive 176 = .ok (.iload 6, 2) := by decide +kernel
theorem dr_cX17_findLive_178 : decode cX17_findLive 178 = .ok (.aload_n 0, 1) := by decide +kernel
theorem dr_cX17_findLive_179 : decode cX17_findLive 179 = .ok (.getfield 59, 3) := by decide +kernel
theorem dr_cX17_findLive_182 : decode cX17_findLive 182 = .ok (.iload 6, 2) := by decide +kernel
theorem dr_cX17_findLive_184 : decode cX17_findLive 184 = .ok (.laload, 1) := by decide +kernel
theorem dr_cX17_findLive_185 : decode cX17_findLive 185 = .ok (.lastore, 1) := by decide +kernel
theorem dr_cX17_findLive_186 : decode cX17_findLive 186 = .ok (.iinc 6 1, 3) := by decide +kernel
theorem dr_cX17_findLive_189 : decode cX17_findLive 189 = .ok (.goto (-58), 3) := by decide +kernel
theorem dr_cX17_findLive_142 : decode cX17_findLive 142 = .ok (.aload_n 0, 1) := by decide +kernel
theorem dr_cX17_findLive_143 : decode cX17_findLive 143 = .ok (.getfield 88, 3) := by decide +kernel
theorem dr_cX17_findLive_146 : decode cX17_findLive 146 = .ok (.iload 4, 2) := by decide +kernel
theorem dr_cX17_findLive_148 : decode cX17_findLive 148 = .ok (.aaload, 1) := by decide +kernel
theorem dr_cX17_findLive_149 : decode cX17_findLive 149 = .ok (.iload 6, 2) := by decide +kernel
theorem dr_cX17_findLive_151 : decode cX17_findLive 151 = .ok (.laload, 1) := by decide +kernel
theorem dr_cX17_findLive_152 : decode cX17_findLive 152 = .ok (.aload_n 0, 1) := by decide +kernel
theorem dr_cX17_findLive_153 : decode cX17_findLive 153 = .ok (.getfield 59, 3) := by decide +kernel
theorem dr_cX17_findLive_156 : decode cX17_findLive 156 = .ok (.iload 6, 2) := by decide +kernel
theorem dr_cX17_findLive_158 : decode cX17_findLive 158 = .ok (.laload, 1) := by decide +kernel
theorem dr_cX17_findLive_159 : decode cX17_findLive 159 = .ok (.lcmp, 1) := by decide +kernel
theorem dr_cX17_findLive_160 : decode cX17_findLive 160 = .ok (.ifCond .eq 7, 3) := by decide +kernel
theorem dr_cX17_findLive_167 : decode cX17_findLive 167 = .ok (.iconst 0, 1) := by decide +kernel
theorem dr_cX17_findLive_104 : decode cX17_findLive 104 = .ok (.aload_n 0, 1) := by decide +kernel
theorem dr_cX17_findLive_105 : decode cX17_findLive 105 = .ok (.aload 5, 2) := by decide +kernel
theorem dr_cX17_findLive_107 : decode cX17_findLive 107 = .ok (.getfield 117, 3) := by decide +kernel
theorem dr_cX17_findLive_110 : decode cX17_findLive 110 = .ok (.iload 6, 2) := by decide +kernel
theorem dr_cX17_findLive_112 : decode cX17_findLive 112 = .ok (.invokevirtual 124, 3) := by decide +kernel
theorem dr_cX17_findLive_115 : decode cX17_findLive 115 = .ok (.checkcast 40, 3) := by decide +kernel
theorem dr_cX17_findLive_118 : decode cX17_findLive 118 = .ok (.iload_n 2, 1) := by decide +kernel
theorem dr_cX17_findLive_119 : decode cX17_findLive 119 = .ok (.invokevirtual 113, 3) := by decide +kernel
theorem dr_cX17_findLive_122 : decode cX17_findLive 122 = .ok (.iinc 6 (-1), 3) := by decide +kernel
theorem dr_cX17_findLive_125 : decode cX17_findLive 125 = .ok (.goto (-26), 3) := by decide +kernel
theorem dr_cX17_findLive_10 : decode cX17_findLive 10 = .ok (.iconst 0, 1) := by decide +kernel
theorem dr_cX17_findLive_11 : decode cX17_findLive 11 = .ok (.istore 4, 2) := by decide +kernel
theorem dr_cX17_findLive_13 : decode cX17_findLive 13 = .ok (.iload 4, 2) := by decide +kernel
theorem dr_cX17_findLive_15 : decode cX17_findLive 15 = .ok (.bipush 32, 2) := by decide +kernel
theorem dr_cX17_findLive_17 : decode cX17_findLive 17 = .ok (.if_icmp .ge 19, 3) := by decide +kernel
theorem dr_cX17_findLive_36 : decode cX17_findLive 36 = .ok (.iinc 3 1, 3) := by decide +kernel
theorem dr_cX17_findLive_39 : decode cX17_findLive 39 = .ok (.goto (-37), 3) := by decide +kernel
theorem dr_cX17_findLive_20 : decode cX17_findLive 20 = .ok (.aload_n 0, 1) := by decide +kernel
theorem dr_cX17_findLive_21 : decode cX17_findLive 21 = .ok (.getfield 88, 3) := by decide +kernel
theorem dr_cX17_findLive_24 : decode cX17_findLive 24 = .ok (.iload_n 3, 1) := by decide +kernel
theorem dr_cX17_findLive_25 : decode cX17_findLive 25 = .ok (.aaload, 1) := by decide +kernel
theorem dr_cX17_findLive_26 : decode cX17_findLive 26 = .ok (.iload 4, 2) := by decide +kernel
theorem dr_cX17_findLive_28 : decode cX17_findLive 28 = .ok (.lconst 0, 1) := by decide +kernel
theorem dr_cX17_findLive_29 : decode cX17_findLive 29 = .ok (.lastore, 1) := by decide +kernel
theorem dr_cX17_findLive_30 : decode cX17_findLive 30 = .ok (.iinc 4 1, 3) := by decide +kernel
theorem dr_cX17_findLive_33 : decode cX17_findLive 33 = .ok (.goto (-20), 3) := by decide +kernel
abbrev ky_223114_Block_ways : gKey := (cX12_ways, 1, "SpillForgeModel$Block", (some FieldType.int), [], "ways", fun _ _ => True)
def pp_223114_Block_ways (D : va_G) (I : FieldType → ClassId) (P223100 : List Nat) (F223101 : Nat → va_E) (q223102 : Nat) (q223103 : Nat) (qo223104 : Nat) (p223105 : Int32) (p223106 : Int32) (p223107 : Int32) (p223108 : Int32) (p223109 : Int32) (p223110 : Int32) (p223111 : Int32) (p223112 : Int32) (p223113 : Int32) : Option Value → va_W → Nat → Nat → Prop := fun r w dc ds => ∃ (o223124 : Int32), r = some (.int o223124) ∧ w = va_pl P223100 F223101 ∧ dc ≤ 0 ∧ ds ≤ 0 ∧ gB o223124 0 2 ∧ ((o223124.toInt = 0 ∧ p223107.toInt = 32) ∨ (o223124.toInt = 1 ∧ p223107.toInt ≠ 32 ∧ (p223107.toInt = 30 ∨ p223105.toInt = p223106.toInt)) ∨ (o223124.toInt = 2 ∧ p223107.toInt ≠ 32 ∧ p223107.toInt ≠ 30 ∧ p223105.toInt ≠ p223106.toInt)) ∧ tr_RBlock_ways2 p223105 p223106 p223107 o223124
set_option maxRecDepth 100000 in
set_option maxHeartbeats 4000000 in
theorem cp_223114_Block_ways (l : Launch) (hl0 : l.stackTraces = false) (D : va_G) (I : FieldType → ClassId) (P223100 : List Nat) (F223101 : Nat → va_E) (q223102 : Nat) (q223103 : Nat) (qo223104 : Nat) (p223105 : Int32) (p223106 : Int32) (p223107 : Int32) (p223108 : Int32) (p223109 : Int32) (p223110 : Int32) (p223111 : Int32) (p223112 : Int32) (p223113 : Int32) (hmq223102 : q223102 ∈ P223100) (hmq223103 : q223103 ∈ P223100) (heq223102 : F223101 q223102 = .inr (17, [.ref qo223104, .ref q223103, .int p223105, .int p223106])) (heq223103 : F223101 q223103 = .inr (20, [.int p223107, .int p223108, .int p223109, .int p223110, .int p223111, .int p223112, .int p223113])) (bp223105 : gB p223105 0 39) (bp223106 : gB p223106 0 39) (bp223107 : gB p223107 0 32) (bp223108 : gB p223108 0 1999) (bp223111 : gB p223111 0 1999) (bp223112 : gB p223112 0 1) (bp223113 : gB p223113 0 1) : CtA (gV D I) l yX12_ways cX12_ways 1 (some FieldType.int) 0 0 0 0 [.ref q223102] (va_pl P223100 F223101) (pp_223114_Block_ways D I P223100 F223101 q223102 q223103 qo223104 p223105 p223106 p223107 p223108 p223109 p223110 p223111 p223112 p223113) gNA := by
  refine CtA_of hl0 (by decide) (Nat.le_of_ble_eq_true rfl) ?_
  have bp223109 := gB_any p223109
  have bp223110 := gB_any p223110
  refine G_aload_n 0 dr_cX12_ways_0 rfl ?_
  refine Gp_get 1 hmq223102 heq223102 dr_cX12_ways_1 (gk_X12 D I) (Nat.le_of_ble_eq_true rfl) wr_9_222 rfl ?_
  refine Gp_get 0 hmq223103 heq223103 dr_cX12_ways_4 (gk_X15 D I) (Nat.le_of_ble_eq_true rfl) wr_9_176 rfl ?_
  refine G_bipush 32 dr_cX12_ways_7 (by decide +kernel) ?_
  refine G_icmp_ne 16 dr_cX12_ways_9 (by decide +kernel) (fun hc223115 => ?_) (fun hc223115 => ?_)
  · have r223116 : p223107.toInt ≠ 32 := gj_neq hc223115 (show Int32.toInt 32 = 32 by decide)
    have bp223107' : gB p223107 0 31 := ⟨by omega, by omega⟩
    refine G_aload_n 0 dr_cX12_ways_16 rfl ?_
    refine Gp_get 1 hmq223102 heq223102 dr_cX12_ways_17 (gk_X12 D I) (Nat.le_of_ble_eq_true rfl) wr_9_222 rfl ?_
    refine Gp_get 0 hmq223103 heq223103 dr_cX12_ways_20 (gk_X15 D I) (Nat.le_of_ble_eq_true rfl) wr_9_176 rfl ?_
    refine G_bipush 30 dr_cX12_ways_23 (by decide +kernel) ?_
    refine G_icmp_eq 39 dr_cX12_ways_25 (by decide +kernel) (fun hc223117 => ?_) (fun hc223117 => ?_)
    · have r223118 : p223107.toInt = 30 := gj_eq hc223117 (show Int32.toInt 30 = 30 by decide)
      have bp223107'' : gB p223107 30 30 := ⟨by omega, by omega⟩
      refine G_iconst 1 dr_cX12_ways_39 (by decide +kernel) ?_
      refine G_goto 44 dr_cX12_ways_40 (by decide +kernel) ?_
      exact G_iretA dr_cX12_ways_44 rfl (Nat.le_of_ble_eq_true rfl) (Nat.le_of_ble_eq_true rfl) ⟨1, rfl, rfl, (Nat.le_of_ble_eq_true rfl), (Nat.le_of_ble_eq_true rfl), (gB_w (gBl (show Int32.toInt 1 = 1 by decide)) (by decide) (by decide)), (by have qa0 : Int32.toInt 1 = 1 := (by decide); omega), (fun R c1 c2 c3 c4 => c1 r223116 r223118)⟩
    · have r223119 : p223107.toInt ≠ 30 := gj_neq hc223117 (show Int32.toInt 30 = 30 by decide)
      refine G_aload_n 0 dr_cX12_ways_28 rfl ?_
      refine Gp_get 2 hmq223102 heq223102 dr_cX12_ways_29 (gk_X12 D I) (Nat.le_of_ble_eq_true rfl) wr_9_226 rfl ?_
      refine G_aload_n 0 dr_cX12_ways_32 rfl ?_
      refine Gp_get 3 hmq223102 heq223102 dr_cX12_ways_33 (gk_X12 D I) (Nat.le_of_ble_eq_true rfl) wr_9_230 rfl ?_
      refine G_icmp_ne 43 dr_cX12_ways_36 (by decide +kernel) (fun hc223120 => ?_) (fun hc223120 => ?_)
      · have r223121 : p223105.toInt ≠ p223106.toInt := gC_ne hc223120
        refine G_iconst 2 dr_cX12_ways_43 (by decide +kernel) ?_
        exact G_iretA dr_cX12_ways_44 rfl (Nat.le_of_ble_eq_true rfl) (Nat.le_of_ble_eq_true rfl) ⟨2, rfl, rfl, (Nat.le_of_ble_eq_true rfl), (Nat.le_of_ble_eq_true rfl), (gB_w (gBl (show Int32.toInt 2 = 2 by decide)) (by decide) (by decide)), (by have qa0 : Int32.toInt 2 = 2 := (by decide); omega), (fun R c1 c2 c3 c4 => c2 r223116 r223119 r223121)⟩
      · have r223122 : p223105.toInt = p223106.toInt := gC_eq hc223120
        refine G_iconst 1 dr_cX12_ways_39 (by decide +kernel) ?_
        refine G_goto 44 dr_cX12_ways_40 (by decide +kernel) ?_
        exact G_iretA dr_cX12_ways_44 rfl (Nat.le_of_ble_eq_true rfl) (Nat.le_of_ble_eq_true rfl) ⟨1, rfl, rfl, (Nat.le_of_ble_eq_true rfl), (Nat.le_of_ble_eq_true rfl), (gB_w (gBl (show Int32.toInt 1 = 1 by decide)) (by decide) (by decide)), (by have qa0 : Int32.toInt 1 = 1 := (by decide); omega), (fun R c1 c2 c3 c4 => c3 r223116 r223119 r223122)⟩
  · have r223123 : p223107.toInt = 32 := gj_eq hc223115 (show Int32.toInt 32 = 32 by decide)
    have bp223107' : gB p223107 32 32 := ⟨by omega, by omega⟩
    refine G_iconst 0 dr_cX12_ways_12 (by decide +kernel) ?_
    refine G_goto 44 dr_cX12_ways_13 (by decide +kernel) ?_
    exact G_iretA dr_cX12_ways_44 rfl (Nat.le_of_ble_eq_true rfl) (Nat.le_of_ble_eq_true rfl) ⟨0, rfl, rfl, (Nat.le_of_ble_eq_true rfl), (Nat.le_of_ble_eq_true rfl), (gB_w (gBl (show Int32.toInt 0 = 0 by decide)) (by decide) (by decide)), (by have qa0 : Int32.toInt 0 = 0 := (by decide); omega), (fun R c1 c2 c3 c4 => c4 r223123)⟩
/- tr_RBlock_way3: result -/
def tr_RBlock_way3 (a1 : Int32) (a0_first : Int32) (a0_second : Int32) (o1 : Int32) : Prop := ∀ R : (Int32) → Prop,
  (a1.toInt ≠ 0 → R a0_second) →
  (a1.toInt = 0 → R a0_first) →
  R o1
abbrev ky_223249_Block_way : gKey := (cX12_way, 2, "SpillForgeModel$Block", (some FieldType.int), [], "way", fun _ _ => True)
def pp_223249_Block_way (D : va_G) (I : FieldType → ClassId) (P223234 : List Nat) (F223235 : Nat → va_E) (q223236 : Nat) (q223237 : Nat) (p223238 : Int32) (qo223239 : Nat) (p223240 : Int32) (p223241 : Int32) (p223242 : Int32) (p223243 : Int32) (p223244 : Int32) (p223245 : Int32) (p223246 : Int32) (p223247 : Int32) (p223248 : Int32) : Option Value → va_W → Nat → Nat → Prop := fun r w dc ds => ∃ (o223253 : Int32), r = some (.int o223253) ∧ w = va_pl P223234 F223235 ∧ dc ≤ 0 ∧ ds ≤ 0 ∧ gB o223253 0 39 ∧ ((p223238.toInt = 0 ∧ o223253.toInt = p223240.toInt) ∨ (p223238.toInt ≠ 0 ∧ o223253.toInt = p223241.toInt)) ∧ tr_RBlock_way3 p223238 p223240 p223241 o223253
set_option maxRecDepth 100000 in
set_option maxHeartbeats 4000000 in
theorem cp_223249_Block_way (l : Launch) (hl0 : l.stackTraces = false) (D : va_G) (I : FieldType → ClassId) (P223234 : List Nat) (F223235 : Nat → va_E) (q223236 : Nat) (q223237 : Nat) (p223238 : Int32) (qo223239 : Nat) (p223240 : Int32) (p223241 : Int32) (p223242 : Int32) (p223243 : Int32) (p223244 : Int32) (p223245 : Int32) (p223246 : Int32) (p223247 : Int32) (p223248 : Int32) (hmq223236 : q223236 ∈ P223234) (hmq223237 : q223237 ∈ P223234) (heq223236 : F223235 q223236 = .inr (17, [.ref qo223239, .ref q223237, .int p223240, .int p223241])) (heq223237 : F223235 q223237 = .inr (20, [.int p223242, .int p223243, .int p223244, .int p223245, .int p223246, .int p223247, .int p223248])) (bp223240 : gB p223240 0 39) (bp223241 : gB p223241 0 39) (bp223242 : gB p223242 0 32) (bp223243 : gB p223243 0 1999) (bp223246 : gB p223246 0 1999) (bp223247 : gB p223247 0 1) (bp223248 : gB p223248 0 1) : CtA (gV D I) l yX12_way cX12_way 2 (some FieldType.int) 0 0 0 0 [.ref q223236, .int p223238] (va_pl P223234 F223235) (pp_223249_Block_way D I P223234 F223235 q223236 q223237 p223238 qo223239 p223240 p223241 p223242 p223243 p223244 p223245 p223246 p223247 p223248) gNA := by
  refine CtA_of hl0 (by decide) (Nat.le_of_ble_eq_true rfl) ?_
  have bp223238 := gB_any p223238
  have bp223244 := gB_any p223244
  have bp223245 := gB_any p223245
  refine G_iload_n 1 dr_cX12_way_0 rfl ?_
  refine G_if_ne 11 dr_cX12_way_1 (by decide +kernel) (fun hc223250 => ?_) (fun hc223250 => ?_)
  · have r223251 : p223238.toInt ≠ 0 := gj_neq hc223250 (show Int32.toInt 0 = 0 by decide)
    refine G_aload_n 0 dr_cX12_way_11 rfl ?_
    refine Gp_get 3 hmq223236 heq223236 dr_cX12_way_12 (gk_X12 D I) (Nat.le_of_ble_eq_true rfl) wr_9_230 rfl ?_
    exact G_iretA dr_cX12_way_15 rfl (Nat.le_of_ble_eq_true rfl) (Nat.le_of_ble_eq_true rfl) ⟨p223241, rfl, rfl, (Nat.le_of_ble_eq_true rfl), (Nat.le_of_ble_eq_true rfl), bp223241, (by omega), (fun R c1 c2 => c1 r223251)⟩
  · have r223252 : p223238.toInt = 0 := gj_eq hc223250 (show Int32.toInt 0 = 0 by decide)
    have bp223238' : gB p223238 0 0 := ⟨by omega, by omega⟩
    refine G_aload_n 0 dr_cX12_way_4 rfl ?_
    refine Gp_get 2 hmq223236 heq223236 dr_cX12_way_5 (gk_X12 D I) (Nat.le_of_ble_eq_true rfl) wr_9_226 rfl ?_
    refine G_goto 15 dr_cX12_way_8 (by decide +kernel) ?_
    exact G_iretA dr_cX12_way_15 rfl (Nat.le_of_ble_eq_true rfl) (Nat.le_of_ble_eq_true rfl) ⟨p223240, rfl, rfl, (Nat.le_of_ble_eq_true rfl), (Nat.le_of_ble_eq_true rfl), bp223240, (by omega), (fun R c1 c2 => c2 r223252)⟩
/- tl_RModel_behind2_33: F, l3; out: F -/
def tl_RModel_behind2_33 (D : va_G) (I : FieldType → ClassId) (γ el : Nat → Nat → Nat) (P : List Nat) (F : Nat → va_E) (l2_1 : Int32) (q1 : Nat) (q0 : Nat) (s1 : Nat → va_E) (s2 : Int32) (k : Nat) (e1 : Nat → va_E) : Prop := ∀ R : (Nat → va_E) → (Int32) → Nat → (Nat → va_E) → Prop,
  (∀ (F_2 : Nat → va_E) (l3_2 : Int32), gB l3_2 0 32 → RS D I P F_2 γ el → rStr γ [] F F_2 → ((∀ k : Nat, k < 2048 → rbt (cL (F_2 (γ 9 2))) k = if (k : Int) < 64 * l3_2.toInt then wyV (l2_1.toInt + 1) (fI (F q1) 2).toInt (fI (F q1) 3).toInt (lvS γ F) k else wyV l2_1.toInt (fI (F q1) 2).toInt (fI (F q1) 3).toInt (lvS γ F) k)) → rLv γ F F_2 → (((l2_1.toInt = 0 ∧ (fI (F (γ 15 q1)) 0).toInt ≠ 32) ∨ (l2_1.toInt = 1 ∧ (fI (F (γ 15 q1)) 0).toInt ≠ 32 ∧ (fI (F (γ 15 q1)) 0).toInt ≠ 30 ∧ (fI (F q1) 2).toInt ≠ (fI (F q1) 3).toInt))) → (F_2 q0 = F q0) → 32 ≤ l3_2.toInt → R F_2 l3_2 66 F_2) →
  (∀ (F_2 : Nat → va_E) (l3_2 : Int32) (x1 : Nat → Int64) (x2 : Int64) (x3 : Int32) (x4 : Int32) (x5 : Int32) (x6 : Nat) (x7 : Nat → Int64) (x8 : Int64) (x9 : Int64) (x10 : Nat → Int64) (x11 : Nat → va_E) (x12 : Int32) (k : Nat) (e1 : Nat → va_E), gB l3_2 0 32 → RS D I P F_2 γ el → rStr γ [] F F_2 → ((∀ k : Nat, k < 2048 → rbt (cL (F_2 (γ 9 2))) k = if (k : Int) < 64 * l3_2.toInt then wyV (l2_1.toInt + 1) (fI (F q1) 2).toInt (fI (F q1) 3).toInt (lvS γ F) k else wyV l2_1.toInt (fI (F q1) 2).toInt (fI (F q1) 3).toInt (lvS γ F) k)) → rLv γ F F_2 → (((l2_1.toInt = 0 ∧ (fI (F (γ 15 q1)) 0).toInt ≠ 32) ∨ (l2_1.toInt = 1 ∧ (fI (F (γ 15 q1)) 0).toInt ≠ 32 ∧ (fI (F (γ 15 q1)) 0).toInt ≠ 30 ∧ (fI (F q1) 2).toInt ≠ (fI (F q1) 3).toInt))) → (F_2 q0 = F q0) → l3_2.toInt < 32 → fR (F_2 q0) 2 = (γ 9 2) → F_2 (γ 9 2) = .inl (I .long, 32, .inr (.inl x1)) → x2 = x1 l3_2.toNatClampNeg → fR (F_2 q0) 0 = (γ 9 0) → fI (F_2 q1) 2 = x3 → fI (F_2 q1) 3 = x4 → gB x5 0 39 → tr_RBlock_way3 l2_1 x3 x4 x5 → x6 = γ 10 x5.toInt.toNat → F_2 x6 = .inl (I .long, 32, .inr (.inl x7)) → x8 = x7 l3_2.toNatClampNeg → x9 = x2 ||| x8 → x10 = vp_updL x1 l3_2.toNatClampNeg x9 → (∀ b, b ≠ (γ 9 2) → x11 b = F_2 b) → x11 (γ 9 2) = .inl (I .long, 32, .inr (.inl x10)) → x12.toInt = l3_2.toInt + 1 → R x11 x12 k e1 → R F_2 l3_2 k e1) →
  R s1 s2 k e1
/- tl_RModel_behind2_23: F, l2; out: F -/
def tl_RModel_behind2_23 (D : va_G) (I : FieldType → ClassId) (γ el : Nat → Nat → Nat) (P : List Nat) (F : Nat → va_E) (q1 : Nat) (q0 : Nat) (s1 : Nat → va_E) (s2 : Int32) (k : Nat) (e1 : Nat → va_E) : Prop := ∀ R : (Nat → va_E) → (Int32) → Nat → (Nat → va_E) → Prop,
  (∀ (F_1 : Nat → va_E) (l2_1 : Int32) (x1 : Int32) (x2 : Int32) (x3 : Nat) (x4 : Int32) (x5 : Int32), gB l2_1 0 2 → RS D I P F_1 γ el → rStr γ [] F F_1 → ((∀ k : Nat, k < 2048 → rbt (cL (F_1 (γ 9 2))) k = wyV l2_1.toInt (fI (F q1) 2).toInt (fI (F q1) 3).toInt (lvS γ F) k)) → rLv γ F F_1 → ((l2_1.toInt = 0 ∨ ((fI (F (γ 15 q1)) 0).toInt ≠ 32 ∧ (l2_1.toInt = 1 ∨ (l2_1.toInt = 2 ∧ (fI (F (γ 15 q1)) 0).toInt ≠ 30 ∧ (fI (F q1) 2).toInt ≠ (fI (F q1) 3).toInt))))) → (F_1 q0 = F q0) → fI (F_1 q1) 2 = x1 → fI (F_1 q1) 3 = x2 → fR (F_1 q1) 1 = x3 → fI (F_1 x3) 0 = x4 → gB x5 0 2 → tr_RBlock_ways2 x1 x2 x4 x5 → x5.toInt ≤ l2_1.toInt → R F_1 l2_1 72 F_1) →
  (∀ (F_1 : Nat → va_E) (l2_1 : Int32) (x1 : Int32) (x2 : Int32) (x3 : Nat) (x4 : Int32) (x5 : Int32) (x6 : Nat → va_E) (x7 : Int32) (k : Nat) (e1 : Nat → va_E), gB l2_1 0 2 → RS D I P F_1 γ el → rStr γ [] F F_1 → ((∀ k : Nat, k < 2048 → rbt (cL (F_1 (γ 9 2))) k = wyV l2_1.toInt (fI (F q1) 2).toInt (fI (F q1) 3).toInt (lvS γ F) k)) → rLv γ F F_1 → ((l2_1.toInt = 0 ∨ ((fI (F (γ 15 q1)) 0).toInt ≠ 32 ∧ (l2_1.toInt = 1 ∨ (l2_1.toInt = 2 ∧ (fI (F (γ 15 q1)) 0).toInt ≠ 30 ∧ (fI (F q1) 2).toInt ≠ (fI (F q1) 3).toInt))))) → (F_1 q0 = F q0) → fI (F_1 q1) 2 = x1 → fI (F_1 q1) 3 = x2 → fR (F_1 q1) 1 = x3 → fI (F_1 x3) 0 = x4 → gB x5 0 2 → tr_RBlock_ways2 x1 x2 x4 x5 → l2_1.toInt < x5.toInt → tl_RModel_behind2_33 D I γ el P F l2_1 q1 q0 F_1 (0 : Int32) 66 x6 → x7.toInt = l2_1.toInt + 1 → R x6 x7 k e1 → R F_1 l2_1 k e1) →
  R s1 s2 k e1
/- tl_RModel_behind2_2: F, l2; out: F -/
def tl_RModel_behind2_2 (D : va_G) (I : FieldType → ClassId) (γ el : Nat → Nat → Nat) (P : List Nat) (F : Nat → va_E) (q0 : Nat) (s1 : Nat → va_E) (s2 : Int32) (k : Nat) (e1 : Nat → va_E) : Prop := ∀ R : (Nat → va_E) → (Int32) → Nat → (Nat → va_E) → Prop,
  (∀ (F_1 : Nat → va_E) (l2_1 : Int32), gB l2_1 0 32 → RS D I P F_1 γ el → rStr γ [] F F_1 → ((∀ j : Nat, (j : Int) < l2_1.toInt → cL (F_1 (γ 9 2)) j = 0)) → rLv γ F F_1 → (F_1 q0 = F q0) → 32 ≤ l2_1.toInt → R F_1 l2_1 21 F_1) →
  (∀ (F_1 : Nat → va_E) (l2_1 : Int32) (x1 : Nat → Int64) (x2 : Nat → Int64) (x3 : Nat → va_E) (x4 : Int32) (k : Nat) (e1 : Nat → va_E), gB l2_1 0 32 → RS D I P F_1 γ el → rStr γ [] F F_1 → ((∀ j : Nat, (j : Int) < l2_1.toInt → cL (F_1 (γ 9 2)) j = 0)) → rLv γ F F_1 → (F_1 q0 = F q0) → l2_1.toInt < 32 → fR (F_1 q0) 2 = (γ 9 2) → F_1 (γ 9 2) = .inl (I .long, 32, .inr (.inl x1)) → x2 = vp_updL x1 l2_1.toNatClampNeg 0 → (∀ b, b ≠ (γ 9 2) → x3 b = F_1 b) → x3 (γ 9 2) = .inl (I .long, 32, .inr (.inl x2)) → x4.toInt = l2_1.toInt + 1 → R x3 x4 k e1 → R F_1 l2_1 k e1) →
  R s1 s2 k e1
/- tr_RModel_behind2: F -/
def tr_RModel_behind2 (D : va_G) (I : FieldType → ClassId) (γ el : Nat → Nat → Nat) (P : List Nat) (F : Nat → va_E) (q0 : Nat) (q1 : Nat) (o1 : Nat → va_E) : Prop := ∀ R : (Nat → va_E) → Prop,
  (∀ (x1 : Nat → va_E) (x2 : Nat → va_E), tl_RModel_behind2_2 D I γ el P F q0 F (0 : Int32) 21 x1 → tl_RModel_behind2_23 D I γ el P F q1 q0 x1 (0 : Int32) 72 x2 → R x2) →
  R o1
abbrev ky_222856_SpillForgeModel_behind : gKey := (cX17_behind, 4, "SpillForgeModel", none, [], "behind", fun _ _ => True)
def pt_222856_SpillForgeModel_behind (D : va_G) (I : FieldType → ClassId) (γ el : Nat → Nat → Nat) (P222852 : List Nat) (F222853 : Nat → va_E) (q222854 : Nat) (q222855 : Nat) : Option Value → va_W → Nat → Nat → Prop := fun r w dc ds => ∃ (F225905 : Nat → va_E), r = none ∧ w = va_pl P222852 F225905 ∧ RS D I P222852 F225905 γ el ∧ rStr γ [] F222853 F225905 ∧ dc ≤ 0 ∧ ds ≤ 0 ∧ (∀ k : Nat, k < 2048 → rbt (cL (F225905 (γ 9 2))) k = bhV (fI (F222853 (γ 15 q222855)) 0).toInt (fI (F222853 q222855) 2).toInt (fI (F222853 q222855) 3).toInt (lvS γ F222853) k) ∧ rLv γ F222853 F225905 ∧ (F225905 q222854 = F222853 q222854) ∧ tr_RModel_behind2 D I γ el P222852 F222853 q222854 q222855 F225905
set_option maxRecDepth 100000 in
set_option maxHeartbeats 4000000 in
theorem ct_222856_SpillForgeModel_behind (l : Launch) (hl0 : l.stackTraces = false) (D : va_G) (I : FieldType → ClassId) (γ el : Nat → Nat → Nat) (P222852 : List Nat) (F222853 : Nat → va_E) (q222854 : Nat) (q222855 : Nat) (hT : RS D I P222852 F222853 γ el) (htq222854 : rKd γ q222854 10) (htq222855 : rKd γ q222855 2) : CtA (gV D I) l yX17_behind cX17_behind 4 none 1 21 0 0 [.ref q222854, .ref q222855] (va_pl P222852 F222853) (pt_222856_SpillForgeModel_behind D I γ el P222852 F222853 q222854 q222855) gNA := by
  refine CtA_of hl0 (by decide) (Nat.le_of_ble_eq_true rfl) ?_
  have hm222857 : q222854 ∈ P222852 := RS_m hT htq222854 (by decide)
  obtain ⟨q222859, q222860, p222861, p222862, p222863, p222864, p222865, p222866, p222867, p222868, p222869, p222870, p222871, p222872, p222873, p222874, p222875, he222858, hB222902, ht222876, ht222877, ht222878, ht222879, ht222880, ht222881, ht222882, ht222883, ht222884, ht222885, ht222886, ht222887, ht222888, ht222889, ht222890, ht222891, ht222892, ht222893, ht222894, ht222895, ht222896, ht222897, ht222898, ht222899, hB222903⟩ := show rk_10 γ (F222853 q222854) from RS_o hT htq222854
  have hm222904 : (γ 9 2) ∈ P222852 := RS_m hT ht222880 (by decide)
  obtain ⟨f222906, he222905, wf222906⟩ := show rk_35 I (F222853 (γ 9 2)) from RS_o hT ht222880
  have hm222907 : q222855 ∈ P222852 := RS_m hT htq222855 (by decide)
  obtain ⟨q222909, q222910, p222911, p222912, he222908, ht222919, ht222913, ht222914, ht222915, ht222916, ht222917, bp222911, bp222912, r222918, r222920, r222921⟩ := show rk_2 γ q222855 (F222853 q222855) from RS_o hT htq222855
  have hm222922 : q222910 ∈ P222852 := RS_m hT ht222915 (by decide)
  obtain ⟨p222924, p222925, p222926, p222927, p222928, p222929, p222930, he222923, bp222924, bp222925, bp222928, bp222929, bp222930, r222931, r222932, r222933, r222934, r222935⟩ := show rk_1 γ q222910 (F222853 q222910) from RS_o hT ht222915
  have bp222926 := gB_any p222926
  have bp222927 := gB_any p222927
  have fe1 : (fI (F222853 q222855) 2).toInt = p222911.toInt := by rw [he222908]; rfl
  have fe2 : (fI (F222853 q222855) 3).toInt = p222912.toInt := by rw [he222908]; rfl
  have fe3 : (fI (F222853 (γ 15 q222855)) 0).toInt = p222924.toInt := by rw [ht222919.2.1, he222923]; rfl
  refine G_iconst 0 dr_cX17_behind_0 (by decide +kernel) ?_
  refine G_istore_n (L' := [(2, .int 0), (0, .ref q222854), (1, .ref q222855)]) dr_cX17_behind_1 (Nat.le_of_ble_eq_true rfl) rfl ?_
  have hlp2_225277 : ∀ (n2_225277 : Nat) (F225272 : Nat → va_E) (g225271 : Int32), gB g225271 0 32 → RS D I P222852 F225272 γ el → rStr γ [] F222853 F225272 → (∀ j : Nat, (j : Int) < g225271.toInt → cL (F225272 (γ 9 2)) j = 0) → rLv γ F222853 F225272 → (F225272 q222854 = F222853 q222854) → (∀ (k : Nat) (e1 : Nat → va_E), tl_RModel_behind2_2 D I γ el P222852 F222853 q222854 F225272 g225271 k e1 → tl_RModel_behind2_2 D I γ el P222852 F222853 q222854 F222853 (0 : Int32) k e1) → ((33 : Int) - g225271.toInt).toNat < n2_225277 → G (gV D I) l (gRm 1 21 0 0) (gMA (gV D I) (pt_222856_SpillForgeModel_behind D I γ el P222852 F222853 q222854 q222855) gNA 0 0) ky_222856_SpillForgeModel_behind 2 [(2, .int g225271), (0, .ref q222854), (1, .ref q222855)] [] (va_pl P222852 F225272) 0 0 := by
    intro n2_225277
    induction n2_225277 with
    | zero => intro F225272 g225271 bg225271 hT225273 hs225274 x225275 x225276 x225277 kt2_225278 hm2_225277; exact absurd hm2_225277 (Nat.not_lt_zero _)
    | succ n2_225277 ih2_225277 =>
      intro F225272 g225271 bg225271 hT225273 hs225274 x225275 x225276 x225277 kt2_225278 hm2_225277
      have hs225279 : rStr γ [] F222853 F225272 := fun b h0 hb hw => (hs225274 b h0 hb hw).trans ((rStr_rf (γ := γ) (W := []) (F := F222853)) b h0 hb hw).symm
      have he225280 : F225272 q222855 = .inr (17, [.ref q222909, .ref q222910, .int p222911, .int p222912]) := (hs225279 q222855 (rT0 htq222855 (by decide)) (rT1 htq222855 (by decide)) (rT2 htq222855 (by decide))).trans he222908
      have he225281 : F225272 q222910 = .inr (20, [.int p222924, .int p222925, .int p222926, .int p222927, .int p222928, .int p222929, .int p222930]) := (hs225279 q222910 (rT0 ht222915 (by decide)) (rT1 ht222915 (by decide)) (rT2 ht222915 (by decide))).trans he222923
      have hs225282 : rStr γ [] F222853 F225272 := rStr_tr (rStr_rf (γ := γ) (W := []) (F := F222853)) hs225279
      refine G_iload_n 0 dr_cX17_behind_2 rfl ?_
      refine G_bipush 32 dr_cX17_behind_3 (by decide +kernel) ?_
      refine G_icmp_ge 21 dr_cX17_behind_5 (by decide +kernel) (fun hc225283 => ?_) (fun hc225283 => ?_)
      · have r225284 : 32 ≤ g225271.toInt := gj_leL hc225283 (show Int32.toInt 32 = 32 by decide)
        have bg225271' : gB g225271 32 32 := ⟨by omega, by omega⟩
        have hx225285 : tl_RModel_behind2_2 D I γ el P222852 F222853 q222854 F222853 (0 : Int32) 21 F225272 := kt2_225278 21 F225272 (fun R c1 c2 => c1 F225272 g225271 bg225271 hT225273 hs225274 x225275 x225276 x225277 r225284)
        refine G_iconst 0 dr_cX17_behind_21 (by decide +kernel) ?_
        refine G_istore_n (L' := [(2, .int 0), (0, .ref q222854), (1, .ref q222855)]) dr_cX17_behind_22 (Nat.le_of_ble_eq_true rfl) rfl ?_
        have hlp23_225562 : ∀ (n23_225562 : Nat) (F225556 : Nat → va_E) (g225555 : Int32), gB g225555 0 2 → RS D I P222852 F225556 γ el → rStr γ [] F222853 F225556 → (∀ k : Nat, k < 2048 → rbt (cL (F225556 (γ 9 2))) k = wyV g225555.toInt (fI (F222853 q222855) 2).toInt (fI (F222853 q222855) 3).toInt (lvS γ F222853) k) → rLv γ F222853 F225556 → (g225555.toInt = 0 ∨ ((fI (F222853 (γ 15 q222855)) 0).toInt ≠ 32 ∧ (g225555.toInt = 1 ∨ (g225555.toInt = 2 ∧ (fI (F222853 (γ 15 q222855)) 0).toInt ≠ 30 ∧ (fI (F222853 q222855) 2).toInt ≠ (fI (F222853 q222855) 3).toInt)))) → (F225556 q222854 = F222853 q222854) → (∀ (k : Nat) (e1 : Nat → va_E), tl_RModel_behind2_23 D I γ el P222852 F222853 q222855 q222854 F225556 g225555 k e1 → tl_RModel_behind2_23 D I γ el P222852 F222853 q222855 q222854 F225272 (0 : Int32) k e1) → ((3 : Int) - g225555.toInt).toNat < n23_225562 → G (gV D I) l (gRm 1 21 0 0) (gMA (gV D I) (pt_222856_SpillForgeModel_behind D I γ el P222852 F222853 q222854 q222855) gNA 0 0) ky_222856_SpillForgeModel_behind 23 [(2, .int g225555), (0, .ref q222854), (1, .ref q222855)] [] (va_pl P222852 F225556) 0 0 := by
          intro n23_225562
          induction n23_225562 with
          | zero => intro F225556 g225555 bg225555 hT225557 hs225558 x225559 x225560 x225561 x225562 kt23_225563 hm23_225562; exact absurd hm23_225562 (Nat.not_lt_zero _)
          | succ n23_225562 ih23_225562 =>
            intro F225556 g225555 bg225555 hT225557 hs225558 x225559 x225560 x225561 x225562 kt23_225563 hm23_225562
            have hs225564 : rStr γ [] F225272 F225556 := fun b h0 hb hw => (hs225558 b h0 hb hw).trans (hs225274 b h0 hb hw).symm
            have he225565 : F225556 q222855 = .inr (17, [.ref q222909, .ref q222910, .int p222911, .int p222912]) := (hs225564 q222855 (rT0 htq222855 (by decide)) (rT1 htq222855 (by decide)) (rT2 htq222855 (by decide))).trans he225280
            have he225566 : F225556 q222910 = .inr (20, [.int p222924, .int p222925, .int p222926, .int p222927, .int p222928, .int p222929, .int p222930]) := (hs225564 q222910 (rT0 ht222915 (by decide)) (rT1 ht222915 (by decide)) (rT2 ht222915 (by decide))).trans he225281
            have hs225567 : rStr γ [] F222853 F225556 := rStr_tr hs225274 hs225564
            refine G_iload_n 0 dr_cX17_behind_23 rfl ?_
            refine G_aload_n 2 dr_cX17_behind_24 rfl ?_
            have fq225568 : fI (F225556 q222855) 2 = p222911 := by rw [he225565]; rfl
            have fq225569 : fI (F225556 q222855) 3 = p222912 := by rw [he225565]; rfl
            have fq225570 : fR (F225556 q222855) 1 = q222910 := by rw [he225565]; rfl
            have fq225571 : fI (F225556 q222910) 0 = p222924 := by rw [he225566]; rfl
            refine Gw_callV (As := []) (gV_ok D I) (cp_223114_Block_ways l hl0 D I P222852 F225556 q222855 q222910 q222909 p222911 p222912 p222924 p222925 p222926 p222927 p222928 p222929 p222930 hm222907 hm222922 he225565 he225566 bp222911 bp222912 bp222924 bp222925 bp222928 bp222929 bp222930) dr_cX17_behind_25 ⟨wr_10_166, wr_1_38, wr_10_169, by decide, rfl, (Nat.le_of_ble_eq_true rfl), (Nat.le_of_ble_eq_true rfl)⟩ wr_10_167 wr_10_168 hm222907 he225565 rfl (show 0 + 0 ≤ 0 by first | omega | decide) (show 0 + 0 ≤ 0 by first | omega | decide) (Nat.le_of_ble_eq_true rfl) (fun r225575 w225576 dc225572 ds225573 hp225574 => ?_) (fun _ _ _ _ _ z => z.elim)
            obtain ⟨o225577, rfl, rfl, hdc, hds, bo225577, x225578, ht225579⟩ := hp225574
            change G _ _ _ _ _ _ _ (.int o225577 :: _) _ _ _
            refine G_widen (cs' := 0) (sl' := 0) (by omega) (by omega) ?_
            refine G_icmp_ge 72 dr_cX17_behind_28 (by decide +kernel) (fun hc225580 => ?_) (fun hc225580 => ?_)
            · have r225581 : o225577.toInt ≤ g225555.toInt := gC_le hc225580
              have hx225582 : tl_RModel_behind2_23 D I γ el P222852 F222853 q222855 q222854 F225272 (0 : Int32) 72 F225556 := kt23_225563 72 F225556 (fun R c1 c2 => c1 F225556 g225555 p222911 p222912 q222910 p222924 o225577 bg225555 hT225557 hs225558 x225559 x225560 x225561 x225562 fq225568 fq225569 fq225570 fq225571 bo225577 ht225579 r225581)
              have hm225583 : q222854 ∈ P222852 := RS_m hT225557 htq222854 (by decide)
              obtain ⟨q225585, q225586, p225587, p225588, p225589, p225590, p225591, p225592, p225593, p225594, p225595, p225596, p225597, p225598, p225599, p225600, p225601, he225584, hB225628, ht225602, ht225603, ht225604, ht225605, ht225606, ht225607, ht225608, ht225609, ht225610, ht225611, ht225612, ht225613, ht225614, ht225615, ht225616, ht225617, ht225618, ht225619, ht225620, ht225621, ht225622, ht225623, ht225624, ht225625, hB225629⟩ := show rk_10 γ (F225556 q222854) from RS_o hT225557 htq222854
              exact G_vretA dr_cX17_behind_72 rfl (Nat.le_of_ble_eq_true rfl) (Nat.le_of_ble_eq_true rfl) ⟨F225556, rfl, rfl, hT225557, hs225558, (Nat.le_of_ble_eq_true rfl), (Nat.le_of_ble_eq_true rfl), (fun k hk => (x225559 k hk).trans (bh_of (by omega))), x225560, x225562, (fun R c1 => c1 F225272 F225556 hx225285 hx225582)⟩
            · have r225630 : g225555.toInt < o225577.toInt := gC_nle hc225580
              have bg225555' : gB g225555 0 1 := ⟨by omega, by omega⟩
              have bo225577' : gB o225577 1 2 := ⟨by omega, by omega⟩
              refine G_iconst 0 dr_cX17_behind_31 (by decide +kernel) ?_
              refine G_istore_n (L' := [(3, .int 0), (2, .int g225555), (0, .ref q222854), (1, .ref q222855)]) dr_cX17_behind_32 (Nat.le_of_ble_eq_true rfl) rfl ?_
              have hlp33_225737 : ∀ (n33_225737 : Nat) (F225731 : Nat → va_E) (g225730 : Int32), gB g225730 0 32 → RS D I P222852 F225731 γ el → rStr γ [] F222853 F225731 → (∀ k : Nat, k < 2048 → rbt (cL (F225731 (γ 9 2))) k = if (k : Int) < 64 * g225730.toInt then wyV (g225555.toInt + 1) (fI (F222853 q222855) 2).toInt (fI (F222853 q222855) 3).toInt (lvS γ F222853) k else wyV g225555.toInt (fI (F222853 q222855) 2).toInt (fI (F222853 q222855) 3).toInt (lvS γ F222853) k) → rLv γ F222853 F225731 → ((g225555.toInt = 0 ∧ (fI (F222853 (γ 15 q222855)) 0).toInt ≠ 32) ∨ (g225555.toInt = 1 ∧ (fI (F222853 (γ 15 q222855)) 0).toInt ≠ 32 ∧ (fI (F222853 (γ 15 q222855)) 0).toInt ≠ 30 ∧ (fI (F222853 q222855) 2).toInt ≠ (fI (F222853 q222855) 3).toInt)) → (F225731 q222854 = F222853 q222854) → (∀ (k : Nat) (e1 : Nat → va_E), tl_RModel_behind2_33 D I γ el P222852 F222853 g225555 q222855 q222854 F225731 g225730 k e1 → tl_RModel_behind2_33 D I γ el P222852 F222853 g225555 q222855 q222854 F225556 (0 : Int32) k e1) → ((33 : Int) - g225730.toInt).toNat < n33_225737 → G (gV D I) l (gRm 1 21 0 0) (gMA (gV D I) (pt_222856_SpillForgeModel_behind D I γ el P222852 F222853 q222854 q222855) gNA 0 0) ky_222856_SpillForgeModel_behind 33 [(3, .int g225730), (2, .int g225555), (0, .ref q222854), (1, .ref q222855)] [] (va_pl P222852 F225731) 0 0 := by
                intro n33_225737
                induction n33_225737 with
                | zero => intro F225731 g225730 bg225730 hT225732 hs225733 x225734 x225735 x225736 x225737 kt33_225738 hm33_225737; exact absurd hm33_225737 (Nat.not_lt_zero _)
                | succ n33_225737 ih33_225737 =>
                  intro F225731 g225730 bg225730 hT225732 hs225733 x225734 x225735 x225736 x225737 kt33_225738 hm33_225737
                  have hs225739 : rStr γ [] F225556 F225731 := fun b h0 hb hw => (hs225733 b h0 hb hw).trans (hs225558 b h0 hb hw).symm
                  have he225740 : F225731 q222855 = .inr (17, [.ref q222909, .ref q222910, .int p222911, .int p222912]) := (hs225739 q222855 (rT0 htq222855 (by decide)) (rT1 htq222855 (by decide)) (rT2 htq222855 (by decide))).trans he225565
                  have he225741 : F225731 q222910 = .inr (20, [.int p222924, .int p222925, .int p222926, .int p222927, .int p222928, .int p222929, .int p222930]) := (hs225739 q222910 (rT0 ht222915 (by decide)) (rT1 ht222915 (by decide)) (rT2 ht222915 (by decide))).trans he225566
                  have hs225742 : rStr γ [] F222853 F225731 := rStr_tr hs225558 hs225739
                  refine G_iload_n 0 dr_cX17_behind_33 rfl ?_
                  refine G_bipush 32 dr_cX17_behind_34 (by decide +kernel) ?_
                  refine G_icmp_ge 66 dr_cX17_behind_36 (by decide +kernel) (fun hc225743 => ?_) (fun hc225743 => ?_)
                  · have r225744 : 32 ≤ g225730.toInt := gj_leL hc225743 (show Int32.toInt 32 = 32 by decide)
                    have bg225730' : gB g225730 32 32 := ⟨by omega, by omega⟩
                    have hx225745 : tl_RModel_behind2_33 D I γ el P222852 F222853 g225555 q222855 q222854 F225556 (0 : Int32) 66 F225731 := kt33_225738 66 F225731 (fun R c1 c2 => c1 F225731 g225730 bg225730 hT225732 hs225733 x225734 x225735 x225736 x225737 r225744)
                    obtain ⟨z225746, hz225746⟩ : ∃ z : Int32, z = g225555 + Int32.ofInt 1 := ⟨_, rfl⟩
                    have ez225746 : z225746.toInt = g225555.toInt + 1 := gI_inc hz225746 (by decide) bg225555' (by decide) (by decide)
                    have bz225746 : gB z225746 1 2 := ⟨by omega, by omega⟩
                    refine G_iinc (L' := [(2, .int z225746), (3, .int g225730), (0, .ref q222854), (1, .ref q222855)]) z225746 1 dr_cX17_behind_66 rfl hz225746.symm (Nat.le_of_ble_eq_true rfl) rfl ?_
                    refine G_goto 23 dr_cX17_behind_69 (by decide +kernel) ?_
                    refine G_lv (L' := [(2, .int z225746), (0, .ref q222854), (1, .ref q222855)]) [0, 2, 3] rfl ?_
                    exact ih23_225562 F225731 z225746 (gB_w bz225746 (by decide) (by decide)) hT225732 hs225733 (fun k hk => by have q := x225734 k hk; rw [if_pos (by omega)] at q; rw [ez225746]; exact q) x225735 (by rw [show fI (F222853 q222855) 2 = p222911 from by rw [he222908]; rfl, show fI (F222853 q222855) 3 = p222912 from by rw [he222908]; rfl] <;> (omega)) x225737 (fun k e1 ht => kt23_225563 k e1 (fun R c1 c2 => c2 F225556 g225555 p222911 p222912 q222910 p222924 o225577 F225731 z225746 k e1 bg225555 hT225557 hs225558 x225559 x225560 x225561 x225562 fq225568 fq225569 fq225570 fq225571 bo225577 ht225579 r225630 hx225745 ez225746 (ht R c1 c2))) (by omega)
                  · have r225747 : g225730.toInt < 32 := gj_nleL hc225743 (show Int32.toInt 32 = 32 by decide)
                    have bg225730' : gB g225730 0 31 := ⟨by omega, by omega⟩
                    refine G_aload_n 2 dr_cX17_behind_39 rfl ?_
                    have hm225748 : q222854 ∈ P222852 := RS_m hT225732 htq222854 (by decide)
                    obtain ⟨q225750, q225751, p225752, p225753, p225754, p225755, p225756, p225757, p225758, p225759, p225760, p225761, p225762, p225763, p225764, p225765, p225766, he225749, hB225793, ht225767, ht225768, ht225769, ht225770, ht225771, ht225772, ht225773, ht225774, ht225775, ht225776, ht225777, ht225778, ht225779, ht225780, ht225781, ht225782, ht225783, ht225784, ht225785, ht225786, ht225787, ht225788, ht225789, ht225790, hB225794⟩ := show rk_10 γ (F225731 q222854) from RS_o hT225732 htq222854
                    have fq225795 : fR (F225731 q222854) 2 = (γ 9 2) := by rw [he225749]; rfl
                    refine Gp_get 2 hm225748 he225749 dr_cX17_behind_40 (gk_X17 D I) (Nat.le_of_ble_eq_true rfl) wr_7_76 rfl ?_
                    refine G_iload_n 0 dr_cX17_behind_43 rfl ?_
                    refine G_dup2_11 dr_cX17_behind_44 rfl rfl ?_
                    have hm225796 : (γ 9 2) ∈ P222852 := RS_m hT225732 ht225771 (by decide)
                    obtain ⟨f225798, he225797, wf225798⟩ := show rk_35 I (F225731 (γ 9 2)) from RS_o hT225732 ht225771
                    refine Gp_lald 2 hm225796 he225797 dr_cX17_behind_45 rfl (gB_in bg225730' (by decide) (by decide)) (G_namL fun u225799 hu225799 => ?_)
                    have qu225799 : lb_Q u225799 (2000 - 64 * g225730.toInt) := lb_Wld hu225799 wf225798 (by omega) (by omega) (lb_Mod0 (by omega) (by omega))
                    refine G_aload_n 2 dr_cX17_behind_46 rfl ?_
                    have fq225800 : fR (F225731 q222854) 0 = (γ 9 0) := by rw [he225749]; rfl
                    refine Gp_get 0 hm225748 he225749 dr_cX17_behind_47 (gk_X17 D I) (Nat.le_of_ble_eq_true rfl) wr_7_74 rfl ?_
                    refine G_aload_n 3 dr_cX17_behind_50 rfl ?_
                    refine G_iload_n 1 dr_cX17_behind_51 rfl ?_
                    have fq225801 : fI (F225731 q222855) 2 = p222911 := by rw [he225740]; rfl
                    have fq225802 : fI (F225731 q222855) 3 = p222912 := by rw [he225740]; rfl
                    have fq225803 : fR (F225731 q222855) 1 = q222910 := by rw [he225740]; rfl
                    refine Gw_callV (As := [.int g225555]) (gV_ok D I) (cp_223249_Block_way l hl0 D I P222852 F225731 q222855 q222910 g225555 q222909 p222911 p222912 p222924 p222925 p222926 p222927 p222928 p222929 p222930 hm222907 hm222922 he225740 he225741 bp222911 bp222912 bp222924 bp222925 bp222928 bp222929 bp222930) dr_cX17_behind_52 ⟨wr_10_170, wr_1_38, wr_10_173, by decide, rfl, (Nat.le_of_ble_eq_true rfl), (Nat.le_of_ble_eq_true rfl)⟩ wr_10_171 wr_10_172 hm222907 he225740 rfl (show 0 + 0 ≤ 0 by first | omega | decide) (show 0 + 0 ≤ 0 by first | omega | decide) (Nat.le_of_ble_eq_true rfl) (fun r225807 w225808 dc225804 ds225805 hp225806 => ?_) (fun _ _ _ _ _ z => z.elim)
                    obtain ⟨o225809, rfl, rfl, hdc, hds, bo225809, x225810, ht225811⟩ := hp225806
                    change G _ _ _ _ _ _ _ (.int o225809 :: _) _ _ _
                    refine G_widen (cs' := 0) (sl' := 0) (by omega) (by omega) ?_
                    have hm225812 : (γ 9 0) ∈ P222852 := RS_m hT225732 ht225769 (by decide)
                    obtain ⟨f225814, he225813, hg225815⟩ := show rk_12 I γ (F225731 (γ 9 0)) from RS_o hT225732 ht225769
                    obtain ⟨q225816, hx225818⟩ : ∃ x, x = γ 10 o225809.toInt.toNat := ⟨_, rfl⟩
                    have ht225817 : rKd γ q225816 11 := by rw [hx225818]; exact (hg225815 _ (show o225809.toInt.toNat < 40 by omega)).2.1
                    refine Gp_aald 5 hm225812 he225813 dr_cX17_behind_55 rfl rfl (gB_in bo225809 (by decide) (by decide)) ?_
                    rw [show f225814 o225809.toNatClampNeg = some q225816 from (hg225815 _ (show o225809.toInt.toNat < 40 by omega)).1.trans (by rw [hx225818])]
                    change G _ _ _ _ _ _ _ (.ref q225816 :: _) _ _ _
                    refine G_iload_n 0 dr_cX17_behind_56 rfl ?_
                    have hm225819 : q225816 ∈ P222852 := RS_m hT225732 ht225817 (by decide)
                    obtain ⟨f225821, he225820, wf225821⟩ := show rk_11 I (F225731 q225816) from RS_o hT225732 ht225817
                    refine Gp_lald 2 hm225819 he225820 dr_cX17_behind_57 rfl (gB_in bg225730' (by decide) (by decide)) (G_namL fun u225822 hu225822 => ?_)
                    have qu225822 : lb_Q u225822 (2000 - 64 * g225730.toInt) := lb_Wld hu225822 wf225821 (by omega) (by omega) (lb_Mod0 (by omega) (by omega))
                    have hg225823 : ∀ k : Nat, lvS γ F222853 o225809.toInt.toNat k = rbt f225821 k := fun k => by unfold lvS; rw [← x225735 _ (show o225809.toInt.toNat < 40 by omega), ← hx225818, cL_of he225820]
                    refine G_lor dr_cX17_behind_58 (G_namL fun u225824 hu225824 => ?_)
                    have qu225824 : lb_Q u225824 (2000 - 64 * g225730.toInt) := lb_Qor hu225824 qu225799 qu225822
                    refine Gp_last 2 hm225796 he225797 dr_cX17_behind_59 rfl (gB_in bg225730' (by decide) (by decide)) (fun F225825 e225826 n225827 => ?_)
                    obtain ⟨f225828, hf225828⟩ : ∃ z, z = vp_updL f225798 g225730.toNatClampNeg u225824 := ⟨_, rfl⟩
                    rw [← hf225828] at e225826
                    have he225829 : F225825 q222855 = .inr (17, [.ref q222909, .ref q222910, .int p222911, .int p222912]) := (n225827 q222855 (rn_oa he225740 he225797)).trans he225740
                    have he225830 : F225825 q222910 = .inr (20, [.int p222924, .int p222925, .int p222926, .int p222927, .int p222928, .int p222929, .int p222930]) := (n225827 q222910 (rn_oa he225741 he225797)).trans he225741
                    have he225831 : F225825 q222854 = .inr (22, [.ref (γ 9 0), .ref (γ 9 1), .ref (γ 9 2), .ref (γ 9 3), .ref (γ 9 4), .ref (γ 9 5), .ref (γ 9 6), .ref (γ 9 7), .ref (γ 9 8), .int p225752, .int p225753, .int p225754, .int p225755, .int p225756, .int p225757, .ref (γ 9 15), .ref (γ 9 16), .ref (γ 9 17), .ref (γ 9 18), .ref (γ 9 19), .ref (γ 9 20), .ref (γ 9 21), .ref (γ 9 22), .int p225758, .int p225759, .int p225760, .int p225761, .int p225762, .ref q225750, .ref (γ 9 29), .int p225763, .ref (γ 9 31), .int p225764, .int p225765, .int p225766, .ref q225751]) := (n225827 q222854 (rn_oa he225749 he225797)).trans he225749
                    have he225832 : F225825 (γ 9 0) = .inl (I (.array .long), 40, .inr (.inr (.inr (.inr f225814)))) := (n225827 (γ 9 0) (rn_ref_long he225813 he225797)).trans he225813
                    have he225833 : F225825 q225816 = .inl (I .long, 32, .inr (.inl f225821)) := (n225827 q225816 (rn_ty ht225817 ht225771 (by decide))).trans he225820
                    have he225834 : F225825 (γ 9 2) = .inl (I .long, 32, .inr (.inl f225828)) := e225826
                    have hs225835 : rStr γ [] F222853 F225825 := rStr_put hs225733 n225827 ht225771 (by decide)
                    have kp225836 : F225825 q222854 = F222853 q222854 := (n225827 q222854 (rn_ty htq222854 ht225771 (by decide))).trans x225737
                    have wf225828 : lb_W f225828 (32) (32) (2000) := lb_Wst hf225828 wf225798 (by omega) (lb_Mod0 (by omega) (by omega)) qu225824
                    obtain ⟨z225837, hz225837⟩ : ∃ z : Int32, z = g225730 + Int32.ofInt 1 := ⟨_, rfl⟩
                    have ez225837 : z225837.toInt = g225730.toInt + 1 := gI_inc hz225837 (by decide) bg225730' (by decide) (by decide)
                    have bz225837 : gB z225837 1 32 := ⟨by omega, by omega⟩
                    refine G_iinc (L' := [(3, .int z225837), (2, .int g225555), (0, .ref q222854), (1, .ref q222855)]) z225837 0 dr_cX17_behind_60 rfl hz225837.symm (Nat.le_of_ble_eq_true rfl) rfl ?_
                    refine G_goto 33 dr_cX17_behind_63 (by decide +kernel) ?_
                    have hT225838 : RS D I P222852 F225825 γ el := RS_set hT225732 n225827 ht225771 (by decide) ⟨f225828, he225834, wf225828⟩
                    have lv225839 : rLv γ F222853 F225825 := rLv_put hT225732 ht225769 x225735 n225827 ht225771 (by decide)
                    exact ih33_225737 F225825 z225837 (gB_w bz225837 (by decide) (by decide)) hT225838 hs225835 (by rw [cL_of he225834]; exact or_st hu225799 hu225822 (by assumption) hf225828 bg225730'.1 ez225837 (by have q := x225734; rw [cL_of he225797] at q; exact q) (fun k => (wy_s (y := o225809.toInt) (by omega)).trans (by rw [hg225823 k]))) lv225839 (by rw [show fI (F222853 q222855) 2 = p222911 from by rw [he222908]; rfl, show fI (F222853 q222855) 3 = p222912 from by rw [he222908]; rfl] <;> (omega)) kp225836 (fun k e1 ht => kt33_225738 k e1 (fun R c1 c2 => c2 F225731 g225730 f225798 u225799 p222911 p222912 o225809 q225816 f225821 u225822 u225824 f225828 F225825 z225837 k e1 bg225730 hT225732 hs225733 x225734 x225735 x225736 x225737 r225747 fq225795 he225797 hu225799 fq225800 fq225801 fq225802 bo225809 ht225811 hx225818 he225820 hu225822 hu225824 hf225828 n225827 he225834 ez225837 (ht R c1 c2))) (by omega)
              exact hlp33_225737 (((33 : Int) - 0).toNat + 1) F225556 0 (gB_w (gBl (show Int32.toInt 0 = 0 by decide)) (by decide) (by decide)) hT225557 hs225558 (fun k hk => by rw [if_neg (by have qa : Int32.toInt 0 = 0 := (by decide); omega)]; exact x225559 k hk) x225560 (by rw [show fI (F222853 q222855) 2 = p222911 from by rw [he222908]; rfl, show fI (F222853 q222855) 3 = p222912 from by rw [he222908]; rfl] <;> (omega)) x225562 (fun k e1 ht => ht) (Nat.lt_succ_self _)
        exact hlp23_225562 (((3 : Int) - 0).toNat + 1) F225272 0 (gB_w (gBl (show Int32.toInt 0 = 0 by decide)) (by decide) (by decide)) hT225273 hs225274 (fun k hk => (rbt_z (x225275 _ (by omega))).trans wy_0.symm) x225276 (Or.inl (by decide)) x225277 (fun k e1 ht => ht) (Nat.lt_succ_self _)
      · have r225840 : g225271.toInt < 32 := gj_nleL hc225283 (show Int32.toInt 32 = 32 by decide)
        have bg225271' : gB g225271 0 31 := ⟨by omega, by omega⟩
        refine G_aload_n 1 dr_cX17_behind_8 rfl ?_
        have hm225841 : q222854 ∈ P222852 := RS_m hT225273 htq222854 (by decide)
        obtain ⟨q225843, q225844, p225845, p225846, p225847, p225848, p225849, p225850, p225851, p225852, p225853, p225854, p225855, p225856, p225857, p225858, p225859, he225842, hB225886, ht225860, ht225861, ht225862, ht225863, ht225864, ht225865, ht225866, ht225867, ht225868, ht225869, ht225870, ht225871, ht225872, ht225873, ht225874, ht225875, ht225876, ht225877, ht225878, ht225879, ht225880, ht225881, ht225882, ht225883, hB225887⟩ := show rk_10 γ (F225272 q222854) from RS_o hT225273 htq222854
        have fq225888 : fR (F225272 q222854) 2 = (γ 9 2) := by rw [he225842]; rfl
        refine Gp_get 2 hm225841 he225842 dr_cX17_behind_9 (gk_X17 D I) (Nat.le_of_ble_eq_true rfl) wr_7_76 rfl ?_
        refine G_iload_n 0 dr_cX17_behind_12 rfl ?_
        refine G_lconst 0 dr_cX17_behind_13 rfl ?_
        have hm225889 : (γ 9 2) ∈ P222852 := RS_m hT225273 ht225864 (by decide)
        obtain ⟨f225891, he225890, wf225891⟩ := show rk_35 I (F225272 (γ 9 2)) from RS_o hT225273 ht225864
        refine Gp_last 2 hm225889 he225890 dr_cX17_behind_14 rfl (gB_in bg225271' (by decide) (by decide)) (fun F225892 e225893 n225894 => ?_)
        obtain ⟨f225895, hf225895⟩ : ∃ z, z = vp_updL f225891 g225271.toNatClampNeg 0 := ⟨_, rfl⟩
        rw [← hf225895] at e225893
        have he225896 : F225892 q222855 = .inr (17, [.ref q222909, .ref q222910, .int p222911, .int p222912]) := (n225894 q222855 (rn_oa he225280 he225890)).trans he225280
        have he225897 : F225892 q222910 = .inr (20, [.int p222924, .int p222925, .int p222926, .int p222927, .int p222928, .int p222929, .int p222930]) := (n225894 q222910 (rn_oa he225281 he225890)).trans he225281
        have he225898 : F225892 q222854 = .inr (22, [.ref (γ 9 0), .ref (γ 9 1), .ref (γ 9 2), .ref (γ 9 3), .ref (γ 9 4), .ref (γ 9 5), .ref (γ 9 6), .ref (γ 9 7), .ref (γ 9 8), .int p225845, .int p225846, .int p225847, .int p225848, .int p225849, .int p225850, .ref (γ 9 15), .ref (γ 9 16), .ref (γ 9 17), .ref (γ 9 18), .ref (γ 9 19), .ref (γ 9 20), .ref (γ 9 21), .ref (γ 9 22), .int p225851, .int p225852, .int p225853, .int p225854, .int p225855, .ref q225843, .ref (γ 9 29), .int p225856, .ref (γ 9 31), .int p225857, .int p225858, .int p225859, .ref q225844]) := (n225894 q222854 (rn_oa he225842 he225890)).trans he225842
        have he225899 : F225892 (γ 9 2) = .inl (I .long, 32, .inr (.inl f225895)) := e225893
        have hs225900 : rStr γ [] F222853 F225892 := rStr_put hs225274 n225894 ht225864 (by decide)
        have kp225901 : F225892 q222854 = F222853 q222854 := (n225894 q222854 (rn_ty htq222854 ht225864 (by decide))).trans x225277
        have wf225895 : lb_W f225895 (32) (32) (2000) := lb_Wst hf225895 wf225891 (by omega) (lb_Mod0 (by omega) (by omega)) lb_Q0
        obtain ⟨z225902, hz225902⟩ : ∃ z : Int32, z = g225271 + Int32.ofInt 1 := ⟨_, rfl⟩
        have ez225902 : z225902.toInt = g225271.toInt + 1 := gI_inc hz225902 (by decide) bg225271' (by decide) (by decide)
        have bz225902 : gB z225902 1 32 := ⟨by omega, by omega⟩
        refine G_iinc (L' := [(2, .int z225902), (0, .ref q222854), (1, .ref q222855)]) z225902 0 dr_cX17_behind_15 rfl hz225902.symm (Nat.le_of_ble_eq_true rfl) rfl ?_
        refine G_goto 2 dr_cX17_behind_18 (by decide +kernel) ?_
        have hT225903 : RS D I P222852 F225892 γ el := RS_set hT225273 n225894 ht225864 (by decide) ⟨f225895, he225899, wf225895⟩
        have lv225904 : rLv γ F222853 F225892 := rLv_put hT225273 ht225862 x225276 n225894 ht225864 (by decide)
        exact ih2_225277 F225892 z225902 (gB_w bz225902 (by decide) (by decide)) hT225903 hs225900 (by rw [cL_of he225899]; exact zr_st hf225895 (by have q := x225275; rw [cL_of he225890] at q; exact q) ez225902 bg225271'.1) lv225904 kp225901 (fun k e1 ht => kt2_225278 k e1 (fun R c1 c2 => c2 F225272 g225271 f225891 f225895 F225892 z225902 k e1 bg225271 hT225273 hs225274 x225275 x225276 x225277 r225840 fq225888 he225890 hf225895 n225894 he225899 ez225902 (ht R c1 c2))) (by omega)
  exact hlp2_225277 (((33 : Int) - 0).toNat + 1) F222853 0 (gB_w (gBl (show Int32.toInt 0 = 0 by decide)) (by decide) (by decide)) hT (rStr_rf (γ := γ) (W := []) (F := F222853)) (fun j hj => absurd hj (by have qa : Int32.toInt 0 = 0 := (by decide); omega)) (rLv_rf (γ := γ) (F := F222853)) rfl (fun k e1 ht => ht) (Nat.lt_succ_self _)
/- tl_RModel_findLive_131: F, l6, l3; out: l3, F -/
def tl_RModel_findLive_131 (D : va_G) (I : FieldType → ClassId) (γ el : Nat → Nat → Nat) (P : List Nat) (F : Nat → va_E) (l4_2 : Int32) (F_2 : Nat → va_E) (a2 : Int32) (c1 : Nat) (F_1 : Nat → va_E) (q1 : Nat) (q0 : Nat) (s1 : Nat → va_E) (s2 : Int32) (s3 : Int32) (k : Nat) (e1 : Int32) (e2 : Nat → va_E) : Prop := ∀ R : (Nat → va_E) → (Int32) → (Int32) → Nat → (Int32) → (Nat → va_E) → Prop,
  (∀ (F_3 : Nat → va_E) (l6_3 : Int32) (l3_3 : Int32), gB l6_3 0 32 → gB l3_3 0 1 → RS D I P F_3 γ el → rStr γ [] F F_3 → ((∀ i : Nat, i < 40 → (i : Int) ≠ l4_2.toInt → F_3 (γ 10 i) = F_2 (γ 10 i))) → ((∀ k : Nat, k < 2048 → rbt (cL (F_3 (γ 9 2))) k = trS γ el F (decide (a2.toInt = 1)) c1 (lvM γ F_2) (γ 2 (γ 14 c1)) k)) → ((∀ k : Nat, k < 2048 → lvS γ F_3 (l4_2.toInt : Int).toNat k = if (k : Int) < 64 * l6_3.toInt then trS γ el F (decide (a2.toInt = 1)) c1 (lvM γ F_2) (γ 2 (γ 14 c1)) k else lvS γ F_2 (l4_2.toInt : Int).toNat k)) → (lvT γ F_1 + (l3_3.toInt : Int).toNat ≤ lvT γ F_3) → (c1 = el (γ 14 q1) (l4_2.toInt : Int).toNat) → (F_3 q0 = F q0) → 32 ≤ l6_3.toInt → R F_3 l6_3 l3_3 192 l3_3 F_3) →
  (∀ (F_3 : Nat → va_E) (l6_3 : Int32) (l3_3 : Int32) (x1 : Nat) (x2 : Nat → Int64) (x3 : Int64) (x4 : Nat → Int64) (x5 : Nat → Int64) (x6 : Nat → va_E) (x7 : Int32) (k : Nat) (e1 : Int32) (e2 : Nat → va_E), gB l6_3 0 32 → gB l3_3 0 1 → RS D I P F_3 γ el → rStr γ [] F F_3 → ((∀ i : Nat, i < 40 → (i : Int) ≠ l4_2.toInt → F_3 (γ 10 i) = F_2 (γ 10 i))) → ((∀ k : Nat, k < 2048 → rbt (cL (F_3 (γ 9 2))) k = trS γ el F (decide (a2.toInt = 1)) c1 (lvM γ F_2) (γ 2 (γ 14 c1)) k)) → ((∀ k : Nat, k < 2048 → lvS γ F_3 (l4_2.toInt : Int).toNat k = if (k : Int) < 64 * l6_3.toInt then trS γ el F (decide (a2.toInt = 1)) c1 (lvM γ F_2) (γ 2 (γ 14 c1)) k else lvS γ F_2 (l4_2.toInt : Int).toNat k)) → (lvT γ F_1 + (l3_3.toInt : Int).toNat ≤ lvT γ F_3) → (c1 = el (γ 14 q1) (l4_2.toInt : Int).toNat) → (F_3 q0 = F q0) → l6_3.toInt < 32 → l3_3.toInt ≠ 0 → fR (F_3 q0) 0 = (γ 9 0) → x1 = γ 10 l4_2.toInt.toNat → fR (F_3 q0) 2 = (γ 9 2) → F_3 (γ 9 2) = .inl (I .long, 32, .inr (.inl x2)) → x3 = x2 l6_3.toNatClampNeg → F_3 x1 = .inl (I .long, 32, .inr (.inl x4)) → x5 = vp_updL x4 l6_3.toNatClampNeg x3 → (∀ b, b ≠ x1 → x6 b = F_3 b) → x6 x1 = .inl (I .long, 32, .inr (.inl x5)) → x7.toInt = l6_3.toInt + 1 → R x6 x7 (1 : Int32) k e1 e2 → R F_3 l6_3 l3_3 k e1 e2) →
  (∀ (F_3 : Nat → va_E) (l6_3 : Int32) (l3_3 : Int32) (x1 : Nat) (x2 : Nat → Int64) (x3 : Int64) (x4 : Nat → Int64) (x5 : Int64) (x6 : Nat → Int64) (x7 : Nat → va_E) (x8 : Int32) (k : Nat) (e1 : Int32) (e2 : Nat → va_E), gB l6_3 0 32 → gB l3_3 0 1 → RS D I P F_3 γ el → rStr γ [] F F_3 → ((∀ i : Nat, i < 40 → (i : Int) ≠ l4_2.toInt → F_3 (γ 10 i) = F_2 (γ 10 i))) → ((∀ k : Nat, k < 2048 → rbt (cL (F_3 (γ 9 2))) k = trS γ el F (decide (a2.toInt = 1)) c1 (lvM γ F_2) (γ 2 (γ 14 c1)) k)) → ((∀ k : Nat, k < 2048 → lvS γ F_3 (l4_2.toInt : Int).toNat k = if (k : Int) < 64 * l6_3.toInt then trS γ el F (decide (a2.toInt = 1)) c1 (lvM γ F_2) (γ 2 (γ 14 c1)) k else lvS γ F_2 (l4_2.toInt : Int).toNat k)) → (lvT γ F_1 + (l3_3.toInt : Int).toNat ≤ lvT γ F_3) → (c1 = el (γ 14 q1) (l4_2.toInt : Int).toNat) → (F_3 q0 = F q0) → l6_3.toInt < 32 → l3_3.toInt = 0 → fR (F_3 q0) 0 = (γ 9 0) → x1 = γ 10 l4_2.toInt.toNat → F_3 x1 = .inl (I .long, 32, .inr (.inl x2)) → x3 = x2 l6_3.toNatClampNeg → fR (F_3 q0) 2 = (γ 9 2) → F_3 (γ 9 2) = .inl (I .long, 32, .inr (.inl x4)) → x5 = x4 l6_3.toNatClampNeg → x3 = x5 → x6 = vp_updL x2 l6_3.toNatClampNeg x5 → (∀ b, b ≠ x1 → x7 b = F_3 b) → x7 x1 = .inl (I .long, 32, .inr (.inl x6)) → x8.toInt = l6_3.toInt + 1 → R x7 x8 (0 : Int32) k e1 e2 → R F_3 l6_3 l3_3 k e1 e2) →
  (∀ (F_3 : Nat → va_E) (l6_3 : Int32) (l3_3 : Int32) (x1 : Nat) (x2 : Nat → Int64) (x3 : Int64) (x4 : Nat → Int64) (x5 : Int64) (x6 : Nat → Int64) (x7 : Nat → va_E) (x8 : Int32) (k : Nat) (e1 : Int32) (e2 : Nat → va_E), gB l6_3 0 32 → gB l3_3 0 1 → RS D I P F_3 γ el → rStr γ [] F F_3 → ((∀ i : Nat, i < 40 → (i : Int) ≠ l4_2.toInt → F_3 (γ 10 i) = F_2 (γ 10 i))) → ((∀ k : Nat, k < 2048 → rbt (cL (F_3 (γ 9 2))) k = trS γ el F (decide (a2.toInt = 1)) c1 (lvM γ F_2) (γ 2 (γ 14 c1)) k)) → ((∀ k : Nat, k < 2048 → lvS γ F_3 (l4_2.toInt : Int).toNat k = if (k : Int) < 64 * l6_3.toInt then trS γ el F (decide (a2.toInt = 1)) c1 (lvM γ F_2) (γ 2 (γ 14 c1)) k else lvS γ F_2 (l4_2.toInt : Int).toNat k)) → (lvT γ F_1 + (l3_3.toInt : Int).toNat ≤ lvT γ F_3) → (c1 = el (γ 14 q1) (l4_2.toInt : Int).toNat) → (F_3 q0 = F q0) → l6_3.toInt < 32 → l3_3.toInt = 0 → fR (F_3 q0) 0 = (γ 9 0) → x1 = γ 10 l4_2.toInt.toNat → F_3 x1 = .inl (I .long, 32, .inr (.inl x2)) → x3 = x2 l6_3.toNatClampNeg → fR (F_3 q0) 2 = (γ 9 2) → F_3 (γ 9 2) = .inl (I .long, 32, .inr (.inl x4)) → x5 = x4 l6_3.toNatClampNeg → (¬ x3 = x5) → x6 = vp_updL x2 l6_3.toNatClampNeg x5 → (∀ b, b ≠ x1 → x7 b = F_3 b) → x7 x1 = .inl (I .long, 32, .inr (.inl x6)) → x8.toInt = l6_3.toInt + 1 → R x7 x8 (1 : Int32) k e1 e2 → R F_3 l6_3 l3_3 k e1 e2) →
  R s1 s2 s3 k e1 e2
/- tl_RModel_findLive_99: F, l6; out: F -/
def tl_RModel_findLive_99 (D : va_G) (I : FieldType → ClassId) (γ el : Nat → Nat → Nat) (P : List Nat) (F : Nat → va_E) (F_2 : Nat → va_E) (a2 : Int32) (c1 : Nat) (q1 : Nat) (l4_2 : Int32) (q0 : Nat) (s1 : Nat → va_E) (s2 : Int32) (k : Nat) (e1 : Nat → va_E) : Prop := ∀ R : (Nat → va_E) → (Int32) → Nat → (Nat → va_E) → Prop,
  (∀ (F_3 : Nat → va_E) (l6_3 : Int32), gB l6_3 (-1) 999999 → RS D I P F_3 γ el → rStr γ [] F F_3 → rLv γ F_2 F_3 → ((∀ k : Nat, k < 2048 → rbt (cL (F_3 (γ 9 2))) k = trS γ el F (decide (a2.toInt = 1)) c1 (lvM γ F_2) ((((γ 2 (γ 14 c1) : Nat) : Int) - 1 - l6_3.toInt).toNat) k)) → ((l6_3.toInt : Int) < γ 2 (γ 14 c1)) → (c1 = el (γ 14 q1) (l4_2.toInt : Int).toNat) → (F_3 q0 = F q0) → l6_3.toInt < 0 → R F_3 l6_3 128 F_3) →
  (∀ (F_3 : Nat → va_E) (l6_3 : Int32) (x1 : Nat) (x2 : Nat) (x3 : Int32) (x4 : Nat → va_E) (x5 : Int32) (k : Nat) (e1 : Nat → va_E), gB l6_3 (-1) 999999 → RS D I P F_3 γ el → rStr γ [] F F_3 → rLv γ F_2 F_3 → ((∀ k : Nat, k < 2048 → rbt (cL (F_3 (γ 9 2))) k = trS γ el F (decide (a2.toInt = 1)) c1 (lvM γ F_2) ((((γ 2 (γ 14 c1) : Nat) : Int) - 1 - l6_3.toInt).toNat) k)) → ((l6_3.toInt : Int) < γ 2 (γ 14 c1)) → (c1 = el (γ 14 q1) (l4_2.toInt : Int).toNat) → (F_3 q0 = F q0) → 0 ≤ l6_3.toInt → fR (F_3 c1) 0 = x1 → x2 = el x1 l6_3.toInt.toNat → fI (F_3 x1) 2 = x3 → tr_RArrayList_get l6_3 x3 → RS D I P x4 γ el → rStr γ [] F_3 x4 → ((∀ k : Nat, rbt (cL (x4 (γ 9 2))) k = bkS (F_3 x2) (decide (a2.toInt = 1)) (rbt (cL (F_3 (γ 9 2)))) k)) → rLv γ F_3 x4 → (x4 q0 = F_3 q0) → tr_RModel_back2 D I γ el P F_3 q0 x2 a2 x4 → x5.toInt = l6_3.toInt + (-1) → R x4 x5 k e1 → R F_3 l6_3 k e1) →
  R s1 s2 k e1
/- tl_RModel_findLive_58: F, l4, l3; out: l3, F -/
def tl_RModel_findLive_58 (D : va_G) (I : FieldType → ClassId) (γ el : Nat → Nat → Nat) (P : List Nat) (F : Nat → va_E) (q1 : Nat) (a2 : Int32) (F_1 : Nat → va_E) (q0 : Nat) (s1 : Nat → va_E) (s2 : Int32) (s3 : Int32) (k : Nat) (e1 : Int32) (e2 : Nat → va_E) : Prop := ∀ R : (Nat → va_E) → (Int32) → (Int32) → Nat → (Int32) → (Nat → va_E) → Prop,
  (∀ (F_2 : Nat → va_E) (l4_2 : Int32) (l3_2 : Int32), gB l4_2 (-1) 999999 → gB l3_2 0 1 → RS D I P F_2 γ el → rStr γ [] F F_2 → rJv γ el F F_2 q1 (decide (a2.toInt = 1)) (γ 6 (γ 1 q1)) → (lvT γ F_1 + (l3_2.toInt : Int).toNat ≤ lvT γ F_2) → ((l4_2.toInt : Int) < γ 6 (γ 1 q1)) → (F_2 q0 = F q0) → l4_2.toInt < 0 → R F_2 l4_2 l3_2 198 l3_2 F_2) →
  (∀ (F_2 : Nat → va_E) (l4_2 : Int32) (l3_2 : Int32) (x1 : Nat) (x2 : Nat) (x3 : Int32) (x4 : Nat → va_E) (x5 : Nat) (x6 : Nat → va_E) (x7 : Nat) (x8 : Int32) (x9 : Int32) (x10 : Nat → va_E) (x11 : Int32) (x12 : Nat → va_E) (x13 : Int32) (k : Nat) (e1 : Int32) (e2 : Nat → va_E), gB l4_2 (-1) 999999 → gB l3_2 0 1 → RS D I P F_2 γ el → rStr γ [] F F_2 → rJv γ el F F_2 q1 (decide (a2.toInt = 1)) (γ 6 (γ 1 q1)) → (lvT γ F_1 + (l3_2.toInt : Int).toNat ≤ lvT γ F_2) → ((l4_2.toInt : Int) < γ 6 (γ 1 q1)) → (F_2 q0 = F q0) → 0 ≤ l4_2.toInt → fR (F_2 q1) 0 = x1 → x2 = el x1 l4_2.toInt.toNat → fI (F_2 x1) 2 = x3 → tr_RCode_get l4_2 x3 → RS D I P x4 γ el → rStr γ [] F_2 x4 → ((∀ k : Nat, k < 2048 → rbt (cL (x4 (γ 9 2))) k = bhV (fI (F_2 (γ 15 x2)) 0).toInt (fI (F_2 x2) 2).toInt (fI (F_2 x2) 3).toInt (lvS γ F_2) k)) → rLv γ F_2 x4 → (x4 q0 = F_2 q0) → tr_RModel_behind2 D I γ el P F_2 q0 x2 x4 → fR (x4 x2) 1 = x5 → RS D I P x6 γ el → rStr γ [] x4 x6 → ((∀ k : Nat, rbt (cL (x6 (γ 9 2))) k = bkS (x4 x5) (decide (a2.toInt = 1)) (rbt (cL (x4 (γ 9 2)))) k)) → rLv γ x4 x6 → (x6 q0 = x4 q0) → tr_RModel_back2 D I γ el P x4 q0 x5 a2 x6 → fR (x6 x2) 0 = x7 → x8.toInt = (γ 2 x7 : Int) → fI (x6 x7) 2 = x8 → x9.toInt = x8.toInt - 1 → tl_RModel_findLive_99 D I γ el P F F_2 a2 x2 q1 l4_2 q0 x6 x9 128 x10 → tl_RModel_findLive_131 D I γ el P F l4_2 F_2 a2 x2 F_1 q1 q0 x10 (0 : Int32) l3_2 192 x11 x12 → x13.toInt = l4_2.toInt + (-1) → R x12 x13 x11 k e1 e2 → R F_2 l4_2 l3_2 k e1 e2) →
  R s1 s2 s3 k e1 e2
/- tl_RModel_findLive_44: F, l3; out: F -/
def tl_RModel_findLive_44 (D : va_G) (I : FieldType → ClassId) (γ el : Nat → Nat → Nat) (P : List Nat) (F : Nat → va_E) (q1 : Nat) (a2 : Int32) (q0 : Nat) (s1 : Nat → va_E) (s2 : Int32) (k : Nat) (e1 : Nat → va_E) : Prop := ∀ R : (Nat → va_E) → (Int32) → Nat → (Nat → va_E) → Prop,
  (∀ (F_1 : Nat → va_E) (l3_1 : Int32), gB l3_1 0 1 → RS D I P F_1 γ el → rStr γ [] F F_1 → rJv γ el F F_1 q1 (decide (a2.toInt = 1)) (γ 6 (γ 1 q1)) → (F_1 q0 = F q0) → l3_1.toInt = 0 → R F_1 l3_1 201 F_1) →
  (∀ (F_1 : Nat → va_E) (l3_1 : Int32) (x1 : Int32) (x2 : Int32) (x3 : Int32) (x4 : Nat → va_E) (k : Nat) (e1 : Nat → va_E), gB l3_1 0 1 → RS D I P F_1 γ el → rStr γ [] F F_1 → rJv γ el F F_1 q1 (decide (a2.toInt = 1)) (γ 6 (γ 1 q1)) → (F_1 q0 = F q0) → l3_1.toInt ≠ 0 → fI (F_1 q1) 3 = x1 → x2.toInt = x1.toInt - 1 → tl_RModel_findLive_58 D I γ el P F q1 a2 F_1 q0 F_1 x2 (0 : Int32) 198 x3 x4 → R x4 x3 k e1 → R F_1 l3_1 k e1) →
  R s1 s2 k e1
/- tl_RModel_findLive_13: F, l4; out: F -/
def tl_RModel_findLive_13 (D : va_G) (I : FieldType → ClassId) (γ el : Nat → Nat → Nat) (P : List Nat) (F : Nat → va_E) (l3_1 : Int32) (q0 : Nat) (s1 : Nat → va_E) (s2 : Int32) (k : Nat) (e1 : Nat → va_E) : Prop := ∀ R : (Nat → va_E) → (Int32) → Nat → (Nat → va_E) → Prop,
  (∀ (F_2 : Nat → va_E) (l4_2 : Int32), gB l4_2 0 32 → RS D I P F_2 γ el → rStr γ [] F F_2 → ((∀ i : Nat, (i : Int) < l3_1.toInt → ∀ j : Nat, j < 32 → cL (F_2 (γ 10 i)) j = 0)) → ((∀ j : Nat, (j : Int) < l4_2.toInt → cL (F_2 (γ 10 (l3_1.toInt : Int).toNat)) j = 0)) → (F_2 q0 = F q0) → 32 ≤ l4_2.toInt → R F_2 l4_2 36 F_2) →
  (∀ (F_2 : Nat → va_E) (l4_2 : Int32) (x1 : Nat) (x2 : Nat → Int64) (x3 : Nat → Int64) (x4 : Nat → va_E) (x5 : Int32) (k : Nat) (e1 : Nat → va_E), gB l4_2 0 32 → RS D I P F_2 γ el → rStr γ [] F F_2 → ((∀ i : Nat, (i : Int) < l3_1.toInt → ∀ j : Nat, j < 32 → cL (F_2 (γ 10 i)) j = 0)) → ((∀ j : Nat, (j : Int) < l4_2.toInt → cL (F_2 (γ 10 (l3_1.toInt : Int).toNat)) j = 0)) → (F_2 q0 = F q0) → l4_2.toInt < 32 → fR (F_2 q0) 0 = (γ 9 0) → x1 = γ 10 l3_1.toInt.toNat → F_2 x1 = .inl (I .long, 32, .inr (.inl x2)) → x3 = vp_updL x2 l4_2.toNatClampNeg 0 → (∀ b, b ≠ x1 → x4 b = F_2 b) → x4 x1 = .inl (I .long, 32, .inr (.inl x3)) → x5.toInt = l4_2.toInt + 1 → R x4 x5 k e1 → R F_2 l4_2 k e1) →
  R s1 s2 k e1
/- tl_RModel_findLive_2: F, l3; out: F -/
def tl_RModel_findLive_2 (D : va_G) (I : FieldType → ClassId) (γ el : Nat → Nat → Nat) (P : List Nat) (F : Nat → va_E) (q0 : Nat) (q1 : Nat) (s1 : Nat → va_E) (s2 : Int32) (k : Nat) (e1 : Nat → va_E) : Prop := ∀ R : (Nat → va_E) → (Int32) → Nat → (Nat → va_E) → Prop,
  (∀ (F_1 : Nat → va_E) (l3_1 : Int32) (x1 : Int32), gB l3_1 0 1000000 → RS D I P F_1 γ el → rStr γ [] F F_1 → ((∀ i : Nat, (i : Int) < l3_1.toInt → ∀ j : Nat, j < 32 → cL (F_1 (γ 10 i)) j = 0)) → (F_1 q0 = F q0) → fI (F_1 q1) 3 = x1 → x1.toInt ≤ l3_1.toInt → R F_1 l3_1 42 F_1) →
  (∀ (F_1 : Nat → va_E) (l3_1 : Int32) (x1 : Int32) (x2 : Nat → va_E) (x3 : Int32) (k : Nat) (e1 : Nat → va_E), gB l3_1 0 1000000 → RS D I P F_1 γ el → rStr γ [] F F_1 → ((∀ i : Nat, (i : Int) < l3_1.toInt → ∀ j : Nat, j < 32 → cL (F_1 (γ 10 i)) j = 0)) → (F_1 q0 = F q0) → fI (F_1 q1) 3 = x1 → l3_1.toInt < x1.toInt → tl_RModel_findLive_13 D I γ el P F l3_1 q0 F_1 (0 : Int32) 36 x2 → x3.toInt = l3_1.toInt + 1 → R x2 x3 k e1 → R F_1 l3_1 k e1) →
  R s1 s2 k e1
/- tr_RModel_findLive: F -/
def tr_RModel_findLive (D : va_G) (I : FieldType → ClassId) (γ el : Nat → Nat → Nat) (P : List Nat) (F : Nat → va_E) (q0 : Nat) (q1 : Nat) (a2 : Int32) (o1 : Nat → va_E) : Prop := ∀ R : (Nat → va_E) → Prop,
  (∀ (x1 : Nat → va_E) (x2 : Nat → va_E), tl_RModel_findLive_2 D I γ el P F q0 q1 F (0 : Int32) 42 x1 → tl_RModel_findLive_44 D I γ el P F q1 a2 q0 x1 (1 : Int32) 201 x2 → R x2) →
  R o1
abbrev ky_225912_SpillForgeModel_findLive : gKey := (cX17_findLive, 7, "SpillForgeModel", none, [], "findLive", fun _ _ => True)
def pt_225912_SpillForgeModel_findLive (D : va_G) (I : FieldType → ClassId) (γ el : Nat → Nat → Nat) (P225906 : List Nat) (F225907 : Nat → va_E) (q225908 : Nat) (q225909 : Nat) (p225910 : Int32) : Option Value → va_W → Nat → Nat → Prop := fun r w dc ds => ∃ (F277509 : Nat → va_E), r = none ∧ w = va_pl P225906 F277509 ∧ RS D I P225906 F277509 γ el ∧ rStr γ [] F225907 F277509 ∧ dc ≤ 0 ∧ ds ≤ 0 ∧ (F277509 q225908 = F225907 q225908) ∧ tr_RModel_findLive D I γ el P225906 F225907 q225908 q225909 p225910 F277509
set_option maxRecDepth 100000 in
set_option maxHeartbeats 4000000 in
theorem ct_225912_SpillForgeModel_findLive (l : Launch) (hl0 : l.stackTraces = false) (D : va_G) (I : FieldType → ClassId) (γ el : Nat → Nat → Nat) (P225906 : List Nat) (F225907 : Nat → va_E) (q225908 : Nat) (q225909 : Nat) (p225910 : Int32) (hT : RS D I P225906 F225907 γ el) (htq225908 : rKd γ q225908 10) (htq225909 : rKd γ q225909 9) (bp225910 : gB p225910 0 1) (x225911 : 0 < γ 6 (γ 1 q225909)) : CtA (gV D I) l yX17_findLive cX17_findLive 7 none 4 85 0 0 [.ref q225908, .ref q225909, .int p225910] (va_pl P225906 F225907) (pt_225912_SpillForgeModel_findLive D I γ el P225906 F225907 q225908 q225909 p225910) gNA := by
  refine CtA_of hl0 (by decide) (Nat.le_of_ble_eq_true rfl) ?_
  have hm225913 : q225908 ∈ P225906 := RS_m hT htq225908 (by decide)
  obtain ⟨q225915, q225916, p225917, p225918, p225919, p225920, p225921, p225922, p225923, p225924, p225925, p225926, p225927, p225928, p225929, p225930, p225931, he225914, hB225958, ht225932, ht225933, ht225934, ht225935, ht225936, ht225937, ht225938, ht225939, ht225940, ht225941, ht225942, ht225943, ht225944, ht225945, ht225946, ht225947, ht225948, ht225949, ht225950, ht225951, ht225952, ht225953, ht225954, ht225955, hB225959⟩ := show rk_10 γ (F225907 q225908) from RS_o hT htq225908
  have hm225960 : (γ 9 2) ∈ P225906 := RS_m hT ht225936 (by decide)
  obtain ⟨f225962, he225961, wf225962⟩ := show rk_35 I (F225907 (γ 9 2)) from RS_o hT ht225936
  refine G_iconst 0 dr_cX17_findLive_0 (by decide +kernel) ?_
  refine G_istore_n (L' := [(3, .int 0), (0, .ref q225908), (1, .ref q225909), (2, .int p225910)]) dr_cX17_findLive_1 (Nat.le_of_ble_eq_true rfl) rfl ?_
  have hlp2_272349 : ∀ (n2_272349 : Nat) (F272345 : Nat → va_E) (g272344 : Int32), gB g272344 0 1000000 → RS D I P225906 F272345 γ el → rStr γ [] F225907 F272345 → (∀ i : Nat, (i : Int) < g272344.toInt → ∀ j : Nat, j < 32 → cL (F272345 (γ 10 i)) j = 0) → (F272345 q225908 = F225907 q225908) → (∀ (k : Nat) (e1 : Nat → va_E), tl_RModel_findLive_2 D I γ el P225906 F225907 q225908 q225909 F272345 g272344 k e1 → tl_RModel_findLive_2 D I γ el P225906 F225907 q225908 q225909 F225907 (0 : Int32) k e1) → ((1000001 : Int) - g272344.toInt).toNat < n2_272349 → G (gV D I) l (gRm 4 85 0 0) (gMA (gV D I) (pt_225912_SpillForgeModel_findLive D I γ el P225906 F225907 q225908 q225909 p225910) gNA 0 0) ky_225912_SpillForgeModel_findLive 2 [(3, .int g272344), (0, .ref q225908), (1, .ref q225909), (2, .int p225910)] [] (va_pl P225906 F272345) 0 0 := by
    intro n2_272349
    induction n2_272349 with
    | zero => intro F272345 g272344 bg272344 hT272346 hs272347 x272348 x272349 kt2_272350 hm2_272349; exact absurd hm2_272349 (Nat.not_lt_zero _)
    | succ n2_272349 ih2_272349 =>
      intro F272345 g272344 bg272344 hT272346 hs272347 x272348 x272349 kt2_272350 hm2_272349
      have hs272351 : rStr γ [] F225907 F272345 := fun b h0 hb hw => (hs272347 b h0 hb hw).trans ((rStr_rf (γ := γ) (W := []) (F := F225907)) b h0 hb hw).symm
      have hs272352 : rStr γ [] F225907 F272345 := rStr_tr (rStr_rf (γ := γ) (W := []) (F := F225907)) hs272351
      refine G_iload_n 0 dr_cX17_findLive_2 rfl ?_
      refine G_aload_n 2 dr_cX17_findLive_3 rfl ?_
      have hm272353 : q225909 ∈ P225906 := RS_m hT272346 htq225909 (by decide)
      obtain ⟨q272355, q272356, p272357, p272358, he272354, ht272374, ht272359, ht272360, ht272361, ht272362, r272363, r272364, r272365, r272366, r272367, r272368, r272369, r272370, r272371, r272372, r272373⟩ := show rk_9 γ el q225909 (F272345 q225909) from RS_o hT272346 htq225909
      have bp272357 : gB p272357 0 1000000 := ⟨by omega, by omega⟩
      have bp272358 : gB p272358 0 1000000 := ⟨by omega, by omega⟩
      have fq272375 : fI (F272345 q225909) 3 = p272358 := by rw [he272354]; rfl
      refine Gw_callV (As := []) (gV_ok D I) (cp_12780_Code_size l hl0 D I P225906 F272345 q225909 q272355 q272356 p272357 p272358 hm272353 he272354) dr_cX17_findLive_4 ⟨wr_10_160, wr_1_15, wr_9_131, by decide, rfl, (Nat.le_of_ble_eq_true rfl), (Nat.le_of_ble_eq_true rfl)⟩ wr_9_129 wr_9_130 hm272353 he272354 rfl (show 0 + 0 ≤ 0 by first | omega | decide) (show 0 + 0 ≤ 0 by first | omega | decide) (Nat.le_of_ble_eq_true rfl) (fun r272379 w272380 dc272376 ds272377 hp272378 => ?_) (fun _ _ _ _ _ z => z.elim)
      obtain ⟨rfl, rfl, hdc, hds⟩ := hp272378
      change G _ _ _ _ _ _ _ (.int p272358 :: _) _ _ _
      refine G_widen (cs' := 0) (sl' := 0) (by omega) (by omega) ?_
      refine G_icmp_ge 42 dr_cX17_findLive_7 (by decide +kernel) (fun hc272381 => ?_) (fun hc272381 => ?_)
      · have r272382 : p272358.toInt ≤ g272344.toInt := gC_le hc272381
        have hx272383 : tl_RModel_findLive_2 D I γ el P225906 F225907 q225908 q225909 F225907 (0 : Int32) 42 F272345 := kt2_272350 42 F272345 (fun R c1 c2 => c1 F272345 g272344 p272358 bg272344 hT272346 hs272347 x272348 x272349 fq272375 r272382)
        refine G_iconst 1 dr_cX17_findLive_42 (by decide +kernel) ?_
        refine G_istore_n (L' := [(3, .int 1), (0, .ref q225908), (1, .ref q225909), (2, .int p225910)]) dr_cX17_findLive_43 (Nat.le_of_ble_eq_true rfl) rfl ?_
        have hlp44_274858 : ∀ (n44_274858 : Nat) (F274854 : Nat → va_E) (g274853 : Int32), gB g274853 0 1 → RS D I P225906 F274854 γ el → rStr γ [] F225907 F274854 → rJv γ el F225907 F274854 q225909 (decide (p225910.toInt = 1)) (γ 6 (γ 1 q225909)) → (F274854 q225908 = F225907 q225908) → (∀ (k : Nat) (e1 : Nat → va_E), tl_RModel_findLive_44 D I γ el P225906 F225907 q225909 p225910 q225908 F274854 g274853 k e1 → tl_RModel_findLive_44 D I γ el P225906 F225907 q225909 p225910 q225908 F272345 (1 : Int32) k e1) → ((81920 - lvT γ F274854) + (g274853.toInt : Int).toNat) < n44_274858 → G (gV D I) l (gRm 4 85 0 0) (gMA (gV D I) (pt_225912_SpillForgeModel_findLive D I γ el P225906 F225907 q225908 q225909 p225910) gNA 0 0) ky_225912_SpillForgeModel_findLive 44 [(3, .int g274853), (0, .ref q225908), (1, .ref q225909), (2, .int p225910)] [] (va_pl P225906 F274854) 0 0 := by
          intro n44_274858
          induction n44_274858 with
          | zero => intro F274854 g274853 bg274853 hT274855 hs274856 x274857 x274858 kt44_274859 hm44_274858; exact absurd hm44_274858 (Nat.not_lt_zero _)
          | succ n44_274858 ih44_274858 =>
            intro F274854 g274853 bg274853 hT274855 hs274856 x274857 x274858 kt44_274859 hm44_274858
            have hs274860 : rStr γ [] F272345 F274854 := fun b h0 hb hw => (hs274856 b h0 hb hw).trans (hs272347 b h0 hb hw).symm
            have he274861 : F274854 q225909 = .inr (18, [.ref q272355, .ref q272356, .int p272357, .int p272358]) := (hs274860 q225909 (rT0 htq225909 (by decide)) (rT1 htq225909 (by decide)) (rT2 htq225909 (by decide))).trans he272354
            have hs274862 : rStr γ [] F225907 F274854 := rStr_tr hs272347 hs274860
            refine G_iload_n 0 dr_cX17_findLive_44 rfl ?_
            refine G_if_eq 201 dr_cX17_findLive_45 (by decide +kernel) (fun hc274863 => ?_) (fun hc274863 => ?_)
            · have r274864 : g274853.toInt = 0 := gj_eq hc274863 (show Int32.toInt 0 = 0 by decide)
              have bg274853' : gB g274853 0 0 := ⟨by omega, by omega⟩
              have hx274865 : tl_RModel_findLive_44 D I γ el P225906 F225907 q225909 p225910 q225908 F272345 (1 : Int32) 201 F274854 := kt44_274859 201 F274854 (fun R c1 c2 => c1 F274854 g274853 bg274853 hT274855 hs274856 x274857 x274858 r274864)
              exact G_vretA dr_cX17_findLive_201 rfl (Nat.le_of_ble_eq_true rfl) (Nat.le_of_ble_eq_true rfl) ⟨F274854, rfl, rfl, hT274855, hs274856, (Nat.le_of_ble_eq_true rfl), (Nat.le_of_ble_eq_true rfl), x274858, (fun R c1 => c1 F272345 F274854 hx272383 hx274865)⟩
            · have r274866 : g274853.toInt ≠ 0 := gj_neq hc274863 (show Int32.toInt 0 = 0 by decide)
              have bg274853' : gB g274853 1 1 := ⟨by omega, by omega⟩
              refine G_iconst 0 dr_cX17_findLive_48 (by decide +kernel) ?_
              refine G_istore_n (L' := [(3, .int 0), (0, .ref q225908), (1, .ref q225909), (2, .int p225910)]) dr_cX17_findLive_49 (Nat.le_of_ble_eq_true rfl) rfl ?_
              refine G_aload_n 2 dr_cX17_findLive_50 rfl ?_
              have fq274867 : fI (F274854 q225909) 3 = p272358 := by rw [he274861]; rfl
              refine Gw_callV (As := []) (gV_ok D I) (cp_12780_Code_size l hl0 D I P225906 F274854 q225909 q272355 q272356 p272357 p272358 hm272353 he274861) dr_cX17_findLive_51 ⟨wr_10_160, wr_1_15, wr_9_131, by decide, rfl, (Nat.le_of_ble_eq_true rfl), (Nat.le_of_ble_eq_true rfl)⟩ wr_9_129 wr_9_130 hm272353 he274861 rfl (show 0 + 0 ≤ 0 by first | omega | decide) (show 0 + 0 ≤ 0 by first | omega | decide) (Nat.le_of_ble_eq_true rfl) (fun r274871 w274872 dc274868 ds274869 hp274870 => ?_) (fun _ _ _ _ _ z => z.elim)
              obtain ⟨rfl, rfl, hdc, hds⟩ := hp274870
              change G _ _ _ _ _ _ _ (.int p272358 :: _) _ _ _
              refine G_widen (cs' := 0) (sl' := 0) (by omega) (by omega) ?_
              refine G_iconst 1 dr_cX17_findLive_54 (by decide +kernel) ?_
              refine G_isub dr_cX17_findLive_55 (G_nam fun z274873 hz274873 => ?_)
              have ez274873 : z274873.toInt = p272358.toInt - 1 := by rw [gI_sub hz274873 bp272358 (gBl (show Int32.toInt 1 = 1 by decide)) (by decide) (by decide), show Int32.toInt 1 = 1 from by decide]
              have bz274873 : gB z274873 (-1) 999999 := gB_sub (gI_sub hz274873 bp272358 (gBl (show Int32.toInt 1 = 1 by decide)) (by decide) (by decide)) bp272358 (gBl (show Int32.toInt 1 = 1 by decide)) (by decide) (by decide)
              refine G_istore (L' := [(4, .int z274873), (3, .int 0), (0, .ref q225908), (1, .ref q225909), (2, .int p225910)]) dr_cX17_findLive_56 (Nat.le_of_ble_eq_true rfl) rfl ?_
              have hlp58_276106 : ∀ (n58_276106 : Nat) (F276100 : Nat → va_E) (g276098 : Int32) (g276099 : Int32), gB g276098 (-1) 999999 → gB g276099 0 1 → RS D I P225906 F276100 γ el → rStr γ [] F225907 F276100 → rJv γ el F225907 F276100 q225909 (decide (p225910.toInt = 1)) (γ 6 (γ 1 q225909)) → (lvT γ F274854 + (g276099.toInt : Int).toNat ≤ lvT γ F276100) → ((g276098.toInt : Int) < γ 6 (γ 1 q225909)) → (F276100 q225908 = F225907 q225908) → (∀ (k : Nat) (e1 : Int32) (e2 : Nat → va_E), tl_RModel_findLive_58 D I γ el P225906 F225907 q225909 p225910 F274854 q225908 F276100 g276098 g276099 k e1 e2 → tl_RModel_findLive_58 D I γ el P225906 F225907 q225909 p225910 F274854 q225908 F274854 z274873 (0 : Int32) k e1 e2) → ((g276098.toInt : Int) - (-2)).toNat < n58_276106 → G (gV D I) l (gRm 4 85 0 0) (gMA (gV D I) (pt_225912_SpillForgeModel_findLive D I γ el P225906 F225907 q225908 q225909 p225910) gNA 0 0) ky_225912_SpillForgeModel_findLive 58 [(4, .int g276098), (3, .int g276099), (0, .ref q225908), (1, .ref q225909), (2, .int p225910)] [] (va_pl P225906 F276100) 0 0 := by
                intro n58_276106
                induction n58_276106 with
                | zero => intro F276100 g276098 g276099 bg276098 bg276099 hT276101 hs276102 x276103 x276104 x276105 x276106 kt58_276107 hm58_276106; exact absurd hm58_276106 (Nat.not_lt_zero _)
                | succ n58_276106 ih58_276106 =>
                  intro F276100 g276098 g276099 bg276098 bg276099 hT276101 hs276102 x276103 x276104 x276105 x276106 kt58_276107 hm58_276106
                  have hs276108 : rStr γ [] F274854 F276100 := fun b h0 hb hw => (hs276102 b h0 hb hw).trans (hs274856 b h0 hb hw).symm
                  have he276109 : F276100 q225909 = .inr (18, [.ref q272355, .ref q272356, .int p272357, .int p272358]) := (hs276108 q225909 (rT0 htq225909 (by decide)) (rT1 htq225909 (by decide)) (rT2 htq225909 (by decide))).trans he274861
                  have hs276110 : rStr γ [] F225907 F276100 := rStr_tr hs274856 hs276108
                  refine G_iload 0 dr_cX17_findLive_58 rfl ?_
                  refine G_if_lt 198 dr_cX17_findLive_60 (by decide +kernel) (fun hc276111 => ?_) (fun hc276111 => ?_)
                  · have r276112 : g276098.toInt < 0 := gj_lt hc276111 (show Int32.toInt 0 = 0 by decide)
                    have bg276098' : gB g276098 (-1) (-1) := ⟨by omega, by omega⟩
                    have hx276113 : tl_RModel_findLive_58 D I γ el P225906 F225907 q225909 p225910 F274854 q225908 F274854 z274873 (0 : Int32) 198 g276099 F276100 := kt58_276107 198 g276099 F276100 (fun R c1 c2 => c1 F276100 g276098 g276099 bg276098 bg276099 hT276101 hs276102 x276103 x276104 x276105 x276106 r276112)
                    have lt276114 := lvT_le (γ := γ) (F := F276100)
                    have lt276115 := lvT_le (γ := γ) (F := F274854)
                    refine G_goto 44 dr_cX17_findLive_198 (by decide +kernel) ?_
                    refine G_lv (L' := [(3, .int g276099), (0, .ref q225908), (1, .ref q225909), (2, .int p225910)]) [1, 2, 3, 4] rfl ?_
                    exact ih44_274858 F276100 g276099 bg276099 hT276101 hs276102 x276103 x276106 (fun k e1 ht => kt44_274859 k e1 (fun R c1 c2 => c2 F274854 g274853 p272358 z274873 g276099 F276100 k e1 bg274853 hT274855 hs274856 x274857 x274858 r274866 fq274867 ez274873 hx276113 (ht R c1 c2))) (by omega)
                  · have r276116 : 0 ≤ g276098.toInt := gj_nlt hc276111 (show Int32.toInt 0 = 0 by decide)
                    have bg276098' : gB g276098 0 999999 := ⟨by omega, by omega⟩
                    refine G_aload_n 3 dr_cX17_findLive_63 rfl ?_
                    refine G_iload 0 dr_cX17_findLive_64 rfl ?_
                    have hm276117 : q272355 ∈ P225906 := RS_m hT276101 ht272359 (by decide)
                    obtain ⟨⟨p276119, p276120, q276121, he276118, r276122, r276123, r276124, r276126⟩, r276125⟩ := show rk_4 D I γ el F276100 q272355 from RS_o hT276101 ht272359
                    have bp276119 := gB_any p276119
                    have bp276120 : gB p276120 0 1000000 := ⟨by omega, by omega⟩
                    obtain ⟨r276127, r276128, n276135, f276136, r276129, r276130, r276131, r276132, r276133, r276134⟩ := rLC_n r276124 (by omega)
                    have hm276137 : q276121 ∈ P225906 := RS_m hT276101 r276127 (by decide)
                    obtain ⟨q276138, hx276139⟩ : ∃ x, x = el q272355 g276098.toInt.toNat := ⟨_, rfl⟩
                    have fq276143 : fR (F276100 q225909) 0 = q272355 := by rw [he276109]; rfl
                    have hx276140 : f276136 g276098.toNatClampNeg = some q276138 := (r276133 _ (show g276098.toInt.toNat < γ 2 q272355 by omega)).trans (by rw [hx276139])
                    have ht276144 : rKd γ q276138 2 := by rw [hx276139]; exact (r272370 _ (by omega)).resolve_right (fun z => absurd z.1 (by omega))
                    have ht276145 : rFm γ q276138 q272355 := by rw [hx276139]; exact (r276125 _ (show g276098.toInt.toNat < γ 2 q272355 by omega)).2.1
                    have hm276146 : q276138 ∈ P225906 := RS_m hT276101 ht276144 (by decide)
                    obtain ⟨q276148, q276149, p276150, p276151, he276147, ht276158, ht276152, ht276153, ht276154, ht276155, ht276156, bp276150, bp276151, r276157, r276159, r276160⟩ := show rk_2 γ q276138 (F276100 q276138) from RS_o hT276101 ht276144
                    have fq276161 : fI (F276100 q272355) 2 = p276120 := by rw [he276118]; rfl
                    refine Gw_callV (As := [.int g276098]) (gV_ok D I) (cp_7901_Code_get l hl0 D I P225906 F276100 q225909 q272355 q276121 g276098 q272356 p272357 p272358 p276119 p276120 f276136 n276135 q276138 q276148 q276149 p276150 p276151 hm272353 hm276117 hm276137 hm276146 he276109 he276118 r276129 he276147 (gB_w bg276098' (by decide) (by decide)) (gB_w bp276120 (by decide) (by decide)) (by omega) (by omega) (by assumption) (by omega)) dr_cX17_findLive_66 ⟨wr_10_161, wr_1_15, wr_10_141, by decide, rfl, (Nat.le_of_ble_eq_true rfl), (Nat.le_of_ble_eq_true rfl)⟩ wr_10_139 wr_10_140 hm272353 he276109 rfl (show 0 + 0 ≤ 0 by first | omega | decide) (show 0 + 0 ≤ 0 by first | omega | decide) (Nat.le_of_ble_eq_true rfl) (fun r276165 w276166 dc276162 ds276163 hp276164 => ?_) (fun _ _ _ _ _ z => z.elim)
                    obtain ⟨rfl, rfl, hdc, hds, ht276167⟩ := hp276164
                    change G _ _ _ _ _ _ _ (.ref q276138 :: _) _ _ _
                    refine G_widen (cs' := 0) (sl' := 0) (by omega) (by omega) ?_
                    refine G_astore (L' := [(5, .ref q276138), (4, .int g276098), (3, .int g276099), (0, .ref q225908), (1, .ref q225909), (2, .int p225910)]) dr_cX17_findLive_69 (Nat.le_of_ble_eq_true rfl) rfl ?_
                    refine G_aload_n 3 dr_cX17_findLive_71 rfl ?_
                    refine G_aload 0 dr_cX17_findLive_72 rfl ?_
                    have fl276168 : F276100 q276138 = F225907 q276138 := hs276102 q276138 (rT0 ht276144 (by decide)) (rT1 ht276144 (by decide)) (rT2 ht276144 (by decide))
                    have fl276169 : F276100 q276149 = F225907 q276149 := hs276102 q276149 (rT0 ht276154 (by decide)) (rT1 ht276154 (by decide)) (rT2 ht276154 (by decide))
                    have fl276170 : (fI (F225907 q276138) 2).toInt = p276150.toInt := by rw [← fl276168, he276147]; rfl
                    have fl276171 : (fI (F225907 q276138) 3).toInt = p276151.toInt := by rw [← fl276168, he276147]; rfl
                    have fl276172 : γ 2 (γ 14 q276138) = γ 2 q276148 := by rw [ht276158.1]
                    have fl276173 : q276138 = el (γ 14 q225909) (g276098.toInt : Int).toNat := by rw [hx276139, ht272374.1]
                    have hm276179 : q225908 ∈ P225906 := RS_m hT276101 htq225908 (by decide)
                    obtain ⟨q276181, q276182, p276183, p276184, p276185, p276186, p276187, p276188, p276189, p276190, p276191, p276192, p276193, p276194, p276195, p276196, p276197, he276180, hB276224, ht276198, ht276199, ht276200, ht276201, ht276202, ht276203, ht276204, ht276205, ht276206, ht276207, ht276208, ht276209, ht276210, ht276211, ht276212, ht276213, ht276214, ht276215, ht276216, ht276217, ht276218, ht276219, ht276220, ht276221, hB276225⟩ := show rk_10 γ (F276100 q225908) from RS_o hT276101 htq225908
                    refine Gw_callV (As := [.ref q276138]) (gV_ok D I) (ct_222856_SpillForgeModel_behind l hl0 D I γ el P225906 F276100 q225908 q276138 hT276101 htq225908 ht276144) dr_cX17_findLive_74 ⟨wr_10_162, wr_1_14, wr_10_165, by decide, rfl, (Nat.le_of_ble_eq_true rfl), (Nat.le_of_ble_eq_true rfl)⟩ wr_10_164 wr_p_95 hm276179 he276180 rfl (show 0 + 0 ≤ 0 by first | omega | decide) (show 0 + 0 ≤ 0 by first | omega | decide) (Nat.le_of_ble_eq_true rfl) (fun r276177 w276178 dc276174 ds276175 hp276176 => ?_) (fun _ _ _ _ _ z => z.elim)
                    obtain ⟨F276230, rfl, rfl, hT276231, hs276232, hdc, hds, x276226, x276227, x276228, ht276229⟩ := hp276176
                    have he276233 : F276230 q225909 = .inr (18, [.ref q272355, .ref q272356, .int p272357, .int p272358]) := (hs276232 q225909 (rT0 htq225909 (by decide)) (rT1 htq225909 (by decide)) (rT2 htq225909 (by decide))).trans he276109
                    have he276234 : F276230 q272355 = .inr (4, [.int p276119, .ref q276121, .int p276120]) := (hs276232 q272355 (rT0 ht272359 (by decide)) (rT1 ht272359 (by decide)) (rT2 ht272359 (by decide))).trans he276118
                    have he276235 : F276230 q276121 = .inl (I (.object "java/lang/Object"), n276135, .inr (.inr (.inr (.inr f276136)))) := (hs276232 q276121 (rT0 r276127 (by decide)) (rT1 r276127 (by decide)) (rT2 r276127 (by decide))).trans r276129
                    have he276236 : F276230 q276138 = .inr (17, [.ref q276148, .ref q276149, .int p276150, .int p276151]) := (hs276232 q276138 (rT0 ht276144 (by decide)) (rT1 ht276144 (by decide)) (rT2 ht276144 (by decide))).trans he276147
                    have hs276237 : rStr γ [] F225907 F276230 := rStr_tr hs276102 hs276232
                    have kp276238 : F276230 q225908 = F225907 q225908 := (x276228).trans x276106
                    have he276239 : F276230 q225908 = .inr (22, [.ref (γ 9 0), .ref (γ 9 1), .ref (γ 9 2), .ref (γ 9 3), .ref (γ 9 4), .ref (γ 9 5), .ref (γ 9 6), .ref (γ 9 7), .ref (γ 9 8), .int p276183, .int p276184, .int p276185, .int p276186, .int p276187, .int p276188, .ref (γ 9 15), .ref (γ 9 16), .ref (γ 9 17), .ref (γ 9 18), .ref (γ 9 19), .ref (γ 9 20), .ref (γ 9 21), .ref (γ 9 22), .int p276189, .int p276190, .int p276191, .int p276192, .int p276193, .ref q276181, .ref (γ 9 29), .int p276194, .ref (γ 9 31), .int p276195, .int p276196, .int p276197, .ref q276182]) := (x276228).trans he276180
                    change G _ _ _ _ _ _ _ _ _ _ _
                    refine G_widen (cs' := 0) (sl' := 0) (by omega) (by omega) ?_
                    refine G_aload_n 3 dr_cX17_findLive_77 rfl ?_
                    refine G_aload 0 dr_cX17_findLive_78 rfl ?_
                    have fq276240 : fR (F276230 q276138) 1 = q276149 := by rw [he276236]; rfl
                    refine Gp_get 1 hm276146 he276236 dr_cX17_findLive_80 (gk_X12 D I) (Nat.le_of_ble_eq_true rfl) wr_9_223 rfl ?_
                    refine G_iload_n 5 dr_cX17_findLive_83 rfl ?_
                    have fl276241 : F276230 q276149 = F225907 (γ 15 q276138) := by rw [ht276158.2.1]; exact hs276237 q276149 (rT0 ht276154 (by decide)) (rT1 ht276154 (by decide)) (rT2 ht276154 (by decide))
                    refine Gw_callV (As := [.ref q276149, .int p225910]) (gV_ok D I) (ct_222488_SpillForgeModel_back l hl0 D I γ el P225906 F276230 q225908 q276149 p225910 hT276231 htq225908 ht276154 bp225910) dr_cX17_findLive_84 ⟨wr_10_174, wr_1_14, wr_10_177, by decide, rfl, (Nat.le_of_ble_eq_true rfl), (Nat.le_of_ble_eq_true rfl)⟩ wr_10_176 wr_p_96 hm276179 he276239 rfl (show 0 + 0 ≤ 0 by first | omega | decide) (show 0 + 0 ≤ 0 by first | omega | decide) (Nat.le_of_ble_eq_true rfl) (fun r276245 w276246 dc276242 ds276243 hp276244 => ?_) (fun _ _ _ _ _ z => z.elim)
                    obtain ⟨F276251, rfl, rfl, hT276252, hs276253, hdc, hds, x276247, x276248, x276249, ht276250⟩ := hp276244
                    have he276254 : F276251 q225909 = .inr (18, [.ref q272355, .ref q272356, .int p272357, .int p272358]) := (hs276253 q225909 (rT0 htq225909 (by decide)) (rT1 htq225909 (by decide)) (rT2 htq225909 (by decide))).trans he276233
                    have he276255 : F276251 q272355 = .inr (4, [.int p276119, .ref q276121, .int p276120]) := (hs276253 q272355 (rT0 ht272359 (by decide)) (rT1 ht272359 (by decide)) (rT2 ht272359 (by decide))).trans he276234
                    have he276256 : F276251 q276121 = .inl (I (.object "java/lang/Object"), n276135, .inr (.inr (.inr (.inr f276136)))) := (hs276253 q276121 (rT0 r276127 (by decide)) (rT1 r276127 (by decide)) (rT2 r276127 (by decide))).trans he276235
                    have he276257 : F276251 q276138 = .inr (17, [.ref q276148, .ref q276149, .int p276150, .int p276151]) := (hs276253 q276138 (rT0 ht276144 (by decide)) (rT1 ht276144 (by decide)) (rT2 ht276144 (by decide))).trans he276236
                    have hs276258 : rStr γ [] F225907 F276251 := rStr_tr hs276237 hs276253
                    have kp276259 : F276251 q225908 = F225907 q225908 := (x276249).trans kp276238
                    have he276260 : F276251 q225908 = .inr (22, [.ref (γ 9 0), .ref (γ 9 1), .ref (γ 9 2), .ref (γ 9 3), .ref (γ 9 4), .ref (γ 9 5), .ref (γ 9 6), .ref (γ 9 7), .ref (γ 9 8), .int p276183, .int p276184, .int p276185, .int p276186, .int p276187, .int p276188, .ref (γ 9 15), .ref (γ 9 16), .ref (γ 9 17), .ref (γ 9 18), .ref (γ 9 19), .ref (γ 9 20), .ref (γ 9 21), .ref (γ 9 22), .int p276189, .int p276190, .int p276191, .int p276192, .int p276193, .ref q276181, .ref (γ 9 29), .int p276194, .ref (γ 9 31), .int p276195, .int p276196, .int p276197, .ref q276182]) := (x276249).trans he276239
                    change G _ _ _ _ _ _ _ _ _ _ _
                    refine G_widen (cs' := 0) (sl' := 0) (by omega) (by omega) ?_
                    refine G_aload 0 dr_cX17_findLive_87 rfl ?_
                    have fq276261 : fR (F276251 q276138) 0 = q276148 := by rw [he276257]; rfl
                    refine Gp_get 0 hm276146 he276257 dr_cX17_findLive_89 (gk_X12 D I) (Nat.le_of_ble_eq_true rfl) wr_9_220 rfl ?_
                    have hm276262 : q276148 ∈ P225906 := RS_m hT276252 ht276152 (by decide)
                    obtain ⟨⟨p276264, p276265, q276266, he276263, r276267, r276268, r276269, r276271⟩, r276270⟩ := show rk_3 D I γ el F276251 q276148 from RS_o hT276252 ht276152
                    have bp276264 := gB_any p276264
                    have bp276265 : gB p276265 0 1000000 := ⟨by omega, by omega⟩
                    have fq276272 : p276265.toInt = (γ 2 q276148 : Int) := by omega
                    have fq276273 : fI (F276251 q276148) 2 = p276265 := by rw [he276263]; rfl
                    refine Gw_callV (As := []) (gV_ok D I) (cp_7_ArrayList_size l hl0 D I P225906 F276251 q276148 p276264 q276266 p276265 hm276262 he276263 (gB_w bp276265 (by decide) (by decide))) dr_cX17_findLive_92 ⟨wr_10_200, wr_1_18, wr_9_160, by decide, rfl, (Nat.le_of_ble_eq_true rfl), (Nat.le_of_ble_eq_true rfl)⟩ wr_9_158 wr_9_159 hm276262 he276263 rfl (show 0 + 0 ≤ 0 by first | omega | decide) (show 0 + 0 ≤ 0 by first | omega | decide) (Nat.le_of_ble_eq_true rfl) (fun r276277 w276278 dc276274 ds276275 hp276276 => ?_) (fun _ _ _ _ _ z => z.elim)
                    obtain ⟨rfl, rfl, hdc, hds⟩ := hp276276
                    change G _ _ _ _ _ _ _ (.int p276265 :: _) _ _ _
                    refine G_widen (cs' := 0) (sl' := 0) (by omega) (by omega) ?_
                    refine G_iconst 1 dr_cX17_findLive_95 (by decide +kernel) ?_
                    refine G_isub dr_cX17_findLive_96 (G_nam fun z276279 hz276279 => ?_)
                    have ez276279 : z276279.toInt = p276265.toInt - 1 := by rw [gI_sub hz276279 bp276265 (gBl (show Int32.toInt 1 = 1 by decide)) (by decide) (by decide), show Int32.toInt 1 = 1 from by decide]
                    have bz276279 : gB z276279 (-1) 999999 := gB_sub (gI_sub hz276279 bp276265 (gBl (show Int32.toInt 1 = 1 by decide)) (by decide) (by decide)) bp276265 (gBl (show Int32.toInt 1 = 1 by decide)) (by decide) (by decide)
                    refine G_istore (L' := [(6, .int z276279), (5, .ref q276138), (4, .int g276098), (3, .int g276099), (0, .ref q225908), (1, .ref q225909), (2, .int p225910)]) dr_cX17_findLive_97 (Nat.le_of_ble_eq_true rfl) rfl ?_
                    have hlp99_276812 : ∀ (n99_276812 : Nat) (F276805 : Nat → va_E) (g276804 : Int32), gB g276804 (-1) 999999 → RS D I P225906 F276805 γ el → rStr γ [] F225907 F276805 → rLv γ F276100 F276805 → (∀ k : Nat, k < 2048 → rbt (cL (F276805 (γ 9 2))) k = trS γ el F225907 (decide (p225910.toInt = 1)) q276138 (lvM γ F276100) ((((γ 2 (γ 14 q276138) : Nat) : Int) - 1 - g276804.toInt).toNat) k) → ((g276804.toInt : Int) < γ 2 (γ 14 q276138)) → (q276138 = el (γ 14 q225909) (g276098.toInt : Int).toNat) → (F276805 q225908 = F225907 q225908) → (∀ (k : Nat) (e1 : Nat → va_E), tl_RModel_findLive_99 D I γ el P225906 F225907 F276100 p225910 q276138 q225909 g276098 q225908 F276805 g276804 k e1 → tl_RModel_findLive_99 D I γ el P225906 F225907 F276100 p225910 q276138 q225909 g276098 q225908 F276251 z276279 k e1) → ((g276804.toInt : Int) - (-2)).toNat < n99_276812 → G (gV D I) l (gRm 4 85 0 0) (gMA (gV D I) (pt_225912_SpillForgeModel_findLive D I γ el P225906 F225907 q225908 q225909 p225910) gNA 0 0) ky_225912_SpillForgeModel_findLive 99 [(6, .int g276804), (5, .ref q276138), (4, .int g276098), (3, .int g276099), (0, .ref q225908), (1, .ref q225909), (2, .int p225910)] [] (va_pl P225906 F276805) 0 0 := by
                      intro n99_276812
                      induction n99_276812 with
                      | zero => intro F276805 g276804 bg276804 hT276806 hs276807 x276808 x276809 x276810 x276811 x276812 kt99_276813 hm99_276812; exact absurd hm99_276812 (Nat.not_lt_zero _)
                      | succ n99_276812 ih99_276812 =>
                        intro F276805 g276804 bg276804 hT276806 hs276807 x276808 x276809 x276810 x276811 x276812 kt99_276813 hm99_276812
                        have hs276814 : rStr γ [] F276251 F276805 := fun b h0 hb hw => (hs276807 b h0 hb hw).trans (hs276258 b h0 hb hw).symm
                        have he276815 : F276805 q225909 = .inr (18, [.ref q272355, .ref q272356, .int p272357, .int p272358]) := (hs276814 q225909 (rT0 htq225909 (by decide)) (rT1 htq225909 (by decide)) (rT2 htq225909 (by decide))).trans he276254
                        have he276816 : F276805 q272355 = .inr (4, [.int p276119, .ref q276121, .int p276120]) := (hs276814 q272355 (rT0 ht272359 (by decide)) (rT1 ht272359 (by decide)) (rT2 ht272359 (by decide))).trans he276255
                        have he276817 : F276805 q276121 = .inl (I (.object "java/lang/Object"), n276135, .inr (.inr (.inr (.inr f276136)))) := (hs276814 q276121 (rT0 r276127 (by decide)) (rT1 r276127 (by decide)) (rT2 r276127 (by decide))).trans he276256
                        have he276818 : F276805 q276138 = .inr (17, [.ref q276148, .ref q276149, .int p276150, .int p276151]) := (hs276814 q276138 (rT0 ht276144 (by decide)) (rT1 ht276144 (by decide)) (rT2 ht276144 (by decide))).trans he276257
                        have he276819 : F276805 q276148 = .inr (4, [.int p276264, .ref q276266, .int p276265]) := (hs276814 q276148 (rT0 ht276152 (by decide)) (rT1 ht276152 (by decide)) (rT2 ht276152 (by decide))).trans he276263
                        have hs276820 : rStr γ [] F225907 F276805 := rStr_tr hs276258 hs276814
                        refine G_iload 0 dr_cX17_findLive_99 rfl ?_
                        refine G_if_lt 128 dr_cX17_findLive_101 (by decide +kernel) (fun hc276821 => ?_) (fun hc276821 => ?_)
                        · have r276822 : g276804.toInt < 0 := gj_lt hc276821 (show Int32.toInt 0 = 0 by decide)
                          have bg276804' : gB g276804 (-1) (-1) := ⟨by omega, by omega⟩
                          have hx276823 : tl_RModel_findLive_99 D I γ el P225906 F225907 F276100 p225910 q276138 q225909 g276098 q225908 F276251 z276279 128 F276805 := kt99_276813 128 F276805 (fun R c1 c2 => c1 F276805 g276804 bg276804 hT276806 hs276807 x276808 x276809 x276810 x276811 x276812 r276822)
                          refine G_iconst 0 dr_cX17_findLive_128 (by decide +kernel) ?_
                          refine G_istore (L' := [(6, .int 0), (5, .ref q276138), (4, .int g276098), (3, .int g276099), (0, .ref q225908), (1, .ref q225909), (2, .int p225910)]) dr_cX17_findLive_129 (Nat.le_of_ble_eq_true rfl) rfl ?_
                          have hlp131_277027 : ∀ (n131_277027 : Nat) (F277019 : Nat → va_E) (g277017 : Int32) (g277018 : Int32), gB g277017 0 32 → gB g277018 0 1 → RS D I P225906 F277019 γ el → rStr γ [] F225907 F277019 → (∀ i : Nat, i < 40 → (i : Int) ≠ g276098.toInt → F277019 (γ 10 i) = F276100 (γ 10 i)) → (∀ k : Nat, k < 2048 → rbt (cL (F277019 (γ 9 2))) k = trS γ el F225907 (decide (p225910.toInt = 1)) q276138 (lvM γ F276100) (γ 2 (γ 14 q276138)) k) → (∀ k : Nat, k < 2048 → lvS γ F277019 (g276098.toInt : Int).toNat k = if (k : Int) < 64 * g277017.toInt then trS γ el F225907 (decide (p225910.toInt = 1)) q276138 (lvM γ F276100) (γ 2 (γ 14 q276138)) k else lvS γ F276100 (g276098.toInt : Int).toNat k) → (lvT γ F274854 + (g277018.toInt : Int).toNat ≤ lvT γ F277019) → (q276138 = el (γ 14 q225909) (g276098.toInt : Int).toNat) → (F277019 q225908 = F225907 q225908) → (∀ (k : Nat) (e1 : Int32) (e2 : Nat → va_E), tl_RModel_findLive_131 D I γ el P225906 F225907 g276098 F276100 p225910 q276138 F274854 q225909 q225908 F277019 g277017 g277018 k e1 e2 → tl_RModel_findLive_131 D I γ el P225906 F225907 g276098 F276100 p225910 q276138 F274854 q225909 q225908 F276805 (0 : Int32) g276099 k e1 e2) → ((33 : Int) - g277017.toInt).toNat < n131_277027 → G (gV D I) l (gRm 4 85 0 0) (gMA (gV D I) (pt_225912_SpillForgeModel_findLive D I γ el P225906 F225907 q225908 q225909 p225910) gNA 0 0) ky_225912_SpillForgeModel_findLive 131 [(6, .int g277017), (5, .ref q276138), (4, .int g276098), (3, .int g277018), (0, .ref q225908), (1, .ref q225909), (2, .int p225910)] [] (va_pl P225906 F277019) 0 0 := by
                            intro n131_277027
                            induction n131_277027 with
                            | zero => intro F277019 g277017 g277018 bg277017 bg277018 hT277020 hs277021 x277022 x277023 x277024 x277025 x277026 x277027 kt131_277028 hm131_277027; exact absurd hm131_277027 (Nat.not_lt_zero _)
                            | succ n131_277027 ih131_277027 =>
                              intro F277019 g277017 g277018 bg277017 bg277018 hT277020 hs277021 x277022 x277023 x277024 x277025 x277026 x277027 kt131_277028 hm131_277027
                              have hs277029 : rStr γ [] F276805 F277019 := fun b h0 hb hw => (hs277021 b h0 hb hw).trans (hs276807 b h0 hb hw).symm
                              have he277030 : F277019 q225909 = .inr (18, [.ref q272355, .ref q272356, .int p272357, .int p272358]) := (hs277029 q225909 (rT0 htq225909 (by decide)) (rT1 htq225909 (by decide)) (rT2 htq225909 (by decide))).trans he276815
                              have he277031 : F277019 q272355 = .inr (4, [.int p276119, .ref q276121, .int p276120]) := (hs277029 q272355 (rT0 ht272359 (by decide)) (rT1 ht272359 (by decide)) (rT2 ht272359 (by decide))).trans he276816
                              have he277032 : F277019 q276121 = .inl (I (.object "java/lang/Object"), n276135, .inr (.inr (.inr (.inr f276136)))) := (hs277029 q276121 (rT0 r276127 (by decide)) (rT1 r276127 (by decide)) (rT2 r276127 (by decide))).trans he276817
                              have he277033 : F277019 q276138 = .inr (17, [.ref q276148, .ref q276149, .int p276150, .int p276151]) := (hs277029 q276138 (rT0 ht276144 (by decide)) (rT1 ht276144 (by decide)) (rT2 ht276144 (by decide))).trans he276818
                              have hs277034 : rStr γ [] F225907 F277019 := rStr_tr hs276807 hs277029
                              refine G_iload 0 dr_cX17_findLive_131 rfl ?_
                              refine G_bipush 32 dr_cX17_findLive_133 (by decide +kernel) ?_
                              refine G_icmp_ge 192 dr_cX17_findLive_135 (by decide +kernel) (fun hc277035 => ?_) (fun hc277035 => ?_)
                              · have r277036 : 32 ≤ g277017.toInt := gj_leL hc277035 (show Int32.toInt 32 = 32 by decide)
                                have bg277017' : gB g277017 32 32 := ⟨by omega, by omega⟩
                                have hx277037 : tl_RModel_findLive_131 D I γ el P225906 F225907 g276098 F276100 p225910 q276138 F274854 q225909 q225908 F276805 (0 : Int32) g276099 192 g277018 F277019 := kt131_277028 192 g277018 F277019 (fun R c1 c2 c3 c4 => c1 F277019 g277017 g277018 bg277017 bg277018 hT277020 hs277021 x277022 x277023 x277024 x277025 x277026 x277027 r277036)
                                obtain ⟨z277038, hz277038⟩ : ∃ z : Int32, z = g276098 + Int32.ofInt (-1) := ⟨_, rfl⟩
                                have ez277038 : z277038.toInt = g276098.toInt + (-1) := gI_inc hz277038 (by decide) bg276098' (by decide) (by decide)
                                have bz277038 : gB z277038 (-1) 999998 := ⟨by omega, by omega⟩
                                refine G_iinc (L' := [(4, .int z277038), (6, .int g277017), (5, .ref q276138), (3, .int g277018), (0, .ref q225908), (1, .ref q225909), (2, .int p225910)]) z277038 2 dr_cX17_findLive_192 rfl hz277038.symm (Nat.le_of_ble_eq_true rfl) rfl ?_
                                refine G_goto 58 dr_cX17_findLive_195 (by decide +kernel) ?_
                                refine G_lv (L' := [(4, .int z277038), (3, .int g277018), (0, .ref q225908), (1, .ref q225909), (2, .int p225910)]) [0, 3, 4, 5, 6] rfl ?_
                                exact ih58_276106 F277019 z277038 g277018 (gB_w bz277038 (by decide) (by decide)) bg277018 hT277020 hs277021 (rJv_s x276103 (i0 := g276098.toInt.toNat) (by omega) (by omega) (fun i hi hne => x277022 i hi (by omega)) (fun k hk => by have q := x277024 k hk; rw [if_pos (by omega)] at q; rw [q, ← x277026])) (by have q := x277025; omega) (by omega) x277027 (fun k e1 e2 ht => kt58_276107 k e1 e2 (fun R c1 c2 => c2 F276100 g276098 g276099 q272355 q276138 p276120 F276230 q276149 F276251 q276148 p276265 z276279 F276805 g277018 F277019 z277038 k e1 e2 bg276098 bg276099 hT276101 hs276102 x276103 x276104 x276105 x276106 r276116 fq276143 hx276139 fq276161 ht276167 hT276231 hs276232 x276226 x276227 x276228 ht276229 fq276240 hT276252 hs276253 x276247 x276248 x276249 ht276250 fq276261 fq276272 fq276273 ez276279 hx276823 hx277037 ez277038 (ht R c1 c2))) (by omega)
                              · have r277039 : g277017.toInt < 32 := gj_nleL hc277035 (show Int32.toInt 32 = 32 by decide)
                                have bg277017' : gB g277017 0 31 := ⟨by omega, by omega⟩
                                refine G_iload_n 3 dr_cX17_findLive_138 rfl ?_
                                refine G_if_ne 163 dr_cX17_findLive_139 (by decide +kernel) (fun hc277040 => ?_) (fun hc277040 => ?_)
                                · have r277041 : g277018.toInt ≠ 0 := gj_neq hc277040 (show Int32.toInt 0 = 0 by decide)
                                  have bg277018' : gB g277018 1 1 := ⟨by omega, by omega⟩
                                  refine G_iconst 1 dr_cX17_findLive_163 (by decide +kernel) ?_
                                  refine G_goto 168 dr_cX17_findLive_164 (by decide +kernel) ?_
                                  refine G_istore_n (L' := [(3, .int 1), (6, .int g277017), (5, .ref q276138), (4, .int g276098), (0, .ref q225908), (1, .ref q225909), (2, .int p225910)]) dr_cX17_findLive_168 (Nat.le_of_ble_eq_true rfl) rfl ?_
                                  refine G_aload_n 4 dr_cX17_findLive_169 rfl ?_
                                  have hm277042 : q225908 ∈ P225906 := RS_m hT277020 htq225908 (by decide)
                                  obtain ⟨q277044, q277045, p277046, p277047, p277048, p277049, p277050, p277051, p277052, p277053, p277054, p277055, p277056, p277057, p277058, p277059, p277060, he277043, hB277087, ht277061, ht277062, ht277063, ht277064, ht277065, ht277066, ht277067, ht277068, ht277069, ht277070, ht277071, ht277072, ht277073, ht277074, ht277075, ht277076, ht277077, ht277078, ht277079, ht277080, ht277081, ht277082, ht277083, ht277084, hB277088⟩ := show rk_10 γ (F277019 q225908) from RS_o hT277020 htq225908
                                  have fq277089 : fR (F277019 q225908) 0 = (γ 9 0) := by rw [he277043]; rfl
                                  refine Gp_get 0 hm277042 he277043 dr_cX17_findLive_170 (gk_X17 D I) (Nat.le_of_ble_eq_true rfl) wr_7_74 rfl ?_
                                  refine G_iload 3 dr_cX17_findLive_173 rfl ?_
                                  have hm277090 : (γ 9 0) ∈ P225906 := RS_m hT277020 ht277063 (by decide)
                                  obtain ⟨f277092, he277091, hg277093⟩ := show rk_12 I γ (F277019 (γ 9 0)) from RS_o hT277020 ht277063
                                  obtain ⟨q277094, hx277096⟩ : ∃ x, x = γ 10 g276098.toInt.toNat := ⟨_, rfl⟩
                                  have ht277095 : rKd γ q277094 11 := by rw [hx277096]; exact (hg277093 _ (show g276098.toInt.toNat < 40 by omega)).2.1
                                  refine Gp_aald 5 hm277090 he277091 dr_cX17_findLive_175 rfl rfl (gB_inr (by omega) (by omega)) ?_
                                  rw [show f277092 g276098.toNatClampNeg = some q277094 from (hg277093 _ (show g276098.toInt.toNat < 40 by omega)).1.trans (by rw [hx277096])]
                                  change G _ _ _ _ _ _ _ (.ref q277094 :: _) _ _ _
                                  refine G_iload 1 dr_cX17_findLive_176 rfl ?_
                                  refine G_aload_n 4 dr_cX17_findLive_178 rfl ?_
                                  have fq277097 : fR (F277019 q225908) 2 = (γ 9 2) := by rw [he277043]; rfl
                                  refine Gp_get 2 hm277042 he277043 dr_cX17_findLive_179 (gk_X17 D I) (Nat.le_of_ble_eq_true rfl) wr_7_76 rfl ?_
                                  refine G_iload 1 dr_cX17_findLive_182 rfl ?_
                                  have hm277098 : (γ 9 2) ∈ P225906 := RS_m hT277020 ht277065 (by decide)
                                  obtain ⟨f277100, he277099, wf277100⟩ := show rk_35 I (F277019 (γ 9 2)) from RS_o hT277020 ht277065
                                  refine Gp_lald 2 hm277098 he277099 dr_cX17_findLive_184 rfl (gB_in bg277017' (by decide) (by decide)) (G_namL fun u277101 hu277101 => ?_)
                                  have qu277101 : lb_Q u277101 (2000 - 64 * g277017.toInt) := lb_Wld hu277101 wf277100 (by omega) (by omega) (lb_Mod0 (by omega) (by omega))
                                  have hm277102 : q277094 ∈ P225906 := RS_m hT277020 ht277095 (by decide)
                                  obtain ⟨f277104, he277103, wf277104⟩ := show rk_11 I (F277019 q277094) from RS_o hT277020 ht277095
                                  refine Gp_last 2 hm277102 he277103 dr_cX17_findLive_185 rfl (gB_in bg277017' (by decide) (by decide)) (fun F277105 e277106 n277107 => ?_)
                                  obtain ⟨f277108, hf277108⟩ : ∃ z, z = vp_updL f277104 g277017.toNatClampNeg u277101 := ⟨_, rfl⟩
                                  rw [← hf277108] at e277106
                                  have he277109 : F277105 q225909 = .inr (18, [.ref q272355, .ref q272356, .int p272357, .int p272358]) := (n277107 q225909 (rn_oa he277030 he277103)).trans he277030
                                  have he277110 : F277105 q272355 = .inr (4, [.int p276119, .ref q276121, .int p276120]) := (n277107 q272355 (rn_oa he277031 he277103)).trans he277031
                                  have he277111 : F277105 q276121 = .inl (I (.object "java/lang/Object"), n276135, .inr (.inr (.inr (.inr f276136)))) := (n277107 q276121 (rn_ref_long he277032 he277103)).trans he277032
                                  have he277112 : F277105 q276138 = .inr (17, [.ref q276148, .ref q276149, .int p276150, .int p276151]) := (n277107 q276138 (rn_oa he277033 he277103)).trans he277033
                                  have he277113 : F277105 q225908 = .inr (22, [.ref (γ 9 0), .ref (γ 9 1), .ref (γ 9 2), .ref (γ 9 3), .ref (γ 9 4), .ref (γ 9 5), .ref (γ 9 6), .ref (γ 9 7), .ref (γ 9 8), .int p277046, .int p277047, .int p277048, .int p277049, .int p277050, .int p277051, .ref (γ 9 15), .ref (γ 9 16), .ref (γ 9 17), .ref (γ 9 18), .ref (γ 9 19), .ref (γ 9 20), .ref (γ 9 21), .ref (γ 9 22), .int p277052, .int p277053, .int p277054, .int p277055, .int p277056, .ref q277044, .ref (γ 9 29), .int p277057, .ref (γ 9 31), .int p277058, .int p277059, .int p277060, .ref q277045]) := (n277107 q225908 (rn_oa he277043 he277103)).trans he277043
                                  have he277114 : F277105 (γ 9 0) = .inl (I (.array .long), 40, .inr (.inr (.inr (.inr f277092)))) := (n277107 (γ 9 0) (rn_ref_long he277091 he277103)).trans he277091
                                  have he277115 : F277105 (γ 9 2) = .inl (I .long, 32, .inr (.inl f277100)) := (n277107 (γ 9 2) (rn_ty ht277065 ht277095 (by decide))).trans he277099
                                  have he277116 : F277105 q277094 = .inl (I .long, 32, .inr (.inl f277108)) := e277106
                                  have hs277117 : rStr γ [] F225907 F277105 := rStr_put hs277021 n277107 ht277095 (by decide)
                                  have kp277118 : F277105 q225908 = F225907 q225908 := (n277107 q225908 (rn_ty htq225908 ht277095 (by decide))).trans x277027
                                  have wf277108 : lb_W f277108 (32) (32) (2000) := lb_Wst hf277108 wf277104 (by omega) (lb_Mod0 (by omega) (by omega)) qu277101
                                  obtain ⟨z277119, hz277119⟩ : ∃ z : Int32, z = g277017 + Int32.ofInt 1 := ⟨_, rfl⟩
                                  have ez277119 : z277119.toInt = g277017.toInt + 1 := gI_inc hz277119 (by decide) bg277017' (by decide) (by decide)
                                  have bz277119 : gB z277119 1 32 := ⟨by omega, by omega⟩
                                  refine G_iinc (L' := [(6, .int z277119), (3, .int 1), (5, .ref q276138), (4, .int g276098), (0, .ref q225908), (1, .ref q225909), (2, .int p225910)]) z277119 1 dr_cX17_findLive_186 rfl hz277119.symm (Nat.le_of_ble_eq_true rfl) rfl ?_
                                  refine G_goto 131 dr_cX17_findLive_189 (by decide +kernel) ?_
                                  have hT277120 : RS D I P225906 F277105 γ el := RS_set hT277020 n277107 ht277095 (by decide) ⟨f277108, he277116, wf277108⟩
                                  refine G_lv (L' := [(6, .int z277119), (5, .ref q276138), (4, .int g276098), (3, .int 1), (0, .ref q225908), (1, .ref q225909), (2, .int p225910)]) [0, 2, 3, 1, 4, 5, 6] rfl ?_
                                  exact ih131_277027 F277105 z277119 1 (gB_w bz277119 (by decide) (by decide)) (gB_w (gBl (show Int32.toInt 1 = 1 by decide)) (by decide) (by decide)) hT277120 hs277117 (fun i hi hne => (n277107 _ (by rw [hx277096]; exact RS_lne hT277120 ht277063 hi (by omega) (by omega))).trans (x277022 i hi hne)) (fun k hk => by rw [n277107 (γ 9 2) (rn_ty ht277065 ht277095 (by decide))]; exact x277023 k hk) (fun k hk => by unfold lvS; rw [← hx277096, cL_of he277116]; exact cp_st hu277101 hf277108 bg277017'.1 ez277119 (fun k hk => by have q := x277024 k hk; unfold lvS at q; rw [← hx277096, cL_of he277103] at q; exact q) (fun k hk => by have q := x277023 k hk; rw [cL_of he277099] at q; exact q) k hk) (by have gz : (g277017.toNatClampNeg : Int) = g277017.toInt := g_nn bg277017'.1; have hU := lvT_u (γ := γ) (F := F277019) (i := g276098.toInt.toNat) (z := g277017.toNatClampNeg) (by omega) (cl32 bg277017'.1 (by omega)) (fun i hi hne => n277107 _ (by rw [hx277096]; exact RS_lne hT277120 ht277063 hi (by omega) hne)) (by rw [← hx277096]; exact cL_of he277103) (by rw [← hx277096]; exact cL_of he277116) hf277108; have hS := rpop_sub (lv_w (f := f277104) (g := f277100) (A := trS γ el F225907 (decide (p225910.toInt = 1)) q276138 (lvM γ F276100) (γ 2 (γ 14 q276138))) (z := g277017.toNatClampNeg) (cl32 bg277017'.1 (by omega)) (fun k' h1 h2 h3 => by have q := x277024 k' h1; unfold lvS at q; rw [← hx277096, cL_of he277103, if_neg (by omega)] at q; rw [q] at h3; rw [x277026]; exact x276103 _ (by omega) k' ((lvM_e (by omega) h1).trans (by unfold lvS; rw [← hx277096]; exact h3))) (fun k hk => by have q := x277023 k hk; rw [cL_of he277099] at q; exact q)); rw [← hu277101] at hS; have q := x277025; have qb0 : Int32.toInt 0 = 0 := (by decide); have qb1 : Int32.toInt 1 = 1 := (by decide); omega) x277026 kp277118 (fun k e1 e2 ht => kt131_277028 k e1 e2 (fun R c1 c2 c3 c4 => c2 F277019 g277017 g277018 q277094 f277100 u277101 f277104 f277108 F277105 z277119 k e1 e2 bg277017 bg277018 hT277020 hs277021 x277022 x277023 x277024 x277025 x277026 x277027 r277039 r277041 fq277089 hx277096 fq277097 he277099 hu277101 he277103 hf277108 n277107 he277116 ez277119 (ht R c1 c2 c3 c4))) (by have qa0 : Int32.toInt 1 = 1 := (by decide); omega)
                                · have r277121 : g277018.toInt = 0 := gj_eq hc277040 (show Int32.toInt 0 = 0 by decide)
                                  have bg277018' : gB g277018 0 0 := ⟨by omega, by omega⟩
                                  refine G_aload_n 4 dr_cX17_findLive_142 rfl ?_
                                  have hm277122 : q225908 ∈ P225906 := RS_m hT277020 htq225908 (by decide)
                                  obtain ⟨q277124, q277125, p277126, p277127, p277128, p277129, p277130, p277131, p277132, p277133, p277134, p277135, p277136, p277137, p277138, p277139, p277140, he277123, hB277167, ht277141, ht277142, ht277143, ht277144, ht277145, ht277146, ht277147, ht277148, ht277149, ht277150, ht277151, ht277152, ht277153, ht277154, ht277155, ht277156, ht277157, ht277158, ht277159, ht277160, ht277161, ht277162, ht277163, ht277164, hB277168⟩ := show rk_10 γ (F277019 q225908) from RS_o hT277020 htq225908
                                  have fq277169 : fR (F277019 q225908) 0 = (γ 9 0) := by rw [he277123]; rfl
                                  refine Gp_get 0 hm277122 he277123 dr_cX17_findLive_143 (gk_X17 D I) (Nat.le_of_ble_eq_true rfl) wr_7_74 rfl ?_
                                  refine G_iload 2 dr_cX17_findLive_146 rfl ?_
                                  have hm277170 : (γ 9 0) ∈ P225906 := RS_m hT277020 ht277143 (by decide)
                                  obtain ⟨f277172, he277171, hg277173⟩ := show rk_12 I γ (F277019 (γ 9 0)) from RS_o hT277020 ht277143
                                  obtain ⟨q277174, hx277176⟩ : ∃ x, x = γ 10 g276098.toInt.toNat := ⟨_, rfl⟩
                                  have ht277175 : rKd γ q277174 11 := by rw [hx277176]; exact (hg277173 _ (show g276098.toInt.toNat < 40 by omega)).2.1
                                  refine Gp_aald 5 hm277170 he277171 dr_cX17_findLive_148 rfl rfl (gB_inr (by omega) (by omega)) ?_
                                  rw [show f277172 g276098.toNatClampNeg = some q277174 from (hg277173 _ (show g276098.toInt.toNat < 40 by omega)).1.trans (by rw [hx277176])]
                                  change G _ _ _ _ _ _ _ (.ref q277174 :: _) _ _ _
                                  refine G_iload 0 dr_cX17_findLive_149 rfl ?_
                                  have hm277177 : q277174 ∈ P225906 := RS_m hT277020 ht277175 (by decide)
                                  obtain ⟨f277179, he277178, wf277179⟩ := show rk_11 I (F277019 q277174) from RS_o hT277020 ht277175
                                  refine Gp_lald 2 hm277177 he277178 dr_cX17_findLive_151 rfl (gB_in bg277017' (by decide) (by decide)) (G_namL fun u277180 hu277180 => ?_)
                                  have qu277180 : lb_Q u277180 (2000 - 64 * g277017.toInt) := lb_Wld hu277180 wf277179 (by omega) (by omega) (lb_Mod0 (by omega) (by omega))
                                  refine G_aload_n 4 dr_cX17_findLive_152 rfl ?_
                                  have fq277181 : fR (F277019 q225908) 2 = (γ 9 2) := by rw [he277123]; rfl
                                  refine Gp_get 2 hm277122 he277123 dr_cX17_findLive_153 (gk_X17 D I) (Nat.le_of_ble_eq_true rfl) wr_7_76 rfl ?_
                                  refine G_iload 0 dr_cX17_findLive_156 rfl ?_
                                  have hm277182 : (γ 9 2) ∈ P225906 := RS_m hT277020 ht277145 (by decide)
                                  obtain ⟨f277184, he277183, wf277184⟩ := show rk_35 I (F277019 (γ 9 2)) from RS_o hT277020 ht277145
                                  refine Gp_lald 2 hm277182 he277183 dr_cX17_findLive_158 rfl (gB_in bg277017' (by decide) (by decide)) (G_namL fun u277185 hu277185 => ?_)
                                  have qu277185 : lb_Q u277185 (2000 - 64 * g277017.toInt) := lb_Wld hu277185 wf277184 (by omega) (by omega) (lb_Mod0 (by omega) (by omega))
                                  refine G_lcmp dr_cX17_findLive_159 (G_nam fun z277186 hz277186 => ?_)
                                  have bz277186 : gB z277186 (-1) 1 := gB_cmp hz277186
                                  refine G_if_eq 167 dr_cX17_findLive_160 (by decide +kernel) (fun hc277187 => ?_) (fun hc277187 => ?_)
                                  · have r277188 : z277186.toInt = 0 := gj_eq hc277187 (show Int32.toInt 0 = 0 by decide)
                                    have bz277186' : gB z277186 0 0 := ⟨by omega, by omega⟩
                                    have lhc277187 := gC_cmpE hz277186 hc277187
                                    refine G_iconst 0 dr_cX17_findLive_167 (by decide +kernel) ?_
                                    refine G_istore_n (L' := [(3, .int 0), (6, .int g277017), (5, .ref q276138), (4, .int g276098), (0, .ref q225908), (1, .ref q225909), (2, .int p225910)]) dr_cX17_findLive_168 (Nat.le_of_ble_eq_true rfl) rfl ?_
                                    refine G_aload_n 4 dr_cX17_findLive_169 rfl ?_
                                    refine Gp_get 0 hm277122 he277123 dr_cX17_findLive_170 (gk_X17 D I) (Nat.le_of_ble_eq_true rfl) wr_7_74 rfl ?_
                                    refine G_iload 3 dr_cX17_findLive_173 rfl ?_
                                    refine Gp_aald 5 hm277170 he277171 dr_cX17_findLive_175 rfl rfl (gB_inr (by omega) (by omega)) ?_
                                    rw [show f277172 g276098.toNatClampNeg = some q277174 from (hg277173 _ (show g276098.toInt.toNat < 40 by omega)).1.trans (by rw [hx277176])]
                                    change G _ _ _ _ _ _ _ (.ref q277174 :: _) _ _ _
                                    refine G_iload 1 dr_cX17_findLive_176 rfl ?_
                                    refine G_aload_n 4 dr_cX17_findLive_178 rfl ?_
                                    refine Gp_get 2 hm277122 he277123 dr_cX17_findLive_179 (gk_X17 D I) (Nat.le_of_ble_eq_true rfl) wr_7_76 rfl ?_
                                    refine G_iload 1 dr_cX17_findLive_182 rfl ?_
                                    refine Gp_lald 2 hm277182 he277183 dr_cX17_findLive_184 rfl (gB_in bg277017' (by decide) (by decide)) (G_eql (y := u277185) hu277185.symm ?_)
                                    refine Gp_last 2 hm277177 he277178 dr_cX17_findLive_185 rfl (gB_in bg277017' (by decide) (by decide)) (fun F277189 e277190 n277191 => ?_)
                                    obtain ⟨f277192, hf277192⟩ : ∃ z, z = vp_updL f277179 g277017.toNatClampNeg u277185 := ⟨_, rfl⟩
                                    rw [← hf277192] at e277190
                                    have he277193 : F277189 q225909 = .inr (18, [.ref q272355, .ref q272356, .int p272357, .int p272358]) := (n277191 q225909 (rn_oa he277030 he277178)).trans he277030
                                    have he277194 : F277189 q272355 = .inr (4, [.int p276119, .ref q276121, .int p276120]) := (n277191 q272355 (rn_oa he277031 he277178)).trans he277031
                                    have he277195 : F277189 q276121 = .inl (I (.object "java/lang/Object"), n276135, .inr (.inr (.inr (.inr f276136)))) := (n277191 q276121 (rn_ref_long he277032 he277178)).trans he277032
                                    have he277196 : F277189 q276138 = .inr (17, [.ref q276148, .ref q276149, .int p276150, .int p276151]) := (n277191 q276138 (rn_oa he277033 he277178)).trans he277033
                                    have he277197 : F277189 q225908 = .inr (22, [.ref (γ 9 0), .ref (γ 9 1), .ref (γ 9 2), .ref (γ 9 3), .ref (γ 9 4), .ref (γ 9 5), .ref (γ 9 6), .ref (γ 9 7), .ref (γ 9 8), .int p277126, .int p277127, .int p277128, .int p277129, .int p277130, .int p277131, .ref (γ 9 15), .ref (γ 9 16), .ref (γ 9 17), .ref (γ 9 18), .ref (γ 9 19), .ref (γ 9 20), .ref (γ 9 21), .ref (γ 9 22), .int p277132, .int p277133, .int p277134, .int p277135, .int p277136, .ref q277124, .ref (γ 9 29), .int p277137, .ref (γ 9 31), .int p277138, .int p277139, .int p277140, .ref q277125]) := (n277191 q225908 (rn_oa he277123 he277178)).trans he277123
                                    have he277198 : F277189 (γ 9 0) = .inl (I (.array .long), 40, .inr (.inr (.inr (.inr f277172)))) := (n277191 (γ 9 0) (rn_ref_long he277171 he277178)).trans he277171
                                    have he277199 : F277189 (γ 9 2) = .inl (I .long, 32, .inr (.inl f277184)) := (n277191 (γ 9 2) (rn_ty ht277145 ht277175 (by decide))).trans he277183
                                    have he277200 : F277189 q277174 = .inl (I .long, 32, .inr (.inl f277192)) := e277190
                                    have hs277201 : rStr γ [] F225907 F277189 := rStr_put hs277021 n277191 ht277175 (by decide)
                                    have kp277202 : F277189 q225908 = F225907 q225908 := (n277191 q225908 (rn_ty htq225908 ht277175 (by decide))).trans x277027
                                    have wf277192 : lb_W f277192 (32) (32) (2000) := lb_Wst hf277192 wf277179 (by omega) (lb_Mod0 (by omega) (by omega)) qu277185
                                    obtain ⟨z277203, hz277203⟩ : ∃ z : Int32, z = g277017 + Int32.ofInt 1 := ⟨_, rfl⟩
                                    have ez277203 : z277203.toInt = g277017.toInt + 1 := gI_inc hz277203 (by decide) bg277017' (by decide) (by decide)
                                    have bz277203 : gB z277203 1 32 := ⟨by omega, by omega⟩
                                    refine G_iinc (L' := [(6, .int z277203), (3, .int 0), (5, .ref q276138), (4, .int g276098), (0, .ref q225908), (1, .ref q225909), (2, .int p225910)]) z277203 1 dr_cX17_findLive_186 rfl hz277203.symm (Nat.le_of_ble_eq_true rfl) rfl ?_
                                    refine G_goto 131 dr_cX17_findLive_189 (by decide +kernel) ?_
                                    have hT277204 : RS D I P225906 F277189 γ el := RS_set hT277020 n277191 ht277175 (by decide) ⟨f277192, he277200, wf277192⟩
                                    refine G_lv (L' := [(6, .int z277203), (5, .ref q276138), (4, .int g276098), (3, .int 0), (0, .ref q225908), (1, .ref q225909), (2, .int p225910)]) [0, 2, 3, 1, 4, 5, 6] rfl ?_
                                    exact ih131_277027 F277189 z277203 0 (gB_w bz277203 (by decide) (by decide)) (gB_w (gBl (show Int32.toInt 0 = 0 by decide)) (by decide) (by decide)) hT277204 hs277201 (fun i hi hne => (n277191 _ (by rw [hx277176]; exact RS_lne hT277204 ht277143 hi (by omega) (by omega))).trans (x277022 i hi hne)) (fun k hk => by rw [n277191 (γ 9 2) (rn_ty ht277145 ht277175 (by decide))]; exact x277023 k hk) (fun k hk => by unfold lvS; rw [← hx277176, cL_of he277200]; exact cp_st hu277185 hf277192 bg277017'.1 ez277203 (fun k hk => by have q := x277024 k hk; unfold lvS at q; rw [← hx277176, cL_of he277178] at q; exact q) (fun k hk => by have q := x277023 k hk; rw [cL_of he277183] at q; exact q) k hk) (by have gz : (g277017.toNatClampNeg : Int) = g277017.toInt := g_nn bg277017'.1; have hU := lvT_u (γ := γ) (F := F277019) (i := g276098.toInt.toNat) (z := g277017.toNatClampNeg) (by omega) (cl32 bg277017'.1 (by omega)) (fun i hi hne => n277191 _ (by rw [hx277176]; exact RS_lne hT277204 ht277143 hi (by omega) hne)) (by rw [← hx277176]; exact cL_of he277178) (by rw [← hx277176]; exact cL_of he277200) hf277192; have hS := rpop_sub (lv_w (f := f277179) (g := f277184) (A := trS γ el F225907 (decide (p225910.toInt = 1)) q276138 (lvM γ F276100) (γ 2 (γ 14 q276138))) (z := g277017.toNatClampNeg) (cl32 bg277017'.1 (by omega)) (fun k' h1 h2 h3 => by have q := x277024 k' h1; unfold lvS at q; rw [← hx277176, cL_of he277178, if_neg (by omega)] at q; rw [q] at h3; rw [x277026]; exact x276103 _ (by omega) k' ((lvM_e (by omega) h1).trans (by unfold lvS; rw [← hx277176]; exact h3))) (fun k hk => by have q := x277023 k hk; rw [cL_of he277183] at q; exact q)); rw [← hu277185] at hS; have q := x277025; have qb0 : Int32.toInt 0 = 0 := (by decide); have qb1 : Int32.toInt 1 = 1 := (by decide); omega) x277026 kp277202 (fun k e1 e2 ht => kt131_277028 k e1 e2 (fun R c1 c2 c3 c4 => c3 F277019 g277017 g277018 q277174 f277179 u277180 f277184 u277185 f277192 F277189 z277203 k e1 e2 bg277017 bg277018 hT277020 hs277021 x277022 x277023 x277024 x277025 x277026 x277027 r277039 r277121 fq277169 hx277176 he277178 hu277180 fq277181 he277183 hu277185 lhc277187 hf277192 n277191 he277200 ez277203 (ht R c1 c2 c3 c4))) (by have qa0 : Int32.toInt 0 = 0 := (by decide); omega)
                                  · have r277205 : z277186.toInt ≠ 0 := gj_neq hc277187 (show Int32.toInt 0 = 0 by decide)
                                    have lhc277187 := gC_cmpN hz277186 hc277187
                                    refine G_iconst 1 dr_cX17_findLive_163 (by decide +kernel) ?_
                                    refine G_goto 168 dr_cX17_findLive_164 (by decide +kernel) ?_
                                    refine G_istore_n (L' := [(3, .int 1), (6, .int g277017), (5, .ref q276138), (4, .int g276098), (0, .ref q225908), (1, .ref q225909), (2, .int p225910)]) dr_cX17_findLive_168 (Nat.le_of_ble_eq_true rfl) rfl ?_
                                    refine G_aload_n 4 dr_cX17_findLive_169 rfl ?_
                                    refine Gp_get 0 hm277122 he277123 dr_cX17_findLive_170 (gk_X17 D I) (Nat.le_of_ble_eq_true rfl) wr_7_74 rfl ?_
                                    refine G_iload 3 dr_cX17_findLive_173 rfl ?_
                                    refine Gp_aald 5 hm277170 he277171 dr_cX17_findLive_175 rfl rfl (gB_inr (by omega) (by omega)) ?_
                                    rw [show f277172 g276098.toNatClampNeg = some q277174 from (hg277173 _ (show g276098.toInt.toNat < 40 by omega)).1.trans (by rw [hx277176])]
                                    change G _ _ _ _ _ _ _ (.ref q277174 :: _) _ _ _
                                    refine G_iload 1 dr_cX17_findLive_176 rfl ?_
                                    refine G_aload_n 4 dr_cX17_findLive_178 rfl ?_
                                    refine Gp_get 2 hm277122 he277123 dr_cX17_findLive_179 (gk_X17 D I) (Nat.le_of_ble_eq_true rfl) wr_7_76 rfl ?_
                                    refine G_iload 1 dr_cX17_findLive_182 rfl ?_
                                    refine Gp_lald 2 hm277182 he277183 dr_cX17_findLive_184 rfl (gB_in bg277017' (by decide) (by decide)) (G_eql (y := u277185) hu277185.symm ?_)
                                    refine Gp_last 2 hm277177 he277178 dr_cX17_findLive_185 rfl (gB_in bg277017' (by decide) (by decide)) (fun F277206 e277207 n277208 => ?_)
                                    obtain ⟨f277209, hf277209⟩ : ∃ z, z = vp_updL f277179 g277017.toNatClampNeg u277185 := ⟨_, rfl⟩
                                    rw [← hf277209] at e277207
                                    have he277210 : F277206 q225909 = .inr (18, [.ref q272355, .ref q272356, .int p272357, .int p272358]) := (n277208 q225909 (rn_oa he277030 he277178)).trans he277030
                                    have he277211 : F277206 q272355 = .inr (4, [.int p276119, .ref q276121, .int p276120]) := (n277208 q272355 (rn_oa he277031 he277178)).trans he277031
                                    have he277212 : F277206 q276121 = .inl (I (.object "java/lang/Object"), n276135, .inr (.inr (.inr (.inr f276136)))) := (n277208 q276121 (rn_ref_long he277032 he277178)).trans he277032
                                    have he277213 : F277206 q276138 = .inr (17, [.ref q276148, .ref q276149, .int p276150, .int p276151]) := (n277208 q276138 (rn_oa he277033 he277178)).trans he277033
                                    have he277214 : F277206 q225908 = .inr (22, [.ref (γ 9 0), .ref (γ 9 1), .ref (γ 9 2), .ref (γ 9 3), .ref (γ 9 4), .ref (γ 9 5), .ref (γ 9 6), .ref (γ 9 7), .ref (γ 9 8), .int p277126, .int p277127, .int p277128, .int p277129, .int p277130, .int p277131, .ref (γ 9 15), .ref (γ 9 16), .ref (γ 9 17), .ref (γ 9 18), .ref (γ 9 19), .ref (γ 9 20), .ref (γ 9 21), .ref (γ 9 22), .int p277132, .int p277133, .int p277134, .int p277135, .int p277136, .ref q277124, .ref (γ 9 29), .int p277137, .ref (γ 9 31), .int p277138, .int p277139, .int p277140, .ref q277125]) := (n277208 q225908 (rn_oa he277123 he277178)).trans he277123
                                    have he277215 : F277206 (γ 9 0) = .inl (I (.array .long), 40, .inr (.inr (.inr (.inr f277172)))) := (n277208 (γ 9 0) (rn_ref_long he277171 he277178)).trans he277171
                                    have he277216 : F277206 (γ 9 2) = .inl (I .long, 32, .inr (.inl f277184)) := (n277208 (γ 9 2) (rn_ty ht277145 ht277175 (by decide))).trans he277183
                                    have he277217 : F277206 q277174 = .inl (I .long, 32, .inr (.inl f277209)) := e277207
                                    have hs277218 : rStr γ [] F225907 F277206 := rStr_put hs277021 n277208 ht277175 (by decide)
                                    have kp277219 : F277206 q225908 = F225907 q225908 := (n277208 q225908 (rn_ty htq225908 ht277175 (by decide))).trans x277027
                                    have wf277209 : lb_W f277209 (32) (32) (2000) := lb_Wst hf277209 wf277179 (by omega) (lb_Mod0 (by omega) (by omega)) qu277185
                                    obtain ⟨z277220, hz277220⟩ : ∃ z : Int32, z = g277017 + Int32.ofInt 1 := ⟨_, rfl⟩
                                    have ez277220 : z277220.toInt = g277017.toInt + 1 := gI_inc hz277220 (by decide) bg277017' (by decide) (by decide)
                                    have bz277220 : gB z277220 1 32 := ⟨by omega, by omega⟩
                                    refine G_iinc (L' := [(6, .int z277220), (3, .int 1), (5, .ref q276138), (4, .int g276098), (0, .ref q225908), (1, .ref q225909), (2, .int p225910)]) z277220 1 dr_cX17_findLive_186 rfl hz277220.symm (Nat.le_of_ble_eq_true rfl) rfl ?_
                                    refine G_goto 131 dr_cX17_findLive_189 (by decide +kernel) ?_
                                    have hT277221 : RS D I P225906 F277206 γ el := RS_set hT277020 n277208 ht277175 (by decide) ⟨f277209, he277217, wf277209⟩
                                    refine G_lv (L' := [(6, .int z277220), (5, .ref q276138), (4, .int g276098), (3, .int 1), (0, .ref q225908), (1, .ref q225909), (2, .int p225910)]) [0, 2, 3, 1, 4, 5, 6] rfl ?_
                                    exact ih131_277027 F277206 z277220 1 (gB_w bz277220 (by decide) (by decide)) (gB_w (gBl (show Int32.toInt 1 = 1 by decide)) (by decide) (by decide)) hT277221 hs277218 (fun i hi hne => (n277208 _ (by rw [hx277176]; exact RS_lne hT277221 ht277143 hi (by omega) (by omega))).trans (x277022 i hi hne)) (fun k hk => by rw [n277208 (γ 9 2) (rn_ty ht277145 ht277175 (by decide))]; exact x277023 k hk) (fun k hk => by unfold lvS; rw [← hx277176, cL_of he277217]; exact cp_st hu277185 hf277209 bg277017'.1 ez277220 (fun k hk => by have q := x277024 k hk; unfold lvS at q; rw [← hx277176, cL_of he277178] at q; exact q) (fun k hk => by have q := x277023 k hk; rw [cL_of he277183] at q; exact q) k hk) (by have gz : (g277017.toNatClampNeg : Int) = g277017.toInt := g_nn bg277017'.1; have hU := lvT_u (γ := γ) (F := F277019) (i := g276098.toInt.toNat) (z := g277017.toNatClampNeg) (by omega) (cl32 bg277017'.1 (by omega)) (fun i hi hne => n277208 _ (by rw [hx277176]; exact RS_lne hT277221 ht277143 hi (by omega) hne)) (by rw [← hx277176]; exact cL_of he277178) (by rw [← hx277176]; exact cL_of he277217) hf277209; have hS := rpop_slt (lv_w (f := f277179) (g := f277184) (A := trS γ el F225907 (decide (p225910.toInt = 1)) q276138 (lvM γ F276100) (γ 2 (γ 14 q276138))) (z := g277017.toNatClampNeg) (cl32 bg277017'.1 (by omega)) (fun k' h1 h2 h3 => by have q := x277024 k' h1; unfold lvS at q; rw [← hx277176, cL_of he277178, if_neg (by omega)] at q; rw [q] at h3; rw [x277026]; exact x276103 _ (by omega) k' ((lvM_e (by omega) h1).trans (by unfold lvS; rw [← hx277176]; exact h3))) (fun k hk => by have q := x277023 k hk; rw [cL_of he277183] at q; exact q)) (fun e => lc_ne hz277186 (by omega) (hu277180.trans (e.trans hu277185.symm))); rw [← hu277185] at hS; have q := x277025; have qb0 : Int32.toInt 0 = 0 := (by decide); have qb1 : Int32.toInt 1 = 1 := (by decide); omega) x277026 kp277219 (fun k e1 e2 ht => kt131_277028 k e1 e2 (fun R c1 c2 c3 c4 => c4 F277019 g277017 g277018 q277174 f277179 u277180 f277184 u277185 f277209 F277206 z277220 k e1 e2 bg277017 bg277018 hT277020 hs277021 x277022 x277023 x277024 x277025 x277026 x277027 r277039 r277121 fq277169 hx277176 he277178 hu277180 fq277181 he277183 hu277185 lhc277187 hf277209 n277208 he277217 ez277220 (ht R c1 c2 c3 c4))) (by have qa0 : Int32.toInt 1 = 1 := (by decide); omega)
                          exact hlp131_277027 (((33 : Int) - 0).toNat + 1) F276805 0 g276099 (gB_w (gBl (show Int32.toInt 0 = 0 by decide)) (by decide) (by decide)) bg276099 hT276806 hs276807 (fun i hi _ => x276808 i hi) (fun k hk => by have q := x276809 k hk; rw [show ((((γ 2 (γ 14 q276138) : Nat) : Int) - 1 - g276804.toInt).toNat) = γ 2 (γ 14 q276138) by omega] at q; exact q) (fun k hk => by rw [if_neg (by have qa : Int32.toInt 0 = 0 := (by decide); omega)]; exact lvS_l x276808 (by omega)) (by have q := lvT_l x276808; have q2 := x276104; omega) x276811 x276812 (fun k e1 e2 ht => ht) (Nat.lt_succ_self _)
                        · have r277222 : 0 ≤ g276804.toInt := gj_nlt hc276821 (show Int32.toInt 0 = 0 by decide)
                          have bg276804' : gB g276804 0 999999 := ⟨by omega, by omega⟩
                          refine G_aload_n 4 dr_cX17_findLive_104 rfl ?_
                          refine G_aload 1 dr_cX17_findLive_105 rfl ?_
                          have fq277223 : fR (F276805 q276138) 0 = q276148 := by rw [he276818]; rfl
                          refine Gp_get 0 hm276146 he276818 dr_cX17_findLive_107 (gk_X12 D I) (Nat.le_of_ble_eq_true rfl) wr_9_220 rfl ?_
                          refine G_iload 0 dr_cX17_findLive_110 rfl ?_
                          have hm277224 : q276148 ∈ P225906 := RS_m hT276806 ht276152 (by decide)
                          obtain ⟨⟨p277226, p277227, q277228, he277225, r277229, r277230, r277231, r277233⟩, r277232⟩ := show rk_3 D I γ el F276805 q276148 from RS_o hT276806 ht276152
                          have bp277226 := gB_any p277226
                          have bp277227 : gB p277227 0 1000000 := ⟨by omega, by omega⟩
                          obtain ⟨r277234, r277235, n277242, f277243, r277236, r277237, r277238, r277239, r277240, r277241⟩ := rLC_n r277231 (by omega)
                          have hm277244 : q277228 ∈ P225906 := RS_m hT276806 r277234 (by decide)
                          obtain ⟨q277245, hx277246⟩ : ∃ x, x = el q276148 g276804.toInt.toNat := ⟨_, rfl⟩
                          have hx277247 : f277243 g276804.toNatClampNeg = some q277245 := (r277240 _ (show g276804.toInt.toNat < γ 2 q276148 by omega)).trans (by rw [hx277246])
                          have ht277248 : rKd γ q277245 1 := by rw [hx277246]; exact (r277232 _ (show g276804.toInt.toNat < γ 2 q276148 by omega)).1
                          have ht277249 : rFm γ q277245 q276148 := by rw [hx277246]; exact (r277232 _ (show g276804.toInt.toNat < γ 2 q276148 by omega)).2.1
                          have fq277250 : fI (F276805 q276148) 2 = p277227 := by rw [he277225]; rfl
                          refine Gw_callV (As := [.int g276804]) (gV_ok D I) (cp_22_ArrayList_get l hl0 D I P225906 F276805 q276148 q277228 g276804 p277226 p277227 f277243 n277242 q277245 hm277224 hm277244 he277225 r277236 (gB_w bg276804' (by decide) (by decide)) (gB_w bp277227 (by decide) (by decide)) (by omega) (by omega) (by assumption) (by omega)) dr_cX17_findLive_112 ⟨wr_10_201, wr_1_18, wr_10_65, by decide, rfl, (Nat.le_of_ble_eq_true rfl), (Nat.le_of_ble_eq_true rfl)⟩ wr_10_63 wr_10_64 hm277224 he277225 rfl (show 0 + 0 ≤ 0 by first | omega | decide) (show 0 + 0 ≤ 0 by first | omega | decide) (Nat.le_of_ble_eq_true rfl) (fun r277254 w277255 dc277251 ds277252 hp277253 => ?_) (fun _ _ _ _ _ z => z.elim)
                          obtain ⟨rfl, rfl, hdc, hds, ht277256⟩ := hp277253
                          change G _ _ _ _ _ _ _ (.ref q277245 :: _) _ _ _
                          refine G_widen (cs' := 0) (sl' := 0) (by omega) (by omega) ?_
                          have hm277257 : q277245 ∈ P225906 := RS_m hT276806 ht277248 (by decide)
                          obtain ⟨p277259, p277260, p277261, p277262, p277263, p277264, p277265, he277258, bp277259, bp277260, bp277263, bp277264, bp277265, r277266, r277267, r277268, r277269, r277270⟩ := show rk_1 γ q277245 (F276805 q277245) from RS_o hT276806 ht277248
                          have bp277261 := gB_any p277261
                          have bp277262 := gB_any p277262
                          refine Gp_cast hm277257 he277258 rfl dr_cX17_findLive_115 wr_10_202 (gr_cast 1 rfl) ?_
                          refine G_iload_n 6 dr_cX17_findLive_118 rfl ?_
                          have fl277271 : F276805 q277245 = F225907 (el (γ 14 q276138) (γ 2 (γ 14 q276138) - 1 - ((((γ 2 (γ 14 q276138) : Nat) : Int) - 1 - g276804.toInt).toNat))) := by rw [show γ 2 (γ 14 q276138) - 1 - ((((γ 2 (γ 14 q276138) : Nat) : Int) - 1 - g276804.toInt).toNat) = g276804.toInt.toNat by omega, ht276158.1, ← hx277246]; exact hs276807 q277245 (rT0 ht277248 (by decide)) (rT1 ht277248 (by decide)) (rT2 ht277248 (by decide))
                          have hm277277 : q225908 ∈ P225906 := RS_m hT276806 htq225908 (by decide)
                          obtain ⟨q277279, q277280, p277281, p277282, p277283, p277284, p277285, p277286, p277287, p277288, p277289, p277290, p277291, p277292, p277293, p277294, p277295, he277278, hB277322, ht277296, ht277297, ht277298, ht277299, ht277300, ht277301, ht277302, ht277303, ht277304, ht277305, ht277306, ht277307, ht277308, ht277309, ht277310, ht277311, ht277312, ht277313, ht277314, ht277315, ht277316, ht277317, ht277318, ht277319, hB277323⟩ := show rk_10 γ (F276805 q225908) from RS_o hT276806 htq225908
                          refine Gw_callV (As := [.ref q277245, .int p225910]) (gV_ok D I) (ct_222488_SpillForgeModel_back l hl0 D I γ el P225906 F276805 q225908 q277245 p225910 hT276806 htq225908 ht277248 bp225910) dr_cX17_findLive_119 ⟨wr_10_174, wr_1_14, wr_10_177, by decide, rfl, (Nat.le_of_ble_eq_true rfl), (Nat.le_of_ble_eq_true rfl)⟩ wr_10_176 wr_p_96 hm277277 he277278 rfl (show 0 + 0 ≤ 0 by first | omega | decide) (show 0 + 0 ≤ 0 by first | omega | decide) (Nat.le_of_ble_eq_true rfl) (fun r277275 w277276 dc277272 ds277273 hp277274 => ?_) (fun _ _ _ _ _ z => z.elim)
                          obtain ⟨F277328, rfl, rfl, hT277329, hs277330, hdc, hds, x277324, x277325, x277326, ht277327⟩ := hp277274
                          have he277331 : F277328 q225909 = .inr (18, [.ref q272355, .ref q272356, .int p272357, .int p272358]) := (hs277330 q225909 (rT0 htq225909 (by decide)) (rT1 htq225909 (by decide)) (rT2 htq225909 (by decide))).trans he276815
                          have he277332 : F277328 q272355 = .inr (4, [.int p276119, .ref q276121, .int p276120]) := (hs277330 q272355 (rT0 ht272359 (by decide)) (rT1 ht272359 (by decide)) (rT2 ht272359 (by decide))).trans he276816
                          have he277333 : F277328 q276121 = .inl (I (.object "java/lang/Object"), n276135, .inr (.inr (.inr (.inr f276136)))) := (hs277330 q276121 (rT0 r276127 (by decide)) (rT1 r276127 (by decide)) (rT2 r276127 (by decide))).trans he276817
                          have he277334 : F277328 q276138 = .inr (17, [.ref q276148, .ref q276149, .int p276150, .int p276151]) := (hs277330 q276138 (rT0 ht276144 (by decide)) (rT1 ht276144 (by decide)) (rT2 ht276144 (by decide))).trans he276818
                          have he277335 : F277328 q276148 = .inr (4, [.int p277226, .ref q277228, .int p277227]) := (hs277330 q276148 (rT0 ht276152 (by decide)) (rT1 ht276152 (by decide)) (rT2 ht276152 (by decide))).trans he277225
                          have he277336 : F277328 q277228 = .inl (I (.object "java/lang/Object"), n277242, .inr (.inr (.inr (.inr f277243)))) := (hs277330 q277228 (rT0 r277234 (by decide)) (rT1 r277234 (by decide)) (rT2 r277234 (by decide))).trans r277236
                          have he277337 : F277328 q277245 = .inr (20, [.int p277259, .int p277260, .int p277261, .int p277262, .int p277263, .int p277264, .int p277265]) := (hs277330 q277245 (rT0 ht277248 (by decide)) (rT1 ht277248 (by decide)) (rT2 ht277248 (by decide))).trans he277258
                          have hs277338 : rStr γ [] F225907 F277328 := rStr_tr hs276807 hs277330
                          have kp277339 : F277328 q225908 = F225907 q225908 := (x277326).trans x276812
                          have he277340 : F277328 q225908 = .inr (22, [.ref (γ 9 0), .ref (γ 9 1), .ref (γ 9 2), .ref (γ 9 3), .ref (γ 9 4), .ref (γ 9 5), .ref (γ 9 6), .ref (γ 9 7), .ref (γ 9 8), .int p277281, .int p277282, .int p277283, .int p277284, .int p277285, .int p277286, .ref (γ 9 15), .ref (γ 9 16), .ref (γ 9 17), .ref (γ 9 18), .ref (γ 9 19), .ref (γ 9 20), .ref (γ 9 21), .ref (γ 9 22), .int p277287, .int p277288, .int p277289, .int p277290, .int p277291, .ref q277279, .ref (γ 9 29), .int p277292, .ref (γ 9 31), .int p277293, .int p277294, .int p277295, .ref q277280]) := (x277326).trans he277278
                          change G _ _ _ _ _ _ _ _ _ _ _
                          refine G_widen (cs' := 0) (sl' := 0) (by omega) (by omega) ?_
                          obtain ⟨z277341, hz277341⟩ : ∃ z : Int32, z = g276804 + Int32.ofInt (-1) := ⟨_, rfl⟩
                          have ez277341 : z277341.toInt = g276804.toInt + (-1) := gI_inc hz277341 (by decide) bg276804' (by decide) (by decide)
                          have bz277341 : gB z277341 (-1) 999998 := ⟨by omega, by omega⟩
                          refine G_iinc (L' := [(6, .int z277341), (5, .ref q276138), (4, .int g276098), (3, .int g276099), (0, .ref q225908), (1, .ref q225909), (2, .int p225910)]) z277341 0 dr_cX17_findLive_122 rfl hz277341.symm (Nat.le_of_ble_eq_true rfl) rfl ?_
                          refine G_goto 99 dr_cX17_findLive_125 (by decide +kernel) ?_
                          exact ih99_276812 F277328 z277341 (gB_w bz277341 (by decide) (by decide)) hT277329 hs277338 (rLv_tr x276808 x277325) (by rw [show ((((γ 2 (γ 14 q276138) : Nat) : Int) - 1 - z277341.toInt).toNat) = ((((γ 2 (γ 14 q276138) : Nat) : Int) - 1 - g276804.toInt).toNat) + 1 by omega]; exact tr_b x276809 fl277271 x277324) (by omega) x276811 kp277339 (fun k e1 ht => kt99_276813 k e1 (fun R c1 c2 => c2 F276805 g276804 q276148 q277245 p277227 F277328 z277341 k e1 bg276804 hT276806 hs276807 x276808 x276809 x276810 x276811 x276812 r277222 fq277223 hx277246 fq277250 ht277256 hT277329 hs277330 x277324 x277325 x277326 ht277327 ez277341 (ht R c1 c2))) (by omega)
                    exact hlp99_276812 (((z276279.toInt : Int) - (-2)).toNat + 1) F276251 z276279 bz276279 hT276252 hs276258 (rLv_tr x276227 x276248) (by rw [show ((((γ 2 (γ 14 q276138) : Nat) : Int) - 1 - z276279.toInt).toNat) = 0 by omega]; exact tr_0 (fun k hk => by have q := x276226 k hk; rw [ht276158.2.1, fl276169, fl276168] at q; rw [q, ht276158.2.1]; exact bhV_c ⟨by omega, by omega⟩ ⟨by omega, by omega⟩ (fun i hi => (lvM_e hi hk).symm)) fl276241 x276247) (by omega) fl276173 kp276259 (fun k e1 ht => ht) (Nat.lt_succ_self _)
              exact hlp58_276106 (((z274873.toInt : Int) - (-2)).toNat + 1) F274854 z274873 0 bz274873 (gB_w (gBl (show Int32.toInt 0 = 0 by decide)) (by decide) (by decide)) hT274855 hs274856 x274857 (by have qa : Int32.toInt 0 = 0 := (by decide); rw [qa]; exact Nat.le_refl _) (by have qa0 : Int32.toInt 0 = 0 := (by decide); omega) x274858 (fun k e1 e2 ht => ht) (Nat.lt_succ_self _)
        exact hlp44_274858 (((81920 - lvT γ F272345) + (1 : Int).toNat) + 1) F272345 1 (gB_w (gBl (show Int32.toInt 1 = 1 by decide)) (by decide) (by decide)) hT272346 hs272347 (rJv_0 (fun i hi j hj => x272348 i (by omega) j hj)) x272349 (fun k e1 ht => ht) (Nat.lt_succ_self _)
      · have r277342 : g272344.toInt < p272358.toInt := gC_nle hc272381
        have bg272344' : gB g272344 0 999999 := ⟨by omega, by omega⟩
        have bp272358' : gB p272358 1 1000000 := ⟨by omega, by omega⟩
        refine G_iconst 0 dr_cX17_findLive_10 (by decide +kernel) ?_
        refine G_istore (L' := [(4, .int 0), (3, .int g272344), (0, .ref q225908), (1, .ref q225909), (2, .int p225910)]) dr_cX17_findLive_11 (Nat.le_of_ble_eq_true rfl) rfl ?_
        have hlp13_277429 : ∀ (n13_277429 : Nat) (F277424 : Nat → va_E) (g277423 : Int32), gB g277423 0 32 → RS D I P225906 F277424 γ el → rStr γ [] F225907 F277424 → (∀ i : Nat, (i : Int) < g272344.toInt → ∀ j : Nat, j < 32 → cL (F277424 (γ 10 i)) j = 0) → (∀ j : Nat, (j : Int) < g277423.toInt → cL (F277424 (γ 10 (g272344.toInt : Int).toNat)) j = 0) → (F277424 q225908 = F225907 q225908) → (∀ (k : Nat) (e1 : Nat → va_E), tl_RModel_findLive_13 D I γ el P225906 F225907 g272344 q225908 F277424 g277423 k e1 → tl_RModel_findLive_13 D I γ el P225906 F225907 g272344 q225908 F272345 (0 : Int32) k e1) → ((33 : Int) - g277423.toInt).toNat < n13_277429 → G (gV D I) l (gRm 4 85 0 0) (gMA (gV D I) (pt_225912_SpillForgeModel_findLive D I γ el P225906 F225907 q225908 q225909 p225910) gNA 0 0) ky_225912_SpillForgeModel_findLive 13 [(4, .int g277423), (3, .int g272344), (0, .ref q225908), (1, .ref q225909), (2, .int p225910)] [] (va_pl P225906 F277424) 0 0 := by
          intro n13_277429
          induction n13_277429 with
          | zero => intro F277424 g277423 bg277423 hT277425 hs277426 x277427 x277428 x277429 kt13_277430 hm13_277429; exact absurd hm13_277429 (Nat.not_lt_zero _)
          | succ n13_277429 ih13_277429 =>
            intro F277424 g277423 bg277423 hT277425 hs277426 x277427 x277428 x277429 kt13_277430 hm13_277429
            have hs277431 : rStr γ [] F272345 F277424 := fun b h0 hb hw => (hs277426 b h0 hb hw).trans (hs272347 b h0 hb hw).symm
            have he277432 : F277424 q225909 = .inr (18, [.ref q272355, .ref q272356, .int p272357, .int p272358]) := (hs277431 q225909 (rT0 htq225909 (by decide)) (rT1 htq225909 (by decide)) (rT2 htq225909 (by decide))).trans he272354
            have hs277433 : rStr γ [] F225907 F277424 := rStr_tr hs272347 hs277431
            refine G_iload 0 dr_cX17_findLive_13 rfl ?_
            refine G_bipush 32 dr_cX17_findLive_15 (by decide +kernel) ?_
            refine G_icmp_ge 36 dr_cX17_findLive_17 (by decide +kernel) (fun hc277434 => ?_) (fun hc277434 => ?_)
            · have r277435 : 32 ≤ g277423.toInt := gj_leL hc277434 (show Int32.toInt 32 = 32 by decide)
              have bg277423' : gB g277423 32 32 := ⟨by omega, by omega⟩
              have hx277436 : tl_RModel_findLive_13 D I γ el P225906 F225907 g272344 q225908 F272345 (0 : Int32) 36 F277424 := kt13_277430 36 F277424 (fun R c1 c2 => c1 F277424 g277423 bg277423 hT277425 hs277426 x277427 x277428 x277429 r277435)
              obtain ⟨z277437, hz277437⟩ : ∃ z : Int32, z = g272344 + Int32.ofInt 1 := ⟨_, rfl⟩
              have ez277437 : z277437.toInt = g272344.toInt + 1 := gI_inc hz277437 (by decide) bg272344' (by decide) (by decide)
              have bz277437 : gB z277437 1 1000000 := ⟨by omega, by omega⟩
              refine G_iinc (L' := [(3, .int z277437), (4, .int g277423), (0, .ref q225908), (1, .ref q225909), (2, .int p225910)]) z277437 1 dr_cX17_findLive_36 rfl hz277437.symm (Nat.le_of_ble_eq_true rfl) rfl ?_
              refine G_goto 2 dr_cX17_findLive_39 (by decide +kernel) ?_
              refine G_lv (L' := [(3, .int z277437), (0, .ref q225908), (1, .ref q225909), (2, .int p225910)]) [0, 2, 3, 4] rfl ?_
              exact ih2_272349 F277424 z277437 (gB_w bz277437 (by decide) (by decide)) hT277425 hs277426 (zl_s x277427 x277428 (by omega) ez277437 bg272344'.1) x277429 (fun k e1 ht => kt2_272350 k e1 (fun R c1 c2 => c2 F272345 g272344 p272358 F277424 z277437 k e1 bg272344 hT272346 hs272347 x272348 x272349 fq272375 r277342 hx277436 ez277437 (ht R c1 c2))) (by omega)
            · have r277438 : g277423.toInt < 32 := gj_nleL hc277434 (show Int32.toInt 32 = 32 by decide)
              have bg277423' : gB g277423 0 31 := ⟨by omega, by omega⟩
              refine G_aload_n 2 dr_cX17_findLive_20 rfl ?_
              have hm277439 : q225908 ∈ P225906 := RS_m hT277425 htq225908 (by decide)
              obtain ⟨q277441, q277442, p277443, p277444, p277445, p277446, p277447, p277448, p277449, p277450, p277451, p277452, p277453, p277454, p277455, p277456, p277457, he277440, hB277484, ht277458, ht277459, ht277460, ht277461, ht277462, ht277463, ht277464, ht277465, ht277466, ht277467, ht277468, ht277469, ht277470, ht277471, ht277472, ht277473, ht277474, ht277475, ht277476, ht277477, ht277478, ht277479, ht277480, ht277481, hB277485⟩ := show rk_10 γ (F277424 q225908) from RS_o hT277425 htq225908
              have fq277486 : fR (F277424 q225908) 0 = (γ 9 0) := by rw [he277440]; rfl
              refine Gp_get 0 hm277439 he277440 dr_cX17_findLive_21 (gk_X17 D I) (Nat.le_of_ble_eq_true rfl) wr_7_74 rfl ?_
              refine G_iload_n 1 dr_cX17_findLive_24 rfl ?_
              have hm277487 : (γ 9 0) ∈ P225906 := RS_m hT277425 ht277460 (by decide)
              obtain ⟨f277489, he277488, hg277490⟩ := show rk_12 I γ (F277424 (γ 9 0)) from RS_o hT277425 ht277460
              obtain ⟨q277491, hx277493⟩ : ∃ x, x = γ 10 g272344.toInt.toNat := ⟨_, rfl⟩
              have ht277492 : rKd γ q277491 11 := by rw [hx277493]; exact (hg277490 _ (show g272344.toInt.toNat < 40 by omega)).2.1
              refine Gp_aald 5 hm277487 he277488 dr_cX17_findLive_25 rfl rfl (gB_inr (by omega) (by omega)) ?_
              rw [show f277489 g272344.toNatClampNeg = some q277491 from (hg277490 _ (show g272344.toInt.toNat < 40 by omega)).1.trans (by rw [hx277493])]
              change G _ _ _ _ _ _ _ (.ref q277491 :: _) _ _ _
              refine G_iload 0 dr_cX17_findLive_26 rfl ?_
              refine G_lconst 0 dr_cX17_findLive_28 rfl ?_
              have hm277494 : q277491 ∈ P225906 := RS_m hT277425 ht277492 (by decide)
              obtain ⟨f277496, he277495, wf277496⟩ := show rk_11 I (F277424 q277491) from RS_o hT277425 ht277492
              refine Gp_last 2 hm277494 he277495 dr_cX17_findLive_29 rfl (gB_in bg277423' (by decide) (by decide)) (fun F277497 e277498 n277499 => ?_)
              obtain ⟨f277500, hf277500⟩ : ∃ z, z = vp_updL f277496 g277423.toNatClampNeg 0 := ⟨_, rfl⟩
              rw [← hf277500] at e277498
              have he277501 : F277497 q225909 = .inr (18, [.ref q272355, .ref q272356, .int p272357, .int p272358]) := (n277499 q225909 (rn_oa he277432 he277495)).trans he277432
              have he277502 : F277497 q225908 = .inr (22, [.ref (γ 9 0), .ref (γ 9 1), .ref (γ 9 2), .ref (γ 9 3), .ref (γ 9 4), .ref (γ 9 5), .ref (γ 9 6), .ref (γ 9 7), .ref (γ 9 8), .int p277443, .int p277444, .int p277445, .int p277446, .int p277447, .int p277448, .ref (γ 9 15), .ref (γ 9 16), .ref (γ 9 17), .ref (γ 9 18), .ref (γ 9 19), .ref (γ 9 20), .ref (γ 9 21), .ref (γ 9 22), .int p277449, .int p277450, .int p277451, .int p277452, .int p277453, .ref q277441, .ref (γ 9 29), .int p277454, .ref (γ 9 31), .int p277455, .int p277456, .int p277457, .ref q277442]) := (n277499 q225908 (rn_oa he277440 he277495)).trans he277440
              have he277503 : F277497 (γ 9 0) = .inl (I (.array .long), 40, .inr (.inr (.inr (.inr f277489)))) := (n277499 (γ 9 0) (rn_ref_long he277488 he277495)).trans he277488
              have he277504 : F277497 q277491 = .inl (I .long, 32, .inr (.inl f277500)) := e277498
              have hs277505 : rStr γ [] F225907 F277497 := rStr_put hs277426 n277499 ht277492 (by decide)
              have kp277506 : F277497 q225908 = F225907 q225908 := (n277499 q225908 (rn_ty htq225908 ht277492 (by decide))).trans x277429
              have wf277500 : lb_W f277500 (32) (32) (2000) := lb_Wst hf277500 wf277496 (by omega) (lb_Mod0 (by omega) (by omega)) lb_Q0
              obtain ⟨z277507, hz277507⟩ : ∃ z : Int32, z = g277423 + Int32.ofInt 1 := ⟨_, rfl⟩
              have ez277507 : z277507.toInt = g277423.toInt + 1 := gI_inc hz277507 (by decide) bg277423' (by decide) (by decide)
              have bz277507 : gB z277507 1 32 := ⟨by omega, by omega⟩
              refine G_iinc (L' := [(4, .int z277507), (3, .int g272344), (0, .ref q225908), (1, .ref q225909), (2, .int p225910)]) z277507 0 dr_cX17_findLive_30 rfl hz277507.symm (Nat.le_of_ble_eq_true rfl) rfl ?_
              refine G_goto 13 dr_cX17_findLive_33 (by decide +kernel) ?_
              have hT277508 : RS D I P225906 F277497 γ el := RS_set hT277425 n277499 ht277492 (by decide) ⟨f277500, he277504, wf277500⟩
              exact ih13_277429 F277497 z277507 (gB_w bz277507 (by decide) (by decide)) hT277508 hs277505 (zl_r x277427 (fun i hi => n277499 _ (by rw [hx277493]; exact RS_lne hT277508 ht277460 (by omega) (by omega) (by omega)))) (by rw [← hx277493, cL_of he277504]; exact zr_st hf277500 (by have q := x277428; rw [← hx277493, cL_of he277495] at q; exact q) ez277507 bg277423'.1) kp277506 (fun k e1 ht => kt13_277430 k e1 (fun R c1 c2 => c2 F277424 g277423 q277491 f277496 f277500 F277497 z277507 k e1 bg277423 hT277425 hs277426 x277427 x277428 x277429 r277438 fq277486 hx277493 he277495 hf277500 n277499 he277504 ez277507 (ht R c1 c2))) (by omega)
        exact hlp13_277429 (((33 : Int) - 0).toNat + 1) F272345 0 (gB_w (gBl (show Int32.toInt 0 = 0 by decide)) (by decide) (by decide)) hT272346 hs272347 x272348 (fun j hj => absurd hj (by have qa : Int32.toInt 0 = 0 := (by decide); omega)) x272349 (fun k e1 ht => ht) (Nat.lt_succ_self _)
  exact hlp2_272349 (((1000001 : Int) - 0).toNat + 1) F225907 0 (gB_w (gBl (show Int32.toInt 0 = 0 by decide)) (by decide) (by decide)) hT (rStr_rf (γ := γ) (W := []) (F := F225907)) (fun i hi => absurd hi (by have qa : Int32.toInt 0 = 0 := (by decide); omega)) rfl (fun k e1 ht => ht) (Nat.lt_succ_self _)
/- tl_RModel_behind3_33: F, l3; out: F -/
def tl_RModel_behind3_33 (D : va_G) (I : FieldType → ClassId) (γ el : Nat → Nat → Nat) (P : List Nat) (F : Nat → va_E) (q0 : Nat) (q1 : Nat) (l2_1 : Int32) (s1 : Nat → va_E) (s2 : Int32) (k : Nat) (e1 : Nat → va_E) : Prop := ∀ R : (Nat → va_E) → (Int32) → Nat → (Nat → va_E) → Prop,
  (∀ (F_2 : Nat → va_E) (l3_2 : Int32), gB l3_2 0 32 → RS D I P F_2 γ el → rStr γ [] F F_2 → (F_2 q0 = F q0) → (F_2 (γ 9 3) = F (γ 9 3)) → 32 ≤ l3_2.toInt → R F_2 l3_2 66 F_2) →
  (∀ (F_2 : Nat → va_E) (l3_2 : Int32) (x1 : Nat → Int64) (x2 : Int64) (x3 : Int32) (x4 : Int32) (x5 : Int32) (x6 : Nat) (x7 : Nat → Int64) (x8 : Int64) (x9 : Int64) (x10 : Nat → Int64) (x11 : Nat → va_E) (x12 : Int32) (k : Nat) (e1 : Nat → va_E), gB l3_2 0 32 → RS D I P F_2 γ el → rStr γ [] F F_2 → (F_2 q0 = F q0) → (F_2 (γ 9 3) = F (γ 9 3)) → l3_2.toInt < 32 → fR (F_2 q0) 2 = (γ 9 2) → F_2 (γ 9 2) = .inl (I .long, 32, .inr (.inl x1)) → x2 = x1 l3_2.toNatClampNeg → fR (F_2 q0) 0 = (γ 9 0) → fI (F_2 q1) 2 = x3 → fI (F_2 q1) 3 = x4 → gB x5 0 39 → tr_RBlock_way2 l2_1 x3 x4 x5 → x6 = γ 10 x5.toInt.toNat → F_2 x6 = .inl (I .long, 32, .inr (.inl x7)) → x8 = x7 l3_2.toNatClampNeg → x9 = x2 ||| x8 → x10 = vp_updL x1 l3_2.toNatClampNeg x9 → (∀ b, b ≠ (γ 9 2) → x11 b = F_2 b) → x11 (γ 9 2) = .inl (I .long, 32, .inr (.inl x10)) → x12.toInt = l3_2.toInt + 1 → R x11 x12 k e1 → R F_2 l3_2 k e1) →
  R s1 s2 k e1
/- tl_RModel_behind3_23: F, l2; out: F -/
def tl_RModel_behind3_23 (D : va_G) (I : FieldType → ClassId) (γ el : Nat → Nat → Nat) (P : List Nat) (F : Nat → va_E) (q0 : Nat) (q1 : Nat) (s1 : Nat → va_E) (s2 : Int32) (k : Nat) (e1 : Nat → va_E) : Prop := ∀ R : (Nat → va_E) → (Int32) → Nat → (Nat → va_E) → Prop,
  (∀ (F_1 : Nat → va_E) (l2_1 : Int32) (x1 : Int32) (x2 : Int32) (x3 : Nat) (x4 : Int32) (x5 : Int32), gB l2_1 0 2 → RS D I P F_1 γ el → rStr γ [] F F_1 → (F_1 q0 = F q0) → (F_1 (γ 9 3) = F (γ 9 3)) → fI (F_1 q1) 2 = x1 → fI (F_1 q1) 3 = x2 → fR (F_1 q1) 1 = x3 → fI (F_1 x3) 0 = x4 → gB x5 0 2 → tr_RBlock_ways x1 x2 x4 x5 → x5.toInt ≤ l2_1.toInt → R F_1 l2_1 72 F_1) →
  (∀ (F_1 : Nat → va_E) (l2_1 : Int32) (x1 : Int32) (x2 : Int32) (x3 : Nat) (x4 : Int32) (x5 : Int32) (x6 : Nat → va_E) (x7 : Int32) (k : Nat) (e1 : Nat → va_E), gB l2_1 0 2 → RS D I P F_1 γ el → rStr γ [] F F_1 → (F_1 q0 = F q0) → (F_1 (γ 9 3) = F (γ 9 3)) → fI (F_1 q1) 2 = x1 → fI (F_1 q1) 3 = x2 → fR (F_1 q1) 1 = x3 → fI (F_1 x3) 0 = x4 → gB x5 0 2 → tr_RBlock_ways x1 x2 x4 x5 → l2_1.toInt < x5.toInt → tl_RModel_behind3_33 D I γ el P F q0 q1 l2_1 F_1 (0 : Int32) 66 x6 → x7.toInt = l2_1.toInt + 1 → R x6 x7 k e1 → R F_1 l2_1 k e1) →
  R s1 s2 k e1
/- tl_RModel_behind3_2: F, l2; out: F -/
def tl_RModel_behind3_2 (D : va_G) (I : FieldType → ClassId) (γ el : Nat → Nat → Nat) (P : List Nat) (F : Nat → va_E) (q0 : Nat) (s1 : Nat → va_E) (s2 : Int32) (k : Nat) (e1 : Nat → va_E) : Prop := ∀ R : (Nat → va_E) → (Int32) → Nat → (Nat → va_E) → Prop,
  (∀ (F_1 : Nat → va_E) (l2_1 : Int32), gB l2_1 0 32 → RS D I P F_1 γ el → rStr γ [] F F_1 → (F_1 q0 = F q0) → (F_1 (γ 9 3) = F (γ 9 3)) → 32 ≤ l2_1.toInt → R F_1 l2_1 21 F_1) →
  (∀ (F_1 : Nat → va_E) (l2_1 : Int32) (x1 : Nat → Int64) (x2 : Nat → Int64) (x3 : Nat → va_E) (x4 : Int32) (k : Nat) (e1 : Nat → va_E), gB l2_1 0 32 → RS D I P F_1 γ el → rStr γ [] F F_1 → (F_1 q0 = F q0) → (F_1 (γ 9 3) = F (γ 9 3)) → l2_1.toInt < 32 → fR (F_1 q0) 2 = (γ 9 2) → F_1 (γ 9 2) = .inl (I .long, 32, .inr (.inl x1)) → x2 = vp_updL x1 l2_1.toNatClampNeg 0 → (∀ b, b ≠ (γ 9 2) → x3 b = F_1 b) → x3 (γ 9 2) = .inl (I .long, 32, .inr (.inl x2)) → x4.toInt = l2_1.toInt + 1 → R x3 x4 k e1 → R F_1 l2_1 k e1) →
  R s1 s2 k e1
/- tr_RModel_behind3: F -/
def tr_RModel_behind3 (D : va_G) (I : FieldType → ClassId) (γ el : Nat → Nat → Nat) (P : List Nat) (F : Nat → va_E) (q0 : Nat) (q1 : Nat) (o1 : Nat → va_E) : Prop := ∀ R : (Nat → va_E) → Prop,
  (∀ (x1 : Nat → va_E) (x2 : Nat → va_E), tl_RModel_behind3_2 D I γ el P F q0 F (0 : Int32) 21 x1 → tl_RModel_behind3_23 D I γ el P F q0 q1 x1 (0 : Int32) 72 x2 → R x2) →
  R o1
