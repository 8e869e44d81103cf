theorem dr_cX17_findLive_0 : decode cX17_findLive 0 = .ok (.iconst 0, 1) := by decide +kernel
theorem dr_cX17_findLive_1 : decode cX17_findLive 1 = .ok (.istore_n 3, 1) := by decide +kernel
theorem dr_cX17_findLive_2 : decode cX17_findLive 2 = .ok (.iload_n 3, 1) := by decide +kernel
theorem dr_cX17_findLive_3 : decode cX17_findLive 3 = .ok (.aload_n 1, 1) := by decide +kernel
theorem dr_cX17_findLive_4 : decode cX17_findLive 4 = .ok (.invokevirtual 96, 3) := by decide +kernel
theorem dr_cX17_findLive_7 : decode cX17_findLive 7 = .ok (.if_icmp .ge 35, 3) := by decide +kernel
theorem dr_cX17_findLive_42 : decode cX17_findLive 42 = .ok (.iconst 1, 1) := by decide +kernel
theorem dr_cX17_findLive_43 : decode cX17_findLive 43 = .ok (.istore_n 3, 1) := by decide +kernel
theorem dr_cX17_findLive_44 : decode cX17_findLive 44 = .ok (.iload_n 3, 1) := by decide +kernel
theorem dr_cX17_findLive_45 : decode cX17_findLive 45 = .ok (.ifCond .eq 156, 3) := by decide +kernel
theorem dr_cX17_findLive_201 : decode cX17_findLive 201 = .ok (.return_, 1) := by decide +kernel
theorem dr_cX17_findLive_48 : decode cX17_findLive 48 = .ok (.iconst 0, 1) := by decide +kernel
theorem dr_cX17_findLive_49 : decode cX17_findLive 49 = .ok (.istore_n 3, 1) := by decide +kernel
theorem dr_cX17_findLive_50 : decode cX17_findLive 50 = .ok (.aload_n 1, 1) := by decide +kernel
theorem dr_cX17_findLive_51 : decode cX17_findLive 51 = .ok (.invokevirtual 96, 3) := by decide +kernel
theorem dr_cX17_findLive_54 : decode cX17_findLive 54 = .ok (.iconst 1, 1) := by decide +kernel
theorem dr_cX17_findLive_55 : decode cX17_findLive 55 = .ok (.isub, 1) := by decide +kernel
theorem dr_cX17_findLive_56 : decode cX17_findLive 56 = .ok (.istore 4, 2) := by decide +kernel
theorem dr_cX17_findLive_58 : decode cX17_findLive 58 = .ok (.iload 4, 2) := by decide +kernel
theorem dr_cX17_findLive_60 : decode cX17_findLive 60 = .ok (.ifCond .lt 138, 3) := by decide +kernel
theorem dr_cX17_findLive_198 : decode cX17_findLive 198 = .ok (.goto (-154), 3) := by decide +kernel
theorem dr_cX17_findLive_63 : decode cX17_findLive 63 = .ok (.aload_n 1, 1) := by decide +kernel
theorem dr_cX17_findLive_64 : decode cX17_findLive 64 = .ok (.iload 4, 2) := by decide +kernel
theorem dr_cX17_findLive_66 : decode cX17_findLive 66 = .ok (.invokevirtual 101, 3) := by decide +kernel
theorem dr_cX17_findLive_69 : decode cX17_findLive 69 = .ok (.astore 5, 2) := by decide +kernel
theorem dr_cX17_findLive_71 : decode cX17_findLive 71 = .ok (.aload_n 0, 1) := by decide +kernel
theorem dr_cX17_findLive_72 : decode cX17_findLive 72 = .ok (.aload 5, 2) := by decide +kernel
theorem dr_cX17_findLive_74 : decode cX17_findLive 74 = .ok (.invokevirtual 105, 3) := by decide +kernel
theorem wr_10_162 : (Jvm.Cond.methodLink "SpillForgeModel" (105 : Nat) ({ cls := "SpillForgeModel", name := "behind", desc := "(LSpillForgeModel$Block;)V" } : Jvm.MethodName)) ∈ gw := gw_10 162 rfl rfl
theorem wr_10_165 : (Jvm.Cond.code ({ cls := "SpillForgeModel", name := "behind", desc := "(LSpillForgeModel$Block;)V" } : Jvm.MethodName) prog_14_method_8_code (4 : Nat) (Option.none : Option Jvm.ClassFile.FieldType)) ∈ gw := gw_10 165 rfl rfl
theorem wr_10_164 : (Jvm.Cond.instanceMethod ({ cls := "SpillForgeModel", name := "behind", desc := "(LSpillForgeModel$Block;)V" } : Jvm.MethodName)) ∈ gw := gw_10 164 rfl rfl
theorem wr_p_95 : Cond.selects "SpillForgeModel" ⟨"SpillForgeModel", "behind", "(LSpillForgeModel$Block;)V"⟩ ⟨"SpillForgeModel", "behind", "(LSpillForgeModel$Block;)V"⟩ ∈ gw := gw_p _ 95 rfl rfl rfl
theorem dr_cX17_findLive_77 : decode cX17_findLive 77 = .ok (.aload_n 0, 1) := by decide +kernel
theorem dr_cX17_findLive_78 : decode cX17_findLive 78 = .ok (.aload 5, 2) := by decide +kernel
theorem dr_cX17_findLive_80 : decode cX17_findLive 80 = .ok (.getfield 109, 3) := by decide +kernel
theorem dr_cX17_findLive_83 : decode cX17_findLive 83 = .ok (.iload_n 2, 1) := by decide +kernel
theorem dr_cX17_findLive_84 : decode cX17_findLive 84 = .ok (.invokevirtual 113, 3) := by decide +kernel
theorem wr_10_174 : (Jvm.Cond.methodLink "SpillForgeModel" (113 : Nat) ({ cls := "SpillForgeModel", name := "back", desc := "(LSpillForgeModel$Row;Z)V" } : Jvm.MethodName)) ∈ gw := gw_10 174 rfl rfl
theorem wr_10_177 : (Jvm.Cond.code ({ cls := "SpillForgeModel", name := "back", desc := "(LSpillForgeModel$Row;Z)V" } : Jvm.MethodName) prog_14_method_7_code (4 : Nat) (Option.none : Option Jvm.ClassFile.FieldType)) ∈ gw := gw_10 177 rfl rfl
theorem wr_10_176 : (Jvm.Cond.instanceMethod ({ cls := "SpillForgeModel", name := "back", desc := "(LSpillForgeModel$Row;Z)V" } : Jvm.MethodName)) ∈ gw := gw_10 176 rfl rfl
theorem wr_p_96 : Cond.selects "SpillForgeModel" ⟨"SpillForgeModel", "back", "(LSpillForgeModel$Row;Z)V"⟩ ⟨"SpillForgeModel", "back", "(LSpillForgeModel$Row;Z)V"⟩ ∈ gw := gw_p _ 96 rfl rfl rfl
theorem dr_cX17_findLive_87 : decode cX17_findLive 87 = .ok (.aload 5, 2) := by decide +kernel
theorem dr_cX17_findLive_89 : decode cX17_findLive 89 = .ok (.getfield 117, 3) := by decide +kernel
theorem dr_cX17_findLive_92 : decode cX17_findLive 92 = .ok (.invokevirtual 121, 3) := by decide +kernel
theorem dr_cX17_findLive_95 : decode cX17_findLive 95 = .ok (.iconst 1, 1) := by decide +kernel
theorem dr_cX17_findLive_96 : decode cX17_findLive 96 = .ok (.isub, 1) := by decide +kernel
theorem dr_cX17_findLive_97 : decode cX17_findLive 97 = .ok (.istore 6, 2) := by decide +kernel
theorem dr_cX17_findLive_99 : decode cX17_findLive 99 = .ok (.iload 6, 2) := by decide +kernel
theorem dr_cX17_findLive_101 : decode cX17_findLive 101 = .ok (.ifCond .lt 27, 3) := by decide +kernel
theorem dr_cX17_findLive_128 : decode cX17_findLive 128 = .ok (.iconst 0, 1) := by decide +kernel
theorem dr_cX17_findLive_129 : decode cX17_findLive 129 = .ok (.istore 6, 2) := by decide +kernel
theorem dr_cX17_findLive_131 : decode cX17_findLive 131 = .ok (.iload 6, 2) := by decide +kernel
theorem dr_cX17_findLive_133 : decode cX17_findLive 133 = .ok (.bipush 32, 2) := by decide +kernel
theorem dr_cX17_findLive_135 : decode cX17_findLive 135 = .ok (.if_icmp .ge 57, 3) := by decide +kernel
theorem dr_cX17_findLive_192 : decode cX17_findLive 192 = .ok (.iinc 4 (-1), 3) := by decide +kernel
theorem dr_cX17_findLive_195 : decode cX17_findLive 195 = .ok (.goto (-137), 3) := by decide +kernel
theorem dr_cX17_findLive_138 : decode cX17_findLive 138 = .ok (.iload_n 3, 1) := by decide +kernel
theorem dr_cX17_findLive_139 : decode cX17_findLive 139 = .ok (.ifCond .ne 24, 3) := by decide +kernel
theorem dr_cX17_findLive_163 : decode cX17_findLive 163 = .ok (.iconst 1, 1) := by decide +kernel
theorem dr_cX17_findLive_164 : decode cX17_findLive 164 = .ok (.goto 4, 3) := by decide +kernel
theorem dr_cX17_findLive_168 : decode cX17_findLive 168 = .ok (.istore_n 3, 1) := by decide +kernel
theorem dr_cX17_findLive_169 : decode cX17_findLive 169 = .ok (.aload_n 0, 1) := by decide +kernel
theorem dr_cX17_findLive_170 : decode cX17_findLive 170 = .ok (.getfield 88, 3) := by decide +kernel
theorem dr_cX17_findLive_173 : decode cX17_findLive 173 = .ok (.iload 4, 2) := by decide +kernel
theorem dr_cX17_findLive_175 : decode cX17_findLive 175 = .ok (.aaload, 1) := by decide +kernel
theorem dr_cX17_findLive_176 : decode cX17_findLive 176 = .ok (.iload 6, 2) := by decide +kernel
theorem dr_cX17_findLive_178 : decode cX17_findLive 178 = .ok (.aload_n 0, 1) := by decide +kernel
theorem dr_cX17_findLive_179 : decode cX17_findLive 179 = .ok (.getfield 59, 3) := by decide +kernel
theorem dr_cX17_findLive_182 : decode cX17_findLive 182 = .ok (.iload 6, 2) := by decide +kernel
theorem dr_cX17_findLive_184 : decode cX17_findLive 184 = .ok (.laload, 1) := by decide +kernel
theorem dr_cX17_findLive_185 : decode cX17_findLive 185 = .ok (.lastore, 1) := by decide +kernel
theorem dr_cX17_findLive_186 : decode cX17_findLive 186 = .ok (.iinc 6 1, 3) := by decide +kernel
theorem dr_cX17_findLive_189 : decode cX17_findLive 189 = .ok (.goto (-58), 3) := by decide +kernel
theorem dr_cX17_findLive_142 : decode cX17_findLive 142 = .ok (.aload_n 0, 1) := by decide +kernel
theorem dr_cX17_findLive_143 : decode cX17_findLive 143 = .ok (.getfield 88, 3) := by decide +kernel
theorem dr_cX17_findLive_146 : decode cX17_findLive 146 = .ok (.iload 4, 2) := by decide +kernel
theorem dr_cX17_findLive_148 : decode cX17_findLive 148 = .ok (.aaload, 1) := by decide +kernel
theorem dr_cX17_findLive_149 : decode cX17_findLive 149 = .ok (.iload 6, 2) := by decide +kernel
theorem dr_cX17_findLive_151 : decode cX17_findLive 151 = .ok (.laload, 1) := by decide +kernel
theorem dr_cX17_findLive_152 : decode cX17_findLive 152 = .ok (.aload_n 0, 1) := by decide +kernel
theorem dr_cX17_findLive_153 : decode cX17_findLive 153 = .ok (.getfield 59, 3) := by decide +kernel
theorem dr_cX17_findLive_156 : decode cX17_findLive 156 = .ok (.iload 6, 2) := by decide +kernel
theorem dr_cX17_findLive_158 : decode cX17_findLive 158 = .ok (.laload, 1) := by decide +kernel
theorem dr_cX17_findLive_159 : decode cX17_findLive 159 = .ok (.lcmp, 1) := by decide +kernel
theorem dr_cX17_findLive_160 : decode cX17_findLive 160 = .ok (.ifCond .eq 7, 3) := by decide +kernel
theorem dr_cX17_findLive_167 : decode cX17_findLive 167 = .ok (.iconst 0, 1) := by decide +kernel
theorem dr_cX17_findLive_104 : decode cX17_findLive 104 = .ok (.aload_n 0, 1) := by decide +kernel
theorem dr_cX17_findLive_105 : decode cX17_findLive 105 = .ok (.aload 5, 2) := by decide +kernel
theorem dr_cX17_findLive_107 : decode cX17_findLive 107 = .ok (.getfield 117, 3) := by decide +kernel
theorem dr_cX17_findLive_110 : decode cX17_findLive 110 = .ok (.iload 6, 2) := by decide +kernel
theorem dr_cX17_findLive_112 : decode cX17_findLive 112 = .ok (.invokevirtual 124, 3) := by decide +kernel
theorem dr_cX17_findLive_115 : decode cX17_findLive 115 = .ok (.checkcast 40, 3) := by decide +kernel
theorem dr_cX17_findLive_118 : decode cX17_findLive 118 = .ok (.iload_n 2, 1) := by decide +kernel
theorem dr_cX17_findLive_119 : decode cX17_findLive 119 = .ok (.invokevirtual 113, 3) := by decide +kernel
theorem dr_cX17_findLive_122 : decode cX17_findLive 122 = .ok (.iinc 6 (-1), 3) := by decide +kernel
theorem dr_cX17_findLive_125 : decode cX17_findLive 125 = .ok (.goto (-26), 3) := by decide +kernel
theorem dr_cX17_findLive_10 : decode cX17_findLive 10 = .ok (.iconst 0, 1) := by decide +kernel
theorem dr_cX17_findLive_11 : decode cX17_findLive 11 = .ok (.istore 4, 2) := by decide +kernel
theorem dr_cX17_findLive_13 : decode cX17_findLive 13 = .ok (.iload 4, 2) := by decide +kernel
theorem dr_cX17_findLive_15 : decode cX17_findLive 15 = .ok (.bipush 32, 2) := by decide +kernel
theorem dr_cX17_findLive_17 : decode cX17_findLive 17 = .ok (.if_icmp .ge 19, 3) := by decide +kernel
theorem dr_cX17_findLive_36 : decode cX17_findLive 36 = .ok (.iinc 3 1, 3) := by decide +kernel
theorem dr_cX17_findLive_39 : decode cX17_findLive 39 = .ok (.goto (-37), 3) := by decide +kernel
theorem dr_cX17_findLive_20 : decode cX17_findLive 20 = .ok (.aload_n 0, 1) := by decide +kernel
theorem dr_cX17_findLive_21 : decode cX17_findLive 21 = .ok (.getfield 88, 3) := by decide +kernel
theorem dr_cX17_findLive_24 : decode cX17_findLive 24 = .ok (.iload_n 3, 1) := by decide +kernel
theorem dr_cX17_findLive_25 : decode cX17_findLive 25 = .ok (.aaload, 1) := by decide +kernel
theorem dr_cX17_findLive_26 : decode cX17_findLive 26 = .ok (.iload 4, 2) := by decide +kernel
theorem dr_cX17_findLive_28 : decode cX17_findLive 28 = .ok (.lconst 0, 1) := by decide +kernel
theorem dr_cX17_findLive_29 : decode cX17_findLive 29 = .ok (.lastore, 1) := by decide +kernel
theorem dr_cX17_findLive_30 : decode cX17_findLive 30 = .ok (.iinc 4 1, 3) := by decide +kernel
theorem dr_cX17_findLive_33 : decode cX17_findLive 33 = .ok (.goto (-20), 3) := by decide +kernel
abbrev ky_222596_Block_ways : gKey := (cX12_ways, 1, "SpillForgeModel$Block", (some FieldType.int), [], "ways", fun _ _ => True)
def pp_222596_Block_ways (D : va_G) (I : FieldType → ClassId) (P222582 : List Nat) (F222583 : Nat → va_E) (q222584 : Nat) (q222585 : Nat) (qo222586 : Nat) (p222587 : Int32) (p222588 : Int32) (p222589 : Int32) (p222590 : Int32) (p222591 : Int32) (p222592 : Int32) (p222593 : Int32) (p222594 : Int32) (p222595 : Int32) : Option Value → va_W → Nat → Nat → Prop := fun r w dc ds => ∃ (o222606 : Int32), r = some (.int o222606) ∧ w = va_pl P222582 F222583 ∧ dc ≤ 0 ∧ ds ≤ 0 ∧ gB o222606 0 2 ∧ ((o222606.toInt = 0 ∧ p222589.toInt = 32) ∨ (o222606.toInt = 1 ∧ p222589.toInt ≠ 32 ∧ (p222589.toInt = 30 ∨ p222587.toInt = p222588.toInt)) ∨ (o222606.toInt = 2 ∧ p222589.toInt ≠ 32 ∧ p222589.toInt ≠ 30 ∧ p222587.toInt ≠ p222588.toInt)) ∧ tr_RBlock_ways2 p222587 p222588 p222589 o222606
set_option maxRecDepth 100000 in
set_option maxHeartbeats 4000000 in
theorem cp_222596_Block_ways (l : Launch) (hl0 : l.stackTraces = false) (D : va_G) (I : FieldType → ClassId) (P222582 : List Nat) (F222583 : Nat → va_E) (q222584 : Nat) (q222585 : Nat) (qo222586 : Nat) (p222587 : Int32) (p222588 : Int32) (p222589 : Int32) (p222590 : Int32) (p222591 : Int32) (p222592 : Int32) (p222593 : Int32) (p222594 : Int32) (p222595 : Int32) (hmq222584 : q222584 ∈ P222582) (hmq222585 : q222585 ∈ P222582) (heq222584 : F222583 q222584 = .inr (17, [.ref qo222586, .ref q222585, .int p222587, .int p222588])) (heq222585 : F222583 q222585 = .inr (20, [.int p222589, .int p222590, .int p222591, .int p222592, .int p222593, .int p222594, .int p222595])) (bp222587 : gB p222587 0 39) (bp222588 : gB p222588 0 39) (bp222589 : gB p222589 0 32) (bp222590 : gB p222590 0 1999) (bp222593 : gB p222593 0 1999) (bp222594 : gB p222594 0 1) (bp222595 : gB p222595 0 1) : CtA (gV D I) l yX12_ways cX12_ways 1 (some FieldType.int) 0 0 0 0 [.ref q222584] (va_pl P222582 F222583) (pp_222596_Block_ways D I P222582 F222583 q222584 q222585 qo222586 p222587 p222588 p222589 p222590 p222591 p222592 p222593 p222594 p222595) gNA := by
  refine CtA_of hl0 (by decide) (Nat.le_of_ble_eq_true rfl) ?_
  have bp222591 := gB_any p222591
  have bp222592 := gB_any p222592
  refine G_aload_n 0 dr_cX12_ways_0 rfl ?_
  refine Gp_get 1 hmq222584 heq222584 dr_cX12_ways_1 (gk_X12 D I) (Nat.le_of_ble_eq_true rfl) wr_9_222 rfl ?_
  refine Gp_get 0 hmq222585 heq222585 dr_cX12_ways_4 (gk_X15 D I) (Nat.le_of_ble_eq_true rfl) wr_9_176 rfl ?_
  refine G_bipush 32 dr_cX12_ways_7 (by decide +kernel) ?_
  refine G_icmp_ne 16 dr_cX12_ways_9 (by decide +kernel) (fun hc222597 => ?_) (fun hc222597 => ?_)
  · have r222598 : p222589.toInt ≠ 32 := gj_neq hc222597 (show Int32.toInt 32 = 32 by decide)
    have bp222589' : gB p222589 0 31 := ⟨by omega, by omega⟩
    refine G_aload_n 0 dr_cX12_ways_16 rfl ?_
    refine Gp_get 1 hmq222584 heq222584 dr_cX12_ways_17 (gk_X12 D I) (Nat.le_of_ble_eq_true rfl) wr_9_222 rfl ?_
    refine Gp_get 0 hmq222585 heq222585 dr_cX12_ways_20 (gk_X15 D I) (Nat.le_of_ble_eq_true rfl) wr_9_176 rfl ?_
    refine G_bipush 30 dr_cX12_ways_23 (by decide +kernel) ?_
    refine G_icmp_eq 39 dr_cX12_ways_25 (by decide +kernel) (fun hc222599 => ?_) (fun hc222599 => ?_)
    · have r222600 : p222589.toInt = 30 := gj_eq hc222599 (show Int32.toInt 30 = 30 by decide)
      have bp222589'' : gB p222589 30 30 := ⟨by omega, by omega⟩
      refine G_iconst 1 dr_cX12_ways_39 (by decide +kernel) ?_
      refine G_goto 44 dr_cX12_ways_40 (by decide +kernel) ?_
      exact G_iretA dr_cX12_ways_44 rfl (Nat.le_of_ble_eq_true rfl) (Nat.le_of_ble_eq_true rfl) ⟨1, rfl, rfl, (Nat.le_of_ble_eq_true rfl), (Nat.le_of_ble_eq_true rfl), (gB_w (gBl (show Int32.toInt 1 = 1 by decide)) (by decide) (by decide)), (by have qa0 : Int32.toInt 1 = 1 := (by decide); omega), (fun R c1 c2 c3 c4 => c1 r222598 r222600)⟩
    · have r222601 : p222589.toInt ≠ 30 := gj_neq hc222599 (show Int32.toInt 30 = 30 by decide)
      refine G_aload_n 0 dr_cX12_ways_28 rfl ?_
      refine Gp_get 2 hmq222584 heq222584 dr_cX12_ways_29 (gk_X12 D I) (Nat.le_of_ble_eq_true rfl) wr_9_226 rfl ?_
      refine G_aload_n 0 dr_cX12_ways_32 rfl ?_
      refine Gp_get 3 hmq222584 heq222584 dr_cX12_ways_33 (gk_X12 D I) (Nat.le_of_ble_eq_true rfl) wr_9_230 rfl ?_
      refine G_icmp_ne 43 dr_cX12_ways_36 (by decide +kernel) (fun hc222602 => ?_) (fun hc222602 => ?_)
      · have r222603 : p222587.toInt ≠ p222588.toInt := gC_ne hc222602
        refine G_iconst 2 dr_cX12_ways_43 (by decide +kernel) ?_
        exact G_iretA dr_cX12_ways_44 rfl (Nat.le_of_ble_eq_true rfl) (Nat.le_of_ble_eq_true rfl) ⟨2, rfl, rfl, (Nat.le_of_ble_eq_true rfl), (Nat.le_of_ble_eq_true rfl), (gB_w (gBl (show Int32.toInt 2 = 2 by decide)) (by decide) (by decide)), (by have qa0 : Int32.toInt 2 = 2 := (by decide); omega), (fun R c1 c2 c3 c4 => c2 r222598 r222601 r222603)⟩
      · have r222604 : p222587.toInt = p222588.toInt := gC_eq hc222602
        refine G_iconst 1 dr_cX12_ways_39 (by decide +kernel) ?_
        refine G_goto 44 dr_cX12_ways_40 (by decide +kernel) ?_
        exact G_iretA dr_cX12_ways_44 rfl (Nat.le_of_ble_eq_true rfl) (Nat.le_of_ble_eq_true rfl) ⟨1, rfl, rfl, (Nat.le_of_ble_eq_true rfl), (Nat.le_of_ble_eq_true rfl), (gB_w (gBl (show Int32.toInt 1 = 1 by decide)) (by decide) (by decide)), (by have qa0 : Int32.toInt 1 = 1 := (by decide); omega), (fun R c1 c2 c3 c4 => c3 r222598 r222601 r222604)⟩
  · have r222605 : p222589.toInt = 32 := gj_eq hc222597 (show Int32.toInt 32 = 32 by decide)
    have bp222589' : gB p222589 32 32 := ⟨by omega, by omega⟩
    refine G_iconst 0 dr_cX12_ways_12 (by decide +kernel) ?_
    refine G_goto 44 dr_cX12_ways_13 (by decide +kernel) ?_
    exact G_iretA dr_cX12_ways_44 rfl (Nat.le_of_ble_eq_true rfl) (Nat.le_of_ble_eq_true rfl) ⟨0, rfl, rfl, (Nat.le_of_ble_eq_true rfl), (Nat.le_of_ble_eq_true rfl), (gB_w (gBl (show Int32.toInt 0 = 0 by decide)) (by decide) (by decide)), (by have qa0 : Int32.toInt 0 = 0 := (by decide); omega), (fun R c1 c2 c3 c4 => c4 r222605)⟩
/- tr_RBlock_way3: result -/
def tr_RBlock_way3 (a1 : Int32) (a0_first : Int32) (a0_second : Int32) (o1 : Int32) : Prop := ∀ R : (Int32) → Prop,
  (a1.toInt ≠ 0 → R a0_second) →
  (a1.toInt = 0 → R a0_first) →
  R o1
abbrev ky_222731_Block_way : gKey := (cX12_way, 2, "SpillForgeModel$Block", (some FieldType.int), [], "way", fun _ _ => True)
def pp_222731_Block_way (D : va_G) (I : FieldType → ClassId) (P222716 : List Nat) (F222717 : Nat → va_E) (q222718 : Nat) (q222719 : Nat) (p222720 : Int32) (qo222721 : Nat) (p222722 : Int32) (p222723 : Int32) (p222724 : Int32) (p222725 : Int32) (p222726 : Int32) (p222727 : Int32) (p222728 : Int32) (p222729 : Int32) (p222730 : Int32) : Option Value → va_W → Nat → Nat → Prop := fun r w dc ds => ∃ (o222735 : Int32), r = some (.int o222735) ∧ w = va_pl P222716 F222717 ∧ dc ≤ 0 ∧ ds ≤ 0 ∧ gB o222735 0 39 ∧ ((p222720.toInt = 0 ∧ o222735.toInt = p222722.toInt) ∨ (p222720.toInt ≠ 0 ∧ o222735.toInt = p222723.toInt)) ∧ tr_RBlock_way3 p222720 p222722 p222723 o222735
set_option maxRecDepth 100000 in
set_option maxHeartbeats 4000000 in
theorem cp_222731_Block_way (l : Launch) (hl0 : l.stackTraces = false) (D : va_G) (I : FieldType → ClassId) (P222716 : List Nat) (F222717 : Nat → va_E) (q222718 : Nat) (q222719 : Nat) (p222720 : Int32) (qo222721 : Nat) (p222722 : Int32) (p222723 : Int32) (p222724 : Int32) (p222725 : Int32) (p222726 : Int32) (p222727 : Int32) (p222728 : Int32) (p222729 : Int32) (p222730 : Int32) (hmq222718 : q222718 ∈ P222716) (hmq222719 : q222719 ∈ P222716) (heq222718 : F222717 q222718 = .inr (17, [.ref qo222721, .ref q222719, .int p222722, .int p222723])) (heq222719 : F222717 q222719 = .inr (20, [.int p222724, .int p222725, .int p222726, .int p222727, .int p222728, .int p222729, .int p222730])) (bp222722 : gB p222722 0 39) (bp222723 : gB p222723 0 39) (bp222724 : gB p222724 0 32) (bp222725 : gB p222725 0 1999) (bp222728 : gB p222728 0 1999) (bp222729 : gB p222729 0 1) (bp222730 : gB p222730 0 1) : CtA (gV D I) l yX12_way cX12_way 2 (some FieldType.int) 0 0 0 0 [.ref q222718, .int p222720] (va_pl P222716 F222717) (pp_222731_Block_way D I P222716 F222717 q222718 q222719 p222720 qo222721 p222722 p222723 p222724 p222725 p222726 p222727 p222728 p222729 p222730) gNA := by
  refine CtA_of hl0 (by decide) (Nat.le_of_ble_eq_true rfl) ?_
  have bp222720 := gB_any p222720
  have bp222726 := gB_any p222726
  have bp222727 := gB_any p222727
  refine G_iload_n 1 dr_cX12_way_0 rfl ?_
  refine G_if_ne 11 dr_cX12_way_1 (by decide +kernel) (fun hc222732 => ?_) (fun hc222732 => ?_)
  · have r222733 : p222720.toInt ≠ 0 := gj_neq hc222732 (show Int32.toInt 0 = 0 by decide)
    refine G_aload_n 0 dr_cX12_way_11 rfl ?_
    refine Gp_get 3 hmq222718 heq222718 dr_cX12_way_12 (gk_X12 D I) (Nat.le_of_ble_eq_true rfl) wr_9_230 rfl ?_
    exact G_iretA dr_cX12_way_15 rfl (Nat.le_of_ble_eq_true rfl) (Nat.le_of_ble_eq_true rfl) ⟨p222723, rfl, rfl, (Nat.le_of_ble_eq_true rfl), (Nat.le_of_ble_eq_true rfl), bp222723, (by omega), (fun R c1 c2 => c1 r222733)⟩
  · have r222734 : p222720.toInt = 0 := gj_eq hc222732 (show Int32.toInt 0 = 0 by decide)
    have bp222720' : gB p222720 0 0 := ⟨by omega, by omega⟩
    refine G_aload_n 0 dr_cX12_way_4 rfl ?_
    refine Gp_get 2 hmq222718 heq222718 dr_cX12_way_5 (gk_X12 D I) (Nat.le_of_ble_eq_true rfl) wr_9_226 rfl ?_
    refine G_goto 15 dr_cX12_way_8 (by decide +kernel) ?_
    exact G_iretA dr_cX12_way_15 rfl (Nat.le_of_ble_eq_true rfl) (Nat.le_of_ble_eq_true rfl) ⟨p222722, rfl, rfl, (Nat.le_of_ble_eq_true rfl), (Nat.le_of_ble_eq_true rfl), bp222722, (by omega), (fun R c1 c2 => c2 r222734)⟩
/- tl_RModel_behind2_33: F, l3; out: F -/
def tl_RModel_behind2_33 (D : va_G) (I : FieldType → ClassId) (γ el : Nat → Nat → Nat) (P : List Nat) (F : Nat → va_E) (l2_1 : Int32) (q1 : Nat) (q0 : Nat) (s1 : Nat → va_E) (s2 : Int32) (k : Nat) (e1 : Nat → va_E) : Prop := ∀ R : (Nat → va_E) → (Int32) → Nat → (Nat → va_E) → Prop,
  (∀ (F_2 : Nat → va_E) (l3_2 : Int32), gB l3_2 0 32 → RS D I P F_2 γ el → rStr γ [] F F_2 → ((∀ k : Nat, k < 2048 → rbt (cL (F_2 (γ 9 2))) k = if (k : Int) < 64 * l3_2.toInt then wyV (l2_1.toInt + 1) (fI (F q1) 2).toInt (fI (F q1) 3).toInt (lvS γ F) k else wyV l2_1.toInt (fI (F q1) 2).toInt (fI (F q1) 3).toInt (lvS γ F) k)) → rLv γ F F_2 → (((l2_1.toInt = 0 ∧ (fI (F (γ 15 q1)) 0).toInt ≠ 32) ∨ (l2_1.toInt = 1 ∧ (fI (F (γ 15 q1)) 0).toInt ≠ 32 ∧ (fI (F (γ 15 q1)) 0).toInt ≠ 30 ∧ (fI (F q1) 2).toInt ≠ (fI (F q1) 3).toInt))) → (F_2 q0 = F q0) → 32 ≤ l3_2.toInt → R F_2 l3_2 66 F_2) →
  (∀ (F_2 : Nat → va_E) (l3_2 : Int32) (x1 : Nat → Int64) (x2 : Int64) (x3 : Int32) (x4 : Int32) (x5 : Int32) (x6 : Nat) (x7 : Nat → Int64) (x8 : Int64) (x9 : Int64) (x10 : Nat → Int64) (x11 : Nat → va_E) (x12 : Int32) (k : Nat) (e1 : Nat → va_E), gB l3_2 0 32 → RS D I P F_2 γ el → rStr γ [] F F_2 → ((∀ k : Nat, k < 2048 → rbt (cL (F_2 (γ 9 2))) k = if (k : Int) < 64 * l3_2.toInt then wyV (l2_1.toInt + 1) (fI (F q1) 2).toInt (fI (F q1) 3).toInt (lvS γ F) k else wyV l2_1.toInt (fI (F q1) 2).toInt (fI (F q1) 3).toInt (lvS γ F) k)) → rLv γ F F_2 → (((l2_1.toInt = 0 ∧ (fI (F (γ 15 q1)) 0).toInt ≠ 32) ∨ (l2_1.toInt = 1 ∧ (fI (F (γ 15 q1)) 0).toInt ≠ 32 ∧ (fI (F (γ 15 q1)) 0).toInt ≠ 30 ∧ (fI (F q1) 2).toInt ≠ (fI (F q1) 3).toInt))) → (F_2 q0 = F q0) → l3_2.toInt < 32 → fR (F_2 q0) 2 = (γ 9 2) → F_2 (γ 9 2) = .inl (I .long, 32, .inr (.inl x1)) → x2 = x1 l3_2.toNatClampNeg → fR (F_2 q0) 0 = (γ 9 0) → fI (F_2 q1) 2 = x3 → fI (F_2 q1) 3 = x4 → gB x5 0 39 → tr_RBlock_way3 l2_1 x3 x4 x5 → x6 = γ 10 x5.toInt.toNat → F_2 x6 = .inl (I .long, 32, .inr (.inl x7)) → x8 = x7 l3_2.toNatClampNeg → x9 = x2 ||| x8 → x10 = vp_updL x1 l3_2.toNatClampNeg x9 → (∀ b, b ≠ (γ 9 2) → x11 b = F_2 b) → x11 (γ 9 2) = .inl (I .long, 32, .inr (.inl x10)) → x12.toInt = l3_2.toInt + 1 → R x11 x12 k e1 → R F_2 l3_2 k e1) →
  R s1 s2 k e1
/- tl_RModel_behind2_23: F, l2; out: F -/
def tl_RModel_behind2_23 (D : va_G) (I : FieldType → ClassId) (γ el : Nat → Nat → Nat) (P : List Nat) (F : Nat → va_E) (q1 : Nat) (q0 : Nat) (s1 : Nat → va_E) (s2 : Int32) (k : Nat) (e1 : Nat → va_E) : Prop := ∀ R : (Nat → va_E) → (Int32) → Nat → (Nat → va_E) → Prop,
  (∀ (F_1 : Nat → va_E) (l2_1 : Int32) (x1 : Int32) (x2 : Int32) (x3 : Nat) (x4 : Int32) (x5 : Int32), gB l2_1 0 2 → RS D I P F_1 γ el → rStr γ [] F F_1 → ((∀ k : Nat, k < 2048 → rbt (cL (F_1 (γ 9 2))) k = wyV l2_1.toInt (fI (F q1) 2).toInt (fI (F q1) 3).toInt (lvS γ F) k)) → rLv γ F F_1 → ((l2_1.toInt = 0 ∨ ((fI (F (γ 15 q1)) 0).toInt ≠ 32 ∧ (l2_1.toInt = 1 ∨ (l2_1.toInt = 2 ∧ (fI (F (γ 15 q1)) 0).toInt ≠ 30 ∧ (fI (F q1) 2).toInt ≠ (fI (F q1) 3).toInt))))) → (F_1 q0 = F q0) → fI (F_1 q1) 2 = x1 → fI (F_1 q1) 3 = x2 → fR (F_1 q1) 1 = x3 → fI (F_1 x3) 0 = x4 → gB x5 0 2 → tr_RBlock_ways2 x1 x2 x4 x5 → x5.toInt ≤ l2_1.toInt → R F_1 l2_1 72 F_1) →
  (∀ (F_1 : Nat → va_E) (l2_1 : Int32) (x1 : Int32) (x2 : Int32) (x3 : Nat) (x4 : Int32) (x5 : Int32) (x6 : Nat → va_E) (x7 : Int32) (k : Nat) (e1 : Nat → va_E), gB l2_1 0 2 → RS D I P F_1 γ el → rStr γ [] F F_1 → ((∀ k : Nat, k < 2048 → rbt (cL (F_1 (γ 9 2))) k = wyV l2_1.toInt (fI (F q1) 2).toInt (fI (F q1) 3).toInt (lvS γ F) k)) → rLv γ F F_1 → ((l2_1.toInt = 0 ∨ ((fI (F (γ 15 q1)) 0).toInt ≠ 32 ∧ (l2_1.toInt = 1 ∨ (l2_1.toInt = 2 ∧ (fI (F (γ 15 q1)) 0).toInt ≠ 30 ∧ (fI (F q1) 2).toInt ≠ (fI (F q1) 3).toInt))))) → (F_1 q0 = F q0) → fI (F_1 q1) 2 = x1 → fI (F_1 q1) 3 = x2 → fR (F_1 q1) 1 = x3 → fI (F_1 x3) 0 = x4 → gB x5 0 2 → tr_RBlock_ways2 x1 x2 x4 x5 → l2_1.toInt < x5.toInt → tl_RModel_behind2_33 D I γ el P F l2_1 q1 q0 F_1 (0 : Int32) 66 x6 → x7.toInt = l2_1.toInt + 1 → R x6 x7 k e1 → R F_1 l2_1 k e1) →
  R s1 s2 k e1
/- tl_RModel_behind2_2: F, l2; out: F -/
def tl_RModel_behind2_2 (D : va_G) (I : FieldType → ClassId) (γ el : Nat → Nat → Nat) (P : List Nat) (F : Nat → va_E) (q0 : Nat) (s1 : Nat → va_E) (s2 : Int32) (k : Nat) (e1 : Nat → va_E) : Prop := ∀ R : (Nat → va_E) → (Int32) → Nat → (Nat → va_E) → Prop,
  (∀ (F_1 : Nat → va_E) (l2_1 : Int32), gB l2_1 0 32 → RS D I P F_1 γ el → rStr γ [] F F_1 → ((∀ j : Nat, (j : Int) < l2_1.toInt → cL (F_1 (γ 9 2)) j = 0)) → rLv γ F F_1 → (F_1 q0 = F q0) → 32 ≤ l2_1.toInt → R F_1 l2_1 21 F_1) →
  (∀ (F_1 : Nat → va_E) (l2_1 : Int32) (x1 : Nat → Int64) (x2 : Nat → Int64) (x3 : Nat → va_E) (x4 : Int32) (k : Nat) (e1 : Nat → va_E), gB l2_1 0 32 → RS D I P F_1 γ el → rStr γ [] F F_1 → ((∀ j : Nat, (j : Int) < l2_1.toInt → cL (F_1 (γ 9 2)) j = 0)) → rLv γ F F_1 → (F_1 q0 = F q0) → l2_1.toInt < 32 → fR (F_1 q0) 2 = (γ 9 2) → F_1 (γ 9 2) = .inl (I .long, 32, .inr (.inl x1)) → x2 = vp_updL x1 l2_1.toNatClampNeg 0 → (∀ b, b ≠ (γ 9 2) → x3 b = F_1 b) → x3 (γ 9 2) = .inl (I .long, 32, .inr (.inl x2)) → x4.toInt = l2_1.toInt + 1 → R x3 x4 k e1 → R F_1 l2_1 k e1) →
  R s1 s2 k e1
/- tr_RModel_behind2: F -/
def tr_RModel_behind2 (D : va_G) (I : FieldType → ClassId) (γ el : Nat → Nat → Nat) (P : List Nat) (F : Nat → va_E) (q0 : Nat) (q1 : Nat) (o1 : Nat → va_E) : Prop := ∀ R : (Nat → va_E) → Prop,
  (∀ (x1 : Nat → va_E) (x2 : Nat → va_E), tl_RModel_behind2_2 D I γ el P F q0 F (0 : Int32) 21 x1 → tl_RModel_behind2_23 D I γ el P F q1 q0 x1 (0 : Int32) 72 x2 → R x2) →
  R o1
abbrev ky_222338_SpillForgeModel_behind : gKey := (cX17_behind, 4, "SpillForgeModel", none, [], "behind", fun _ _ => True)
def pt_222338_SpillForgeModel_behind (D : va_G) (I : FieldType → ClassId) (γ el : Nat → Nat → Nat) (P222334 : List Nat) (F222335 : Nat → va_E) (q222336 : Nat) (q222337 : Nat) : Option Value → va_W → Nat → Nat → Prop := fun r w dc ds => ∃ (F225387 : Nat → va_E), r = none ∧ w = va_pl P222334 F225387 ∧ RS D I P222334 F225387 γ el ∧ rStr γ [] F222335 F225387 ∧ dc ≤ 0 ∧ ds ≤ 0 ∧ (∀ k : Nat, k < 2048 → rbt (cL (F225387 (γ 9 2))) k = bhV (fI (F222335 (γ 15 q222337)) 0).toInt (fI (F222335 q222337) 2).toInt (fI (F222335 q222337) 3).toInt (lvS γ F222335) k) ∧ rLv γ F222335 F225387 ∧ (F225387 q222336 = F222335 q222336) ∧ tr_RModel_behind2 D I γ el P222334 F222335 q222336 q222337 F225387
set_option maxRecDepth 100000 in
set_option maxHeartbeats 4000000 in
theorem ct_222338_SpillForgeModel_behind (l : Launch) (hl0 : l.stackTraces = false) (D : va_G) (I : FieldType → ClassId) (γ el : Nat → Nat → Nat) (P222334 : List Nat) (F222335 : Nat → va_E) (q222336 : Nat) (q222337 : Nat) (hT : RS D I P222334 F222335 γ el) (htq222336 : rKd γ q222336 10) (htq222337 : rKd γ q222337 2) : CtA (gV D I) l yX17_behind cX17_behind 4 none 1 21 0 0 [.ref q222336, .ref q222337] (va_pl P222334 F222335) (pt_222338_SpillForgeModel_behind D I γ el P222334 F222335 q222336 q222337) gNA := by
  refine CtA_of hl0 (by decide) (Nat.le_of_ble_eq_true rfl) ?_
  have hm222339 : q222336 ∈ P222334 := RS_m hT htq222336 (by decide)
  obtain ⟨q222341, q222342, p222343, p222344, p222345, p222346, p222347, p222348, p222349, p222350, p222351, p222352, p222353, p222354, p222355, p222356, p222357, he222340, hB222384, ht222358, ht222359, ht222360, ht222361, ht222362, ht222363, ht222364, ht222365, ht222366, ht222367, ht222368, ht222369, ht222370, ht222371, ht222372, ht222373, ht222374, ht222375, ht222376, ht222377, ht222378, ht222379, ht222380, ht222381, hB222385⟩ := show rk_10 γ (F222335 q222336) from RS_o hT htq222336
  have hm222386 : (γ 9 2) ∈ P222334 := RS_m hT ht222362 (by decide)
  obtain ⟨f222388, he222387, wf222388⟩ := show rk_35 I (F222335 (γ 9 2)) from RS_o hT ht222362
  have hm222389 : q222337 ∈ P222334 := RS_m hT htq222337 (by decide)
  obtain ⟨q222391, q222392, p222393, p222394, he222390, ht222401, ht222395, ht222396, ht222397, ht222398, ht222399, bp222393, bp222394, r222400, r222402, r222403⟩ := show rk_2 γ q222337 (F222335 q222337) from RS_o hT htq222337
  have hm222404 : q222392 ∈ P222334 := RS_m hT ht222397 (by decide)
  obtain ⟨p222406, p222407, p222408, p222409, p222410, p222411, p222412, he222405, bp222406, bp222407, bp222410, bp222411, bp222412, r222413, r222414, r222415, r222416, r222417⟩ := show rk_1 γ q222392 (F222335 q222392) from RS_o hT ht222397
  have bp222408 := gB_any p222408
  have bp222409 := gB_any p222409
  have fe1 : (fI (F222335 q222337) 2).toInt = p222393.toInt := by rw [he222390]; rfl
  have fe2 : (fI (F222335 q222337) 3).toInt = p222394.toInt := by rw [he222390]; rfl
  have fe3 : (fI (F222335 (γ 15 q222337)) 0).toInt = p222406.toInt := by rw [ht222401.2.1, he222405]; rfl
  refine G_iconst 0 dr_cX17_behind_0 (by decide +kernel) ?_
  refine G_istore_n (L' := [(2, .int 0), (0, .ref q222336), (1, .ref q222337)]) dr_cX17_behind_1 (Nat.le_of_ble_eq_true rfl) rfl ?_
  have hlp2_224759 : ∀ (n2_224759 : Nat) (F224754 : Nat → va_E) (g224753 : Int32), gB g224753 0 32 → RS D I P222334 F224754 γ el → rStr γ [] F222335 F224754 → (∀ j : Nat, (j : Int) < g224753.toInt → cL (F224754 (γ 9 2)) j = 0) → rLv γ F222335 F224754 → (F224754 q222336 = F222335 q222336) → (∀ (k : Nat) (e1 : Nat → va_E), tl_RModel_behind2_2 D I γ el P222334 F222335 q222336 F224754 g224753 k e1 → tl_RModel_behind2_2 D I γ el P222334 F222335 q222336 F222335 (0 : Int32) k e1) → ((33 : Int) - g224753.toInt).toNat < n2_224759 → G (gV D I) l (gRm 1 21 0 0) (gMA (gV D I) (pt_222338_SpillForgeModel_behind D I γ el P222334 F222335 q222336 q222337) gNA 0 0) ky_222338_SpillForgeModel_behind 2 [(2, .int g224753), (0, .ref q222336), (1, .ref q222337)] [] (va_pl P222334 F224754) 0 0 := by
    intro n2_224759
    induction n2_224759 with
    | zero => intro F224754 g224753 bg224753 hT224755 hs224756 x224757 x224758 x224759 kt2_224760 hm2_224759; exact absurd hm2_224759 (Nat.not_lt_zero _)
    | succ n2_224759 ih2_224759 =>
      intro F224754 g224753 bg224753 hT224755 hs224756 x224757 x224758 x224759 kt2_224760 hm2_224759
      have hs224761 : rStr γ [] F222335 F224754 := fun b h0 hb hw => (hs224756 b h0 hb hw).trans ((rStr_rf (γ := γ) (W := []) (F := F222335)) b h0 hb hw).symm
      have he224762 : F224754 q222337 = .inr (17, [.ref q222391, .ref q222392, .int p222393, .int p222394]) := (hs224761 q222337 (rT0 htq222337 (by decide)) (rT1 htq222337 (by decide)) (rT2 htq222337 (by decide))).trans he222390
      have he224763 : F224754 q222392 = .inr (20, [.int p222406, .int p222407, .int p222408, .int p222409, .int p222410, .int p222411, .int p222412]) := (hs224761 q222392 (rT0 ht222397 (by decide)) (rT1 ht222397 (by decide)) (rT2 ht222397 (by decide))).trans he222405
      have hs224764 : rStr γ [] F222335 F224754 := rStr_tr (rStr_rf (γ := γ) (W := []) (F := F222335)) hs224761
      refine G_iload_n 0 dr_cX17_behind_2 rfl ?_
      refine G_bipush 32 dr_cX17_behind_3 (by decide +kernel) ?_
      refine G_icmp_ge 21 dr_cX17_behind_5 (by decide +kernel) (fun hc224765 => ?_) (fun hc224765 => ?_)
      · have r224766 : 32 ≤ g224753.toInt := gj_leL hc224765 (show Int32.toInt 32 = 32 by decide)
        have bg224753' : gB g224753 32 32 := ⟨by omega, by omega⟩
        have hx224767 : tl_RModel_behind2_2 D I γ el P222334 F222335 q222336 F222335 (0 : Int32) 21 F224754 := kt2_224760 21 F224754 (fun R c1 c2 => c1 F224754 g224753 bg224753 hT224755 hs224756 x224757 x224758 x224759 r224766)
        refine G_iconst 0 dr_cX17_behind_21 (by decide +kernel) ?_
        refine G_istore_n (L' := [(2, .int 0), (0, .ref q222336), (1, .ref q222337)]) dr_cX17_behind_22 (Nat.le_of_ble_eq_true rfl) rfl ?_
        have hlp23_225044 : ∀ (n23_225044 : Nat) (F225038 : Nat → va_E) (g225037 : Int32), gB g225037 0 2 → RS D I P222334 F225038 γ el → rStr γ [] F222335 F225038 → (∀ k : Nat, k < 2048 → rbt (cL (F225038 (γ 9 2))) k = wyV g225037.toInt (fI (F222335 q222337) 2).toInt (fI (F222335 q222337) 3).toInt (lvS γ F222335) k) → rLv γ F222335 F225038 → (g225037.toInt = 0 ∨ ((fI (F222335 (γ 15 q222337)) 0).toInt ≠ 32 ∧ (g225037.toInt = 1 ∨ (g225037.toInt = 2 ∧ (fI (F222335 (γ 15 q222337)) 0).toInt ≠ 30 ∧ (fI (F222335 q222337) 2).toInt ≠ (fI (F222335 q222337) 3).toInt)))) → (F225038 q222336 = F222335 q222336) → (∀ (k : Nat) (e1 : Nat → va_E), tl_RModel_behind2_23 D I γ el P222334 F222335 q222337 q222336 F225038 g225037 k e1 → tl_RModel_behind2_23 D I γ el P222334 F222335 q222337 q222336 F224754 (0 : Int32) k e1) → ((3 : Int) - g225037.toInt).toNat < n23_225044 → G (gV D I) l (gRm 1 21 0 0) (gMA (gV D I) (pt_222338_SpillForgeModel_behind D I γ el P222334 F222335 q222336 q222337) gNA 0 0) ky_222338_SpillForgeModel_behind 23 [(2, .int g225037), (0, .ref q222336), (1, .ref q222337)] [] (va_pl P222334 F225038) 0 0 := by
          intro n23_225044
          induction n23_225044 with
          | zero => intro F225038 g225037 bg225037 hT225039 hs225040 x225041 x225042 x225043 x225044 kt23_225045 hm23_225044; exact absurd hm23_225044 (Nat.not_lt_zero _)
          | succ n23_225044 ih23_225044 =>
            intro F225038 g225037 bg225037 hT225039 hs225040 x225041 x225042 x225043 x225044 kt23_225045 hm23_225044
            have hs225046 : rStr γ [] F224754 F225038 := fun b h0 hb hw => (hs225040 b h0 hb hw).trans (hs224756 b h0 hb hw).symm
            have he225047 : F225038 q222337 = .inr (17, [.ref q222391, .ref q222392, .int p222393, .int p222394]) := (hs225046 q222337 (rT0 htq222337 (by decide)) (rT1 htq222337 (by decide)) (rT2 htq222337 (by decide))).trans he224762
            have he225048 : F225038 q222392 = .inr (20, [.int p222406, .int p222407, .int p222408, .int p222409, .int p222410, .int p222411, .int p222412]) := (hs225046 q222392 (rT0 ht222397 (by decide)) (rT1 ht222397 (by decide)) (rT2 ht222397 (by decide))).trans he224763
            have hs225049 : rStr γ [] F222335 F225038 := rStr_tr hs224756 hs225046
            refine G_iload_n 0 dr_cX17_behind_23 rfl ?_
            refine G_aload_n 2 dr_cX17_behind_24 rfl ?_
            have fq225050 : fI (F225038 q222337) 2 = p222393 := by rw [he225047]; rfl
            have fq225051 : fI (F225038 q222337) 3 = p222394 := by rw [he225047]; rfl
            have fq225052 : fR (F225038 q222337) 1 = q222392 := by rw [he225047]; rfl
            have fq225053 : fI (F225038 q222392) 0 = p222406 := by rw [he225048]; rfl
            refine Gw_callV (As := []) (gV_ok D I) (cp_222596_Block_ways l hl0 D I P222334 F225038 q222337 q222392 q222391 p222393 p222394 p222406 p222407 p222408 p222409 p222410 p222411 p222412 hm222389 hm222404 he225047 he225048 bp222393 bp222394 bp222406 bp222407 bp222410 bp222411 bp222412) dr_cX17_behind_25 ⟨wr_10_166, wr_1_38, wr_10_169, by decide, rfl, (Nat.le_of_ble_eq_true rfl), (Nat.le_of_ble_eq_true rfl)⟩ wr_10_167 wr_10_168 hm222389 he225047 rfl (show 0 + 0 ≤ 0 by first | omega | decide) (show 0 + 0 ≤ 0 by first | omega | decide) (Nat.le_of_ble_eq_true rfl) (fun r225057 w225058 dc225054 ds225055 hp225056 => ?_) (fun _ _ _ _ _ z => z.elim)
            obtain ⟨o225059, rfl, rfl, hdc, hds, bo225059, x225060, ht225061⟩ := hp225056
            change G _ _ _ _ _ _ _ (.int o225059 :: _) _ _ _
            refine G_widen (cs' := 0) (sl' := 0) (by omega) (by omega) ?_
            refine G_icmp_ge 72 dr_cX17_behind_28 (by decide +kernel) (fun hc225062 => ?_) (fun hc225062 => ?_)
            · have r225063 : o225059.toInt ≤ g225037.toInt := gC_le hc225062
              have hx225064 : tl_RModel_behind2_23 D I γ el P222334 F222335 q222337 q222336 F224754 (0 : Int32) 72 F225038 := kt23_225045 72 F225038 (fun R c1 c2 => c1 F225038 g225037 p222393 p222394 q222392 p222406 o225059 bg225037 hT225039 hs225040 x225041 x225042 x225043 x225044 fq225050 fq225051 fq225052 fq225053 bo225059 ht225061 r225063)
              have hm225065 : q222336 ∈ P222334 := RS_m hT225039 htq222336 (by decide)
              obtain ⟨q225067, q225068, p225069, p225070, p225071, p225072, p225073, p225074, p225075, p225076, p225077, p225078, p225079, p225080, p225081, p225082, p225083, he225066, hB225110, ht225084, ht225085, ht225086, ht225087, ht225088, ht225089, ht225090, ht225091, ht225092, ht225093, ht225094, ht225095, ht225096, ht225097, ht225098, ht225099, ht225100, ht225101, ht225102, ht225103, ht225104, ht225105, ht225106, ht225107, hB225111⟩ := show rk_10 γ (F225038 q222336) from RS_o hT225039 htq222336
              exact G_vretA dr_cX17_behind_72 rfl (Nat.le_of_ble_eq_true rfl) (Nat.le_of_ble_eq_true rfl) ⟨F225038, rfl, rfl, hT225039, hs225040, (Nat.le_of_ble_eq_true rfl), (Nat.le_of_ble_eq_true rfl), (fun k hk => (x225041 k hk).trans (bh_of (by omega))), x225042, x225044, (fun R c1 => c1 F224754 F225038 hx224767 hx225064)⟩
            · have r225112 : g225037.toInt < o225059.toInt := gC_nle hc225062
              have bg225037' : gB g225037 0 1 := ⟨by omega, by omega⟩
              have bo225059' : gB o225059 1 2 := ⟨by omega, by omega⟩
              refine G_iconst 0 dr_cX17_behind_31 (by decide +kernel) ?_
              refine G_istore_n (L' := [(3, .int 0), (2, .int g225037), (0, .ref q222336), (1, .ref q222337)]) dr_cX17_behind_32 (Nat.le_of_ble_eq_true rfl) rfl ?_
              have hlp33_225219 : ∀ (n33_225219 : Nat) (F225213 : Nat → va_E) (g225212 : Int32), gB g225212 0 32 → RS D I P222334 F225213 γ el → rStr γ [] F222335 F225213 → (∀ k : Nat, k < 2048 → rbt (cL (F225213 (γ 9 2))) k = if (k : Int) < 64 * g225212.toInt then wyV (g225037.toInt + 1) (fI (F222335 q222337) 2).toInt (fI (F222335 q222337) 3).toInt (lvS γ F222335) k else wyV g225037.toInt (fI (F222335 q222337) 2).toInt (fI (F222335 q222337) 3).toInt (lvS γ F222335) k) → rLv γ F222335 F225213 → ((g225037.toInt = 0 ∧ (fI (F222335 (γ 15 q222337)) 0).toInt ≠ 32) ∨ (g225037.toInt = 1 ∧ (fI (F222335 (γ 15 q222337)) 0).toInt ≠ 32 ∧ (fI (F222335 (γ 15 q222337)) 0).toInt ≠ 30 ∧ (fI (F222335 q222337) 2).toInt ≠ (fI (F222335 q222337) 3).toInt)) → (F225213 q222336 = F222335 q222336) → (∀ (k : Nat) (e1 : Nat → va_E), tl_RModel_behind2_33 D I γ el P222334 F222335 g225037 q222337 q222336 F225213 g225212 k e1 → tl_RModel_behind2_33 D I γ el P222334 F222335 g225037 q222337 q222336 F225038 (0 : Int32) k e1) → ((33 : Int) - g225212.toInt).toNat < n33_225219 → G (gV D I) l (gRm 1 21 0 0) (gMA (gV D I) (pt_222338_SpillForgeModel_behind D I γ el P222334 F222335 q222336 q222337) gNA 0 0) ky_222338_SpillForgeModel_behind 33 [(3, .int g225212), (2, .int g225037), (0, .ref q222336), (1, .ref q222337)] [] (va_pl P222334 F225213) 0 0 := by
                intro n33_225219
                induction n33_225219 with
                | zero => intro F225213 g225212 bg225212 hT225214 hs225215 x225216 x225217 x225218 x225219 kt33_225220 hm33_225219; exact absurd hm33_225219 (Nat.not_lt_zero _)
                | succ n33_225219 ih33_225219 =>
                  intro F225213 g225212 bg225212 hT225214 hs225215 x225216 x225217 x225218 x225219 kt33_225220 hm33_225219
                  have hs225221 : rStr γ [] F225038 F225213 := fun b h0 hb hw => (hs225215 b h0 hb hw).trans (hs225040 b h0 hb hw).symm
                  have he225222 : F225213 q222337 = .inr (17, [.ref q222391, .ref q222392, .int p222393, .int p222394]) := (hs225221 q222337 (rT0 htq222337 (by decide)) (rT1 htq222337 (by decide)) (rT2 htq222337 (by decide))).trans he225047
                  have he225223 : F225213 q222392 = .inr (20, [.int p222406, .int p222407, .int p222408, .int p222409, .int p222410, .int p222411, .int p222412]) := (hs225221 q222392 (rT0 ht222397 (by decide)) (rT1 ht222397 (by decide)) (rT2 ht222397 (by decide))).trans he225048
                  have hs225224 : rStr γ [] F222335 F225213 := rStr_tr hs225040 hs225221
                  refine G_iload_n 0 dr_cX17_behind_33 rfl ?_
                  refine G_bipush 32 dr_cX17_behind_34 (by decide +kernel) ?_
                  refine G_icmp_ge 66 dr_cX17_behind_36 (by decide +kernel) (fun hc225225 => ?_) (fun hc225225 => ?_)
                  · have r225226 : 32 ≤ g225212.toInt := gj_leL hc225225 (show Int32.toInt 32 = 32 by decide)
                    have bg225212' : gB g225212 32 32 := ⟨by omega, by omega⟩
                    have hx225227 : tl_RModel_behind2_33 D I γ el P222334 F222335 g225037 q222337 q222336 F225038 (0 : Int32) 66 F225213 := kt33_225220 66 F225213 (fun R c1 c2 => c1 F225213 g225212 bg225212 hT225214 hs225215 x225216 x225217 x225218 x225219 r225226)
                    obtain ⟨z225228, hz225228⟩ : ∃ z : Int32, z = g225037 + Int32.ofInt 1 := ⟨_, rfl⟩
                    have ez225228 : z225228.toInt = g225037.toInt + 1 := gI_inc hz225228 (by decide) bg225037' (by decide) (by decide)
                    have bz225228 : gB z225228 1 2 := ⟨by omega, by omega⟩
                    refine G_iinc (L' := [(2, .int z225228), (3, .int g225212), (0, .ref q222336), (1, .ref q222337)]) z225228 1 dr_cX17_behind_66 rfl hz225228.symm (Nat.le_of_ble_eq_true rfl) rfl ?_
                    refine G_goto 23 dr_cX17_behind_69 (by decide +kernel) ?_
                    refine G_lv (L' := [(2, .int z225228), (0, .ref q222336), (1, .ref q222337)]) [0, 2, 3] rfl ?_
                    exact ih23_225044 F225213 z225228 (gB_w bz225228 (by decide) (by decide)) hT225214 hs225215 (fun k hk => by have q := x225216 k hk; rw [if_pos (by omega)] at q; rw [ez225228]; exact q) x225217 (by rw [show fI (F222335 q222337) 2 = p222393 from by rw [he222390]; rfl, show fI (F222335 q222337) 3 = p222394 from by rw [he222390]; rfl] <;> (omega)) x225219 (fun k e1 ht => kt23_225045 k e1 (fun R c1 c2 => c2 F225038 g225037 p222393 p222394 q222392 p222406 o225059 F225213 z225228 k e1 bg225037 hT225039 hs225040 x225041 x225042 x225043 x225044 fq225050 fq225051 fq225052 fq225053 bo225059 ht225061 r225112 hx225227 ez225228 (ht R c1 c2))) (by omega)
                  · have r225229 : g225212.toInt < 32 := gj_nleL hc225225 (show Int32.toInt 32 = 32 by decide)
                    have bg225212' : gB g225212 0 31 := ⟨by omega, by omega⟩
                    refine G_aload_n 2 dr_cX17_behind_39 rfl ?_
                    have hm225230 : q222336 ∈ P222334 := RS_m hT225214 htq222336 (by decide)
                    obtain ⟨q225232, q225233, p225234, p225235, p225236, p225237, p225238, p225239, p225240, p225241, p225242, p225243, p225244, p225245, p225246, p225247, p225248, he225231, hB225275, ht225249, ht225250, ht225251, ht225252, ht225253, ht225254, ht225255, ht225256, ht225257, ht225258, ht225259, ht225260, ht225261, ht225262, ht225263, ht225264, ht225265, ht225266, ht225267, ht225268, ht225269, ht225270, ht225271, ht225272, hB225276⟩ := show rk_10 γ (F225213 q222336) from RS_o hT225214 htq222336
                    have fq225277 : fR (F225213 q222336) 2 = (γ 9 2) := by rw [he225231]; rfl
                    refine Gp_get 2 hm225230 he225231 dr_cX17_behind_40 (gk_X17 D I) (Nat.le_of_ble_eq_true rfl) wr_7_76 rfl ?_
                    refine G_iload_n 0 dr_cX17_behind_43 rfl ?_
                    refine G_dup2_11 dr_cX17_behind_44 rfl rfl ?_
                    have hm225278 : (γ 9 2) ∈ P222334 := RS_m hT225214 ht225253 (by decide)
                    obtain ⟨f225280, he225279, wf225280⟩ := show rk_35 I (F225213 (γ 9 2)) from RS_o hT225214 ht225253
                    refine Gp_lald 2 hm225278 he225279 dr_cX17_behind_45 rfl (gB_in bg225212' (by decide) (by decide)) (G_namL fun u225281 hu225281 => ?_)
                    have qu225281 : lb_Q u225281 (2000 - 64 * g225212.toInt) := lb_Wld hu225281 wf225280 (by omega) (by omega) (lb_Mod0 (by omega) (by omega))
                    refine G_aload_n 2 dr_cX17_behind_46 rfl ?_
                    have fq225282 : fR (F225213 q222336) 0 = (γ 9 0) := by rw [he225231]; rfl
                    refine Gp_get 0 hm225230 he225231 dr_cX17_behind_47 (gk_X17 D I) (Nat.le_of_ble_eq_true rfl) wr_7_74 rfl ?_
                    refine G_aload_n 3 dr_cX17_behind_50 rfl ?_
                    refine G_iload_n 1 dr_cX17_behind_51 rfl ?_
                    have fq225283 : fI (F225213 q222337) 2 = p222393 := by rw [he225222]; rfl
                    have fq225284 : fI (F225213 q222337) 3 = p222394 := by rw [he225222]; rfl
                    have fq225285 : fR (F225213 q222337) 1 = q222392 := by rw [he225222]; rfl
                    refine Gw_callV (As := [.int g225037]) (gV_ok D I) (cp_222731_Block_way l hl0 D I P222334 F225213 q222337 q222392 g225037 q222391 p222393 p222394 p222406 p222407 p222408 p222409 p222410 p222411 p222412 hm222389 hm222404 he225222 he225223 bp222393 bp222394 bp222406 bp222407 bp222410 bp222411 bp222412) dr_cX17_behind_52 ⟨wr_10_170, wr_1_38, wr_10_173, by decide, rfl, (Nat.le_of_ble_eq_true rfl), (Nat.le_of_ble_eq_true rfl)⟩ wr_10_171 wr_10_172 hm222389 he225222 rfl (show 0 + 0 ≤ 0 by first | omega | decide) (show 0 + 0 ≤ 0 by first | omega | decide) (Nat.le_of_ble_eq_true rfl) (fun r225289 w225290 dc225286 ds225287 hp225288 => ?_) (fun _ _ _ _ _ z => z.elim)
                    obtain ⟨o225291, rfl, rfl, hdc, hds, bo225291, x225292, ht225293⟩ := hp225288
                    change G _ _ _ _ _ _ _ (.int o225291 :: _) _ _ _
                    refine G_widen (cs' := 0) (sl' := 0) (by omega) (by omega) ?_
                    have hm225294 : (γ 9 0) ∈ P222334 := RS_m hT225214 ht225251 (by decide)
                    obtain ⟨f225296, he225295, hg225297⟩ := show rk_12 I γ (F225213 (γ 9 0)) from RS_o hT225214 ht225251
                    obtain ⟨q225298, hx225300⟩ : ∃ x, x = γ 10 o225291.toInt.toNat := ⟨_, rfl⟩
                    have ht225299 : rKd γ q225298 11 := by rw [hx225300]; exact (hg225297 _ (show o225291.toInt.toNat < 40 by omega)).2.1
                    refine Gp_aald 5 hm225294 he225295 dr_cX17_behind_55 rfl rfl (gB_in bo225291 (by decide) (by decide)) ?_
                    rw [show f225296 o225291.toNatClampNeg = some q225298 from (hg225297 _ (show o225291.toInt.toNat < 40 by omega)).1.trans (by rw [hx225300])]
                    change G _ _ _ _ _ _ _ (.ref q225298 :: _) _ _ _
                    refine G_iload_n 0 dr_cX17_behind_56 rfl ?_
                    have hm225301 : q225298 ∈ P222334 := RS_m hT225214 ht225299 (by decide)
                    obtain ⟨f225303, he225302, wf225303⟩ := show rk_11 I (F225213 q225298) from RS_o hT225214 ht225299
                    refine Gp_lald 2 hm225301 he225302 dr_cX17_behind_57 rfl (gB_in bg225212' (by decide) (by decide)) (G_namL fun u225304 hu225304 => ?_)
                    have qu225304 : lb_Q u225304 (2000 - 64 * g225212.toInt) := lb_Wld hu225304 wf225303 (by omega) (by omega) (lb_Mod0 (by omega) (by omega))
                    have hg225305 : ∀ k : Nat, lvS γ F222335 o225291.toInt.toNat k = rbt f225303 k := fun k => by unfold lvS; rw [← x225217 _ (show o225291.toInt.toNat < 40 by omega), ← hx225300, cL_of he225302]
                    refine G_lor dr_cX17_behind_58 (G_namL fun u225306 hu225306 => ?_)
                    have qu225306 : lb_Q u225306 (2000 - 64 * g225212.toInt) := lb_Qor hu225306 qu225281 qu225304
                    refine Gp_last 2 hm225278 he225279 dr_cX17_behind_59 rfl (gB_in bg225212' (by decide) (by decide)) (fun F225307 e225308 n225309 => ?_)
                    obtain ⟨f225310, hf225310⟩ : ∃ z, z = vp_updL f225280 g225212.toNatClampNeg u225306 := ⟨_, rfl⟩
                    rw [← hf225310] at e225308
                    have he225311 : F225307 q222337 = .inr (17, [.ref q222391, .ref q222392, .int p222393, .int p222394]) := (n225309 q222337 (rn_oa he225222 he225279)).trans he225222
                    have he225312 : F225307 q222392 = .inr (20, [.int p222406, .int p222407, .int p222408, .int p222409, .int p222410, .int p222411, .int p222412]) := (n225309 q222392 (rn_oa he225223 he225279)).trans he225223
                    have he225313 : F225307 q222336 = .inr (22, [.ref (γ 9 0), .ref (γ 9 1), .ref (γ 9 2), .ref (γ 9 3), .ref (γ 9 4), .ref (γ 9 5), .ref (γ 9 6), .ref (γ 9 7), .ref (γ 9 8), .int p225234, .int p225235, .int p225236, .int p225237, .int p225238, .int p225239, .ref (γ 9 15), .ref (γ 9 16), .ref (γ 9 17), .ref (γ 9 18), .ref (γ 9 19), .ref (γ 9 20), .ref (γ 9 21), .ref (γ 9 22), .int p225240, .int p225241, .int p225242, .int p225243, .int p225244, .ref q225232, .ref (γ 9 29), .int p225245, .ref (γ 9 31), .int p225246, .int p225247, .int p225248, .ref q225233]) := (n225309 q222336 (rn_oa he225231 he225279)).trans he225231
                    have he225314 : F225307 (γ 9 0) = .inl (I (.array .long), 40, .inr (.inr (.inr (.inr f225296)))) := (n225309 (γ 9 0) (rn_ref_long he225295 he225279)).trans he225295
                    have he225315 : F225307 q225298 = .inl (I .long, 32, .inr (.inl f225303)) := (n225309 q225298 (rn_ty ht225299 ht225253 (by decide))).trans he225302
                    have he225316 : F225307 (γ 9 2) = .inl (I .long, 32, .inr (.inl f225310)) := e225308
                    have hs225317 : rStr γ [] F222335 F225307 := rStr_put hs225215 n225309 ht225253 (by decide)
                    have kp225318 : F225307 q222336 = F222335 q222336 := (n225309 q222336 (rn_ty htq222336 ht225253 (by decide))).trans x225219
                    have wf225310 : lb_W f225310 (32) (32) (2000) := lb_Wst hf225310 wf225280 (by omega) (lb_Mod0 (by omega) (by omega)) qu225306
                    obtain ⟨z225319, hz225319⟩ : ∃ z : Int32, z = g225212 + Int32.ofInt 1 := ⟨_, rfl⟩
                    have ez225319 : z225319.toInt = g225212.toInt + 1 := gI_inc hz225319 (by decide) bg225212' (by decide) (by decide)
                    have bz225319 : gB z225319 1 32 := ⟨by omega, by omega⟩
                    refine G_iinc (L' := [(3, .int z225319), (2, .int g225037), (0, .ref q222336), (1, .ref q222337)]) z225319 0 dr_cX17_behind_60 rfl hz225319.symm (Nat.le_of_ble_eq_true rfl) rfl ?_
                    refine G_goto 33 dr_cX17_behind_63 (by decide +kernel) ?_
                    have hT225320 : RS D I P222334 F225307 γ el := RS_set hT225214 n225309 ht225253 (by decide) ⟨f225310, he225316, wf225310⟩
                    have lv225321 : rLv γ F222335 F225307 := rLv_put hT225214 ht225251 x225217 n225309 ht225253 (by decide)
                    exact ih33_225219 F225307 z225319 (gB_w bz225319 (by decide) (by decide)) hT225320 hs225317 (by rw [cL_of he225316]; exact or_st hu225281 hu225304 (by assumption) hf225310 bg225212'.1 ez225319 (by have q := x225216; rw [cL_of he225279] at q; exact q) (fun k => (wy_s (y := o225291.toInt) (by omega)).trans (by rw [hg225305 k]))) lv225321 (by rw [show fI (F222335 q222337) 2 = p222393 from by rw [he222390]; rfl, show fI (F222335 q222337) 3 = p222394 from by rw [he222390]; rfl] <;> (omega)) kp225318 (fun k e1 ht => kt33_225220 k e1 (fun R c1 c2 => c2 F225213 g225212 f225280 u225281 p222393 p222394 o225291 q225298 f225303 u225304 u225306 f225310 F225307 z225319 k e1 bg225212 hT225214 hs225215 x225216 x225217 x225218 x225219 r225229 fq225277 he225279 hu225281 fq225282 fq225283 fq225284 bo225291 ht225293 hx225300 he225302 hu225304 hu225306 hf225310 n225309 he225316 ez225319 (ht R c1 c2))) (by omega)
              exact hlp33_225219 (((33 : Int) - 0).toNat + 1) F225038 0 (gB_w (gBl (show Int32.toInt 0 = 0 by decide)) (by decide) (by decide)) hT225039 hs225040 (fun k hk => by rw [if_neg (by have qa : Int32.toInt 0 = 0 := (by decide); omega)]; exact x225041 k hk) x225042 (by rw [show fI (F222335 q222337) 2 = p222393 from by rw [he222390]; rfl, show fI (F222335 q222337) 3 = p222394 from by rw [he222390]; rfl] <;> (omega)) x225044 (fun k e1 ht => ht) (Nat.lt_succ_self _)
        exact hlp23_225044 (((3 : Int) - 0).toNat + 1) F224754 0 (gB_w (gBl (show Int32.toInt 0 = 0 by decide)) (by decide) (by decide)) hT224755 hs224756 (fun k hk => (rbt_z (x224757 _ (by omega))).trans wy_0.symm) x224758 (Or.inl (by decide)) x224759 (fun k e1 ht => ht) (Nat.lt_succ_self _)
      · have r225322 : g224753.toInt < 32 := gj_nleL hc224765 (show Int32.toInt 32 = 32 by decide)
        have bg224753' : gB g224753 0 31 := ⟨by omega, by omega⟩
        refine G_aload_n 1 dr_cX17_behind_8 rfl ?_
        have hm225323 : q222336 ∈ P222334 := RS_m hT224755 htq222336 (by decide)
        obtain ⟨q225325, q225326, p225327, p225328, p225329, p225330, p225331, p225332, p225333, p225334, p225335, p225336, p225337, p225338, p225339, p225340, p225341, he225324, hB225368, ht225342, ht225343, ht225344, ht225345, ht225346, ht225347, ht225348, ht225349, ht225350, ht225351, ht225352, ht225353, ht225354, ht225355, ht225356, ht225357, ht225358, ht225359, ht225360, ht225361, ht225362, ht225363, ht225364, ht225365, hB225369⟩ := show rk_10 γ (F224754 q222336) from RS_o hT224755 htq222336
        have fq225370 : fR (F224754 q222336) 2 = (γ 9 2) := by rw [he225324]; rfl
        refine Gp_get 2 hm225323 he225324 dr_cX17_behind_9 (gk_X17 D I) (Nat.le_of_ble_eq_true rfl) wr_7_76 rfl ?_
        refine G_iload_n 0 dr_cX17_behind_12 rfl ?_
        refine G_lconst 0 dr_cX17_behind_13 rfl ?_
        have hm225371 : (γ 9 2) ∈ P222334 := RS_m hT224755 ht225346 (by decide)
        obtain ⟨f225373, he225372, wf225373⟩ := show rk_35 I (F224754 (γ 9 2)) from RS_o hT224755 ht225346
        refine Gp_last 2 hm225371 he225372 dr_cX17_behind_14 rfl (gB_in bg224753' (by decide) (by decide)) (fun F225374 e225375 n225376 => ?_)
        obtain ⟨f225377, hf225377⟩ : ∃ z, z = vp_updL f225373 g224753.toNatClampNeg 0 := ⟨_, rfl⟩
        rw [← hf225377] at e225375
        have he225378 : F225374 q222337 = .inr (17, [.ref q222391, .ref q222392, .int p222393, .int p222394]) := (n225376 q222337 (rn_oa he224762 he225372)).trans he224762
        have he225379 : F225374 q222392 = .inr (20, [.int p222406, .int p222407, .int p222408, .int p222409, .int p222410, .int p222411, .int p222412]) := (n225376 q222392 (rn_oa he224763 he225372)).trans he224763
        have he225380 : F225374 q222336 = .inr (22, [.ref (γ 9 0), .ref (γ 9 1), .ref (γ 9 2), .ref (γ 9 3), .ref (γ 9 4), .ref (γ 9 5), .ref (γ 9 6), .ref (γ 9 7), .ref (γ 9 8), .int p225327, .int p225328, .int p225329, .int p225330, .int p225331, .int p225332, .ref (γ 9 15), .ref (γ 9 16), .ref (γ 9 17), .ref (γ 9 18), .ref (γ 9 19), .ref (γ 9 20), .ref (γ 9 21), .ref (γ 9 22), .int p225333, .int p225334, .int p225335, .int p225336, .int p225337, .ref q225325, .ref (γ 9 29), .int p225338, .ref (γ 9 31), .int p225339, .int p225340, .int p225341, .ref q225326]) := (n225376 q222336 (rn_oa he225324 he225372)).trans he225324
        have he225381 : F225374 (γ 9 2) = .inl (I .long, 32, .inr (.inl f225377)) := e225375
        have hs225382 : rStr γ [] F222335 F225374 := rStr_put hs224756 n225376 ht225346 (by decide)
        have kp225383 : F225374 q222336 = F222335 q222336 := (n225376 q222336 (rn_ty htq222336 ht225346 (by decide))).trans x224759
        have wf225377 : lb_W f225377 (32) (32) (2000) := lb_Wst hf225377 wf225373 (by omega) (lb_Mod0 (by omega) (by omega)) lb_Q0
        obtain ⟨z225384, hz225384⟩ : ∃ z : Int32, z = g224753 + Int32.ofInt 1 := ⟨_, rfl⟩
        have ez225384 : z225384.toInt = g224753.toInt + 1 := gI_inc hz225384 (by decide) bg224753' (by decide) (by decide)
        have bz225384 : gB z225384 1 32 := ⟨by omega, by omega⟩
        refine G_iinc (L' := [(2, .int z225384), (0, .ref q222336), (1, .ref q222337)]) z225384 0 dr_cX17_behind_15 rfl hz225384.symm (Nat.le_of_ble_eq_true rfl) rfl ?_
        refine G_goto 2 dr_cX17_behind_18 (by decide +kernel) ?_
        have hT225385 : RS D I P222334 F225374 γ el := RS_set hT224755 n225376 ht225346 (by decide) ⟨f225377, he225381, wf225377⟩
        have lv225386 : rLv γ F222335 F225374 := rLv_put hT224755 ht225344 x224758 n225376 ht225346 (by decide)
        exact ih2_224759 F225374 z225384 (gB_w bz225384 (by decide) (by decide)) hT225385 hs225382 (by rw [cL_of he225381]; exact zr_st hf225377 (by have q := x224757; rw [cL_of he225372] at q; exact q) ez225384 bg224753'.1) lv225386 kp225383 (fun k e1 ht => kt2_224760 k e1 (fun R c1 c2 => c2 F224754 g224753 f225373 f225377 F225374 z225384 k e1 bg224753 hT224755 hs224756 x224757 x224758 x224759 r225322 fq225370 he225372 hf225377 n225376 he225381 ez225384 (ht R c1 c2))) (by omega)
  exact hlp2_224759 (((33 : Int) - 0).toNat + 1) F222335 0 (gB_w (gBl (show Int32.toInt 0 = 0 by decide)) (by decide) (by decide)) hT (rStr_rf (γ := γ) (W := []) (F := F222335)) (fun j hj => absurd hj (by have qa : Int32.toInt 0 = 0 := (by decide); omega)) (rLv_rf (γ := γ) (F := F222335)) rfl (fun k e1 ht => ht) (Nat.lt_succ_self _)
/- tl_RModel_findLive_131: F, l6, l3; out: l3, F -/
def tl_RModel_findLive_131 (D : va_G) (I : FieldType → ClassId) (γ el : Nat → Nat → Nat) (P : List Nat) (F : Nat → va_E) (l4_2 : Int32) (F_2 : Nat → va_E) (a2 : Int32) (c1 : Nat) (F_1 : Nat → va_E) (q1 : Nat) (q0 : Nat) (s1 : Nat → va_E) (s2 : Int32) (s3 : Int32) (k : Nat) (e1 : Int32) (e2 : Nat → va_E) : Prop := ∀ R : (Nat → va_E) → (Int32) → (Int32) → Nat → (Int32) → (Nat → va_E) → Prop,
  (∀ (F_3 : Nat → va_E) (l6_3 : Int32) (l3_3 : Int32), gB l6_3 0 32 → gB l3_3 0 1 → RS D I P F_3 γ el → rStr γ [] F F_3 → ((∀ i : Nat, i < 40 → (i : Int) ≠ l4_2.toInt → F_3 (γ 10 i) = F_2 (γ 10 i))) → ((∀ k : Nat, k < 2048 → rbt (cL (F_3 (γ 9 2))) k = trS γ el F (decide (a2.toInt = 1)) c1 (lvM γ F_2) (γ 2 (γ 14 c1)) k)) → ((∀ k : Nat, k < 2048 → lvS γ F_3 (l4_2.toInt : Int).toNat k = if (k : Int) < 64 * l6_3.toInt then trS γ el F (decide (a2.toInt = 1)) c1 (lvM γ F_2) (γ 2 (γ 14 c1)) k else lvS γ F_2 (l4_2.toInt : Int).toNat k)) → (lvT γ F_1 + (l3_3.toInt : Int).toNat ≤ lvT γ F_3) → (c1 = el (γ 14 q1) (l4_2.toInt : Int).toNat) → (F_3 q0 = F q0) → 32 ≤ l6_3.toInt → R F_3 l6_3 l3_3 192 l3_3 F_3) →
  (∀ (F_3 : Nat → va_E) (l6_3 : Int32) (l3_3 : Int32) (x1 : Nat) (x2 : Nat → Int64) (x3 : Int64) (x4 : Nat → Int64) (x5 : Nat → Int64) (x6 : Nat → va_E) (x7 : Int32) (k : Nat) (e1 : Int32) (e2 : Nat → va_E), gB l6_3 0 32 → gB l3_3 0 1 → RS D I P F_3 γ el → rStr γ [] F F_3 → ((∀ i : Nat, i < 40 → (i : Int) ≠ l4_2.toInt → F_3 (γ 10 i) = F_2 (γ 10 i))) → ((∀ k : Nat, k < 2048 → rbt (cL (F_3 (γ 9 2))) k = trS γ el F (decide (a2.toInt = 1)) c1 (lvM γ F_2) (γ 2 (γ 14 c1)) k)) → ((∀ k : Nat, k < 2048 → lvS γ F_3 (l4_2.toInt : Int).toNat k = if (k : Int) < 64 * l6_3.toInt then trS γ el F (decide (a2.toInt = 1)) c1 (lvM γ F_2) (γ 2 (γ 14 c1)) k else lvS γ F_2 (l4_2.toInt : Int).toNat k)) → (lvT γ F_1 + (l3_3.toInt : Int).toNat ≤ lvT γ F_3) → (c1 = el (γ 14 q1) (l4_2.toInt : Int).toNat) → (F_3 q0 = F q0) → l6_3.toInt < 32 → l3_3.toInt ≠ 0 → fR (F_3 q0) 0 = (γ 9 0) → x1 = γ 10 l4_2.toInt.toNat → fR (F_3 q0) 2 = (γ 9 2) → F_3 (γ 9 2) = .inl (I .long, 32, .inr (.inl x2)) → x3 = x2 l6_3.toNatClampNeg → F_3 x1 = .inl (I .long, 32, .inr (.inl x4)) → x5 = vp_updL x4 l6_3.toNatClampNeg x3 → (∀ b, b ≠ x1 → x6 b = F_3 b) → x6 x1 = .inl (I .long, 32, .inr (.inl x5)) → x7.toInt = l6_3.toInt + 1 → R x6 x7 (1 : Int32) k e1 e2 → R F_3 l6_3 l3_3 k e1 e2) →
  (∀ (F_3 : Nat → va_E) (l6_3 : Int32) (l3_3 : Int32) (x1 : Nat) (x2 : Nat → Int64) (x3 : Int64) (x4 : Nat → Int64) (x5 : Int64) (x6 : Nat → Int64) (x7 : Nat → va_E) (x8 : Int32) (k : Nat) (e1 : Int32) (e2 : Nat → va_E), gB l6_3 0 32 → gB l3_3 0 1 → RS D I P F_3 γ el → rStr γ [] F F_3 → ((∀ i : Nat, i < 40 → (i : Int) ≠ l4_2.toInt → F_3 (γ 10 i) = F_2 (γ 10 i))) → ((∀ k : Nat, k < 2048 → rbt (cL (F_3 (γ 9 2))) k = trS γ el F (decide (a2.toInt = 1)) c1 (lvM γ F_2) (γ 2 (γ 14 c1)) k)) → ((∀ k : Nat, k < 2048 → lvS γ F_3 (l4_2.toInt : Int).toNat k = if (k : Int) < 64 * l6_3.toInt then trS γ el F (decide (a2.toInt = 1)) c1 (lvM γ F_2) (γ 2 (γ 14 c1)) k else lvS γ F_2 (l4_2.toInt : Int).toNat k)) → (lvT γ F_1 + (l3_3.toInt : Int).toNat ≤ lvT γ F_3) → (c1 = el (γ 14 q1) (l4_2.toInt : Int).toNat) → (F_3 q0 = F q0) → l6_3.toInt < 32 → l3_3.toInt = 0 → fR (F_3 q0) 0 = (γ 9 0) → x1 = γ 10 l4_2.toInt.toNat → F_3 x1 = .inl (I .long, 32, .inr (.inl x2)) → x3 = x2 l6_3.toNatClampNeg → fR (F_3 q0) 2 = (γ 9 2) → F_3 (γ 9 2) = .inl (I .long, 32, .inr (.inl x4)) → x5 = x4 l6_3.toNatClampNeg → x3 = x5 → x6 = vp_updL x2 l6_3.toNatClampNeg x5 → (∀ b, b ≠ x1 → x7 b = F_3 b) → x7 x1 = .inl (I .long, 32, .inr (.inl x6)) → x8.toInt = l6_3.toInt + 1 → R x7 x8 (0 : Int32) k e1 e2 → R F_3 l6_3 l3_3 k e1 e2) →
  (∀ (F_3 : Nat → va_E) (l6_3 : Int32) (l3_3 : Int32) (x1 : Nat) (x2 : Nat → Int64) (x3 : Int64) (x4 : Nat → Int64) (x5 : Int64) (x6 : Nat → Int64) (x7 : Nat → va_E) (x8 : Int32) (k : Nat) (e1 : Int32) (e2 : Nat → va_E), gB l6_3 0 32 → gB l3_3 0 1 → RS D I P F_3 γ el → rStr γ [] F F_3 → ((∀ i : Nat, i < 40 → (i : Int) ≠ l4_2.toInt → F_3 (γ 10 i) = F_2 (γ 10 i))) → ((∀ k : Nat, k < 2048 → rbt (cL (F_3 (γ 9 2))) k = trS γ el F (decide (a2.toInt = 1)) c1 (lvM γ F_2) (γ 2 (γ 14 c1)) k)) → ((∀ k : Nat, k < 2048 → lvS γ F_3 (l4_2.toInt : Int).toNat k = if (k : Int) < 64 * l6_3.toInt then trS γ el F (decide (a2.toInt = 1)) c1 (lvM γ F_2) (γ 2 (γ 14 c1)) k else lvS γ F_2 (l4_2.toInt : Int).toNat k)) → (lvT γ F_1 + (l3_3.toInt : Int).toNat ≤ lvT γ F_3) → (c1 = el (γ 14 q1) (l4_2.toInt : Int).toNat) → (F_3 q0 = F q0) → l6_3.toInt < 32 → l3_3.toInt = 0 → fR (F_3 q0) 0 = (γ 9 0) → x1 = γ 10 l4_2.toInt.toNat → F_3 x1 = .inl (I .long, 32, .inr (.inl x2)) → x3 = x2 l6_3.toNatClampNeg → fR (F_3 q0) 2 = (γ 9 2) → F_3 (γ 9 2) = .inl (I .long, 32, .inr (.inl x4)) → x5 = x4 l6_3.toNatClampNeg → (¬ x3 = x5) → x6 = vp_updL x2 l6_3.toNatClampNeg x5 → (∀ b, b ≠ x1 → x7 b = F_3 b) → x7 x1 = .inl (I .long, 32, .inr (.inl x6)) → x8.toInt = l6_3.toInt + 1 → R x7 x8 (1 : Int32) k e1 e2 → R F_3 l6_3 l3_3 k e1 e2) →
  R s1 s2 s3 k e1 e2
/- tl_RModel_findLive_99: F, l6; out: F -/
def tl_RModel_findLive_99 (D : va_G) (I : FieldType → ClassId) (γ el : Nat → Nat → Nat) (P : List Nat) (F : Nat → va_E) (F_2 : Nat → va_E) (a2 : Int32) (c1 : Nat) (q1 : Nat) (l4_2 : Int32) (q0 : Nat) (s1 : Nat → va_E) (s2 : Int32) (k : Nat) (e1 : Nat → va_E) : Prop := ∀ R : (Nat → va_E) → (Int32) → Nat → (Nat → va_E) → Prop,
  (∀ (F_3 : Nat → va_E) (l6_3 : Int32), gB l6_3 (-1) 999999 → RS D I P F_3 γ el → rStr γ [] F F_3 → rLv γ F_2 F_3 → ((∀ k : Nat, k < 2048 → rbt (cL (F_3 (γ 9 2))) k = trS γ el F (decide (a2.toInt = 1)) c1 (lvM γ F_2) ((((γ 2 (γ 14 c1) : Nat) : Int) - 1 - l6_3.toInt).toNat) k)) → ((l6_3.toInt : Int) < γ 2 (γ 14 c1)) → (c1 = el (γ 14 q1) (l4_2.toInt : Int).toNat) → (F_3 q0 = F q0) → l6_3.toInt < 0 → R F_3 l6_3 128 F_3) →
  (∀ (F_3 : Nat → va_E) (l6_3 : Int32) (x1 : Nat) (x2 : Nat) (x3 : Int32) (x4 : Nat → va_E) (x5 : Int32) (k : Nat) (e1 : Nat → va_E), gB l6_3 (-1) 999999 → RS D I P F_3 γ el → rStr γ [] F F_3 → rLv γ F_2 F_3 → ((∀ k : Nat, k < 2048 → rbt (cL (F_3 (γ 9 2))) k = trS γ el F (decide (a2.toInt = 1)) c1 (lvM γ F_2) ((((γ 2 (γ 14 c1) : Nat) : Int) - 1 - l6_3.toInt).toNat) k)) → ((l6_3.toInt : Int) < γ 2 (γ 14 c1)) → (c1 = el (γ 14 q1) (l4_2.toInt : Int).toNat) → (F_3 q0 = F q0) → 0 ≤ l6_3.toInt → fR (F_3 c1) 0 = x1 → x2 = el x1 l6_3.toInt.toNat → fI (F_3 x1) 2 = x3 → tr_RArrayList_get l6_3 x3 → RS D I P x4 γ el → rStr γ [] F_3 x4 → ((∀ k : Nat, rbt (cL (x4 (γ 9 2))) k = bkS (F_3 x2) (decide (a2.toInt = 1)) (rbt (cL (F_3 (γ 9 2)))) k)) → rLv γ F_3 x4 → (x4 q0 = F_3 q0) → tr_RModel_back2 D I γ el P F_3 q0 x2 a2 x4 → x5.toInt = l6_3.toInt + (-1) → R x4 x5 k e1 → R F_3 l6_3 k e1) →
  R s1 s2 k e1
/- tl_RModel_findLive_58: F, l4, l3; out: l3, F -/
def tl_RModel_findLive_58 (D : va_G) (I : FieldType → ClassId) (γ el : Nat → Nat → Nat) (P : List Nat) (F : Nat → va_E) (q1 : Nat) (a2 : Int32) (F_1 : Nat → va_E) (q0 : Nat) (s1 : Nat → va_E) (s2 : Int32) (s3 : Int32) (k : Nat) (e1 : Int32) (e2 : Nat → va_E) : Prop := ∀ R : (Nat → va_E) → (Int32) → (Int32) → Nat → (Int32) → (Nat → va_E) → Prop,
  (∀ (F_2 : Nat → va_E) (l4_2 : Int32) (l3_2 : Int32), gB l4_2 (-1) 999999 → gB l3_2 0 1 → RS D I P F_2 γ el → rStr γ [] F F_2 → rJv γ el F F_2 q1 (decide (a2.toInt = 1)) (γ 6 (γ 1 q1)) → (lvT γ F_1 + (l3_2.toInt : Int).toNat ≤ lvT γ F_2) → ((l4_2.toInt : Int) < γ 6 (γ 1 q1)) → (F_2 q0 = F q0) → l4_2.toInt < 0 → R F_2 l4_2 l3_2 198 l3_2 F_2) →
  (∀ (F_2 : Nat → va_E) (l4_2 : Int32) (l3_2 : Int32) (x1 : Nat) (x2 : Nat) (x3 : Int32) (x4 : Nat → va_E) (x5 : Nat) (x6 : Nat → va_E) (x7 : Nat) (x8 : Int32) (x9 : Int32) (x10 : Nat → va_E) (x11 : Int32) (x12 : Nat → va_E) (x13 : Int32) (k : Nat) (e1 : Int32) (e2 : Nat → va_E), gB l4_2 (-1) 999999 → gB l3_2 0 1 → RS D I P F_2 γ el → rStr γ [] F F_2 → rJv γ el F F_2 q1 (decide (a2.toInt = 1)) (γ 6 (γ 1 q1)) → (lvT γ F_1 + (l3_2.toInt : Int).toNat ≤ lvT γ F_2) → ((l4_2.toInt : Int) < γ 6 (γ 1 q1)) → (F_2 q0 = F q0) → 0 ≤ l4_2.toInt → fR (F_2 q1) 0 = x1 → x2 = el x1 l4_2.toInt.toNat → fI (F_2 x1) 2 = x3 → tr_RCode_get l4_2 x3 → RS D I P x4 γ el → rStr γ [] F_2 x4 → ((∀ k : Nat, k < 2048 → rbt (cL (x4 (γ 9 2))) k = bhV (fI (F_2 (γ 15 x2)) 0).toInt (fI (F_2 x2) 2).toInt (fI (F_2 x2) 3).toInt (lvS γ F_2) k)) → rLv γ F_2 x4 → (x4 q0 = F_2 q0) → tr_RModel_behind2 D I γ el P F_2 q0 x2 x4 → fR (x4 x2) 1 = x5 → RS D I P x6 γ el → rStr γ [] x4 x6 → ((∀ k : Nat, rbt (cL (x6 (γ 9 2))) k = bkS (x4 x5) (decide (a2.toInt = 1)) (rbt (cL (x4 (γ 9 2)))) k)) → rLv γ x4 x6 → (x6 q0 = x4 q0) → tr_RModel_back2 D I γ el P x4 q0 x5 a2 x6 → fR (x6 x2) 0 = x7 → x8.toInt = (γ 2 x7 : Int) → fI (x6 x7) 2 = x8 → x9.toInt = x8.toInt - 1 → tl_RModel_findLive_99 D I γ el P F F_2 a2 x2 q1 l4_2 q0 x6 x9 128 x10 → tl_RModel_findLive_131 D I γ el P F l4_2 F_2 a2 x2 F_1 q1 q0 x10 (0 : Int32) l3_2 192 x11 x12 → x13.toInt = l4_2.toInt + (-1) → R x12 x13 x11 k e1 e2 → R F_2 l4_2 l3_2 k e1 e2) →
  R s1 s2 s3 k e1 e2
/- tl_RModel_findLive_44: F, l3; out: F -/
def tl_RModel_findLive_44 (D : va_G) (I : FieldType → ClassId) (γ el : Nat → Nat → Nat) (P : List Nat) (F : Nat → va_E) (q1 : Nat) (a2 : Int32) (q0 : Nat) (s1 : Nat → va_E) (s2 : Int32) (k : Nat) (e1 : Nat → va_E) : Prop := ∀ R : (Nat → va_E) → (Int32) → Nat → (Nat → va_E) → Prop,
  (∀ (F_1 : Nat → va_E) (l3_1 : Int32), gB l3_1 0 1 → RS D I P F_1 γ el → rStr γ [] F F_1 → rJv γ el F F_1 q1 (decide (a2.toInt = 1)) (γ 6 (γ 1 q1)) → (F_1 q0 = F q0) → l3_1.toInt = 0 → R F_1 l3_1 201 F_1) →
  (∀ (F_1 : Nat → va_E) (l3_1 : Int32) (x1 : Int32) (x2 : Int32) (x3 : Int32) (x4 : Nat → va_E) (k : Nat) (e1 : Nat → va_E), gB l3_1 0 1 → RS D I P F_1 γ el → rStr γ [] F F_1 → rJv γ el F F_1 q1 (decide (a2.toInt = 1)) (γ 6 (γ 1 q1)) → (F_1 q0 = F q0) → l3_1.toInt ≠ 0 → fI (F_1 q1) 3 = x1 → x2.toInt = x1.toInt - 1 → tl_RModel_findLive_58 D I γ el P F q1 a2 F_1 q0 F_1 x2 (0 : Int32) 198 x3 x4 → R x4 x3 k e1 → R F_1 l3_1 k e1) →
  R s1 s2 k e1
/- tl_RModel_findLive_13: F, l4; out: F -/
def tl_RModel_findLive_13 (D : va_G) (I : FieldType → ClassId) (γ el : Nat → Nat → Nat) (P : List Nat) (F : Nat → va_E) (l3_1 : Int32) (q0 : Nat) (s1 : Nat → va_E) (s2 : Int32) (k : Nat) (e1 : Nat → va_E) : Prop := ∀ R : (Nat → va_E) → (Int32) → Nat → (Nat → va_E) → Prop,
  (∀ (F_2 : Nat → va_E) (l4_2 : Int32), gB l4_2 0 32 → RS D I P F_2 γ el → rStr γ [] F F_2 → ((∀ i : Nat, (i : Int) < l3_1.toInt → ∀ j : Nat, j < 32 → cL (F_2 (γ 10 i)) j = 0)) → ((∀ j : Nat, (j : Int) < l4_2.toInt → cL (F_2 (γ 10 (l3_1.toInt : Int).toNat)) j = 0)) → (F_2 q0 = F q0) → 32 ≤ l4_2.toInt → R F_2 l4_2 36 F_2) →
  (∀ (F_2 : Nat → va_E) (l4_2 : Int32) (x1 : Nat) (x2 : Nat → Int64) (x3 : Nat → Int64) (x4 : Nat → va_E) (x5 : Int32) (k : Nat) (e1 : Nat → va_E), gB l4_2 0 32 → RS D I P F_2 γ el → rStr γ [] F F_2 → ((∀ i : Nat, (i : Int) < l3_1.toInt → ∀ j : Nat, j < 32 → cL (F_2 (γ 10 i)) j = 0)) → ((∀ j : Nat, (j : Int) < l4_2.toInt → cL (F_2 (γ 10 (l3_1.toInt : Int).toNat)) j = 0)) → (F_2 q0 = F q0) → l4_2.toInt < 32 → fR (F_2 q0) 0 = (γ 9 0) → x1 = γ 10 l3_1.toInt.toNat → F_2 x1 = .inl (I .long, 32, .inr (.inl x2)) → x3 = vp_updL x2 l4_2.toNatClampNeg 0 → (∀ b, b ≠ x1 → x4 b = F_2 b) → x4 x1 = .inl (I .long, 32, .inr (.inl x3)) → x5.toInt = l4_2.toInt + 1 → R x4 x5 k e1 → R F_2 l4_2 k e1) →
  R s1 s2 k e1
/- tl_RModel_findLive_2: F, l3; out: F -/
def tl_RModel_findLive_2 (D : va_G) (I : FieldType → ClassId) (γ el : Nat → Nat → Nat) (P : List Nat) (F : Nat → va_E) (q0 : Nat) (q1 : Nat) (s1 : Nat → va_E) (s2 : Int32) (k : Nat) (e1 : Nat → va_E) : Prop := ∀ R : (Nat → va_E) → (Int32) → Nat → (Nat → va_E) → Prop,
  (∀ (F_1 : Nat → va_E) (l3_1 : Int32) (x1 : Int32), gB l3_1 0 1000000 → RS D I P F_1 γ el → rStr γ [] F F_1 → ((∀ i : Nat, (i : Int) < l3_1.toInt → ∀ j : Nat, j < 32 → cL (F_1 (γ 10 i)) j = 0)) → (F_1 q0 = F q0) → fI (F_1 q1) 3 = x1 → x1.toInt ≤ l3_1.toInt → R F_1 l3_1 42 F_1) →
  (∀ (F_1 : Nat → va_E) (l3_1 : Int32) (x1 : Int32) (x2 : Nat → va_E) (x3 : Int32) (k : Nat) (e1 : Nat → va_E), gB l3_1 0 1000000 → RS D I P F_1 γ el → rStr γ [] F F_1 → ((∀ i : Nat, (i : Int) < l3_1.toInt → ∀ j : Nat, j < 32 → cL (F_1 (γ 10 i)) j = 0)) → (F_1 q0 = F q0) → fI (F_1 q1) 3 = x1 → l3_1.toInt < x1.toInt → tl_RModel_findLive_13 D I γ el P F l3_1 q0 F_1 (0 : Int32) 36 x2 → x3.toInt = l3_1.toInt + 1 → R x2 x3 k e1 → R F_1 l3_1 k e1) →
  R s1 s2 k e1
/- tr_RModel_findLive: F -/
def tr_RModel_findLive (D : va_G) (I : FieldType → ClassId) (γ el : Nat → Nat → Nat) (P : List Nat) (F : Nat → va_E) (q0 : Nat) (q1 : Nat) (a2 : Int32) (o1 : Nat → va_E) : Prop := ∀ R : (Nat → va_E) → Prop,
  (∀ (x1 : Nat → va_E) (x2 : Nat → va_E), tl_RModel_findLive_2 D I γ el P F q0 q1 F (0 : Int32) 42 x1 → tl_RModel_findLive_44 D I γ el P F q1 a2 q0 x1 (1 : Int32) 201 x2 → R x2) →
  R o1
abbrev ky_225394_SpillForgeModel_findLive : gKey := (cX17_findLive, 7, "SpillForgeModel", none, [], "findLive", fun _ _ => True)
def pt_225394_SpillForgeModel_findLive (D : va_G) (I : FieldType → ClassId) (γ el : Nat → Nat → Nat) (P225388 : List Nat) (F225389 : Nat → va_E) (q225390 : Nat) (q225391 : Nat) (p225392 : Int32) : Option Value → va_W → Nat → Nat → Prop := fun r w dc ds => ∃ (F276991 : Nat → va_E), r = none ∧ w = va_pl P225388 F276991 ∧ RS D I P225388 F276991 γ el ∧ rStr γ [] F225389 F276991 ∧ dc ≤ 0 ∧ ds ≤ 0 ∧ (F276991 q225390 = F225389 q225390) ∧ tr_RModel_findLive D I γ el P225388 F225389 q225390 q225391 p225392 F276991
set_option maxRecDepth 100000 in
set_option maxHeartbeats 4000000 in
theorem ct_225394_SpillForgeModel_findLive (l : Launch) (hl0 : l.stackTraces = false) (D : va_G) (I : FieldType → ClassId) (γ el : Nat → Nat → Nat) (P225388 : List Nat) (F225389 : Nat → va_E) (q225390 : Nat) (q225391 : Nat) (p225392 : Int32) (hT : RS D I P225388 F225389 γ el) (htq225390 : rKd γ q225390 10) (htq225391 : rKd γ q225391 9) (bp225392 : gB p225392 0 1) (x225393 : 0 < γ 6 (γ 1 q225391)) : CtA (gV D I) l yX17_findLive cX17_findLive 7 none 4 85 0 0 [.ref q225390, .ref q225391, .int p225392] (va_pl P225388 F225389) (pt_225394_SpillForgeModel_findLive D I γ el P225388 F225389 q225390 q225391 p225392) gNA := by
  refine CtA_of hl0 (by decide) (Nat.le_of_ble_eq_true rfl) ?_
  have hm225395 : q225390 ∈ P225388 := RS_m hT htq225390 (by decide)
  obtain ⟨q225397, q225398, p225399, p225400, p225401, p225402, p225403, p225404, p225405, p225406, p225407, p225408, p225409, p225410, p225411, p225412, p225413, he225396, hB225440, ht225414, ht225415, ht225416, ht225417, ht225418, ht225419, ht225420, ht225421, ht225422, ht225423, ht225424, ht225425, ht225426, ht225427, ht225428, ht225429, ht225430, ht225431, ht225432, ht225433, ht225434, ht225435, ht225436, ht225437, hB225441⟩ := show rk_10 γ (F225389 q225390) from RS_o hT htq225390
  have hm225442 : (γ 9 2) ∈ P225388 := RS_m hT ht225418 (by decide)
  obtain ⟨f225444, he225443, wf225444⟩ := show rk_35 I (F225389 (γ 9 2)) from RS_o hT ht225418
  refine G_iconst 0 dr_cX17_findLive_0 (by decide +kernel) ?_
  refine G_istore_n (L' := [(3, .int 0), (0, .ref q225390), (1, .ref q225391), (2, .int p225392)]) dr_cX17_findLive_1 (Nat.le_of_ble_eq_true rfl) rfl ?_
  have hlp2_271831 : ∀ (n2_271831 : Nat) (F271827 : Nat → va_E) (g271826 : Int32), gB g271826 0 1000000 → RS D I P225388 F271827 γ el → rStr γ [] F225389 F271827 → (∀ i : Nat, (i : Int) < g271826.toInt → ∀ j : Nat, j < 32 → cL (F271827 (γ 10 i)) j = 0) → (F271827 q225390 = F225389 q225390) → (∀ (k : Nat) (e1 : Nat → va_E), tl_RModel_findLive_2 D I γ el P225388 F225389 q225390 q225391 F271827 g271826 k e1 → tl_RModel_findLive_2 D I γ el P225388 F225389 q225390 q225391 F225389 (0 : Int32) k e1) → ((1000001 : Int) - g271826.toInt).toNat < n2_271831 → G (gV D I) l (gRm 4 85 0 0) (gMA (gV D I) (pt_225394_SpillForgeModel_findLive D I γ el P225388 F225389 q225390 q225391 p225392) gNA 0 0) ky_225394_SpillForgeModel_findLive 2 [(3, .int g271826), (0, .ref q225390), (1, .ref q225391), (2, .int p225392)] [] (va_pl P225388 F271827) 0 0 := by
    intro n2_271831
    induction n2_271831 with
    | zero => intro F271827 g271826 bg271826 hT271828 hs271829 x271830 x271831 kt2_271832 hm2_271831; exact absurd hm2_271831 (Nat.not_lt_zero _)
    | succ n2_271831 ih2_271831 =>
      intro F271827 g271826 bg271826 hT271828 hs271829 x271830 x271831 kt2_271832 hm2_271831
      have hs271833 : rStr γ [] F225389 F271827 := fun b h0 hb hw => (hs271829 b h0 hb hw).trans ((rStr_rf (γ := γ) (W := []) (F := F225389)) b h0 hb hw).symm
      have hs271834 : rStr γ [] F225389 F271827 := rStr_tr (rStr_rf (γ := γ) (W := []) (F := F225389)) hs271833
      refine G_iload_n 0 dr_cX17_findLive_2 rfl ?_
      refine G_aload_n 2 dr_cX17_findLive_3 rfl ?_
      have hm271835 : q225391 ∈ P225388 := RS_m hT271828 htq225391 (by decide)
      obtain ⟨q271837, q271838, p271839, p271840, he271836, ht271856, ht271841, ht271842, ht271843, ht271844, r271845, r271846, r271847, r271848, r271849, r271850, r271851, r271852, r271853, r271854, r271855⟩ := show rk_9 γ el q225391 (F271827 q225391) from RS_o hT271828 htq225391
      have bp271839 : gB p271839 0 1000000 := ⟨by omega, by omega⟩
      have bp271840 : gB p271840 0 1000000 := ⟨by omega, by omega⟩
      have fq271857 : fI (F271827 q225391) 3 = p271840 := by rw [he271836]; rfl
      refine Gw_callV (As := []) (gV_ok D I) (cp_12780_Code_size l hl0 D I P225388 F271827 q225391 q271837 q271838 p271839 p271840 hm271835 he271836) dr_cX17_findLive_4 ⟨wr_10_160, wr_1_15, wr_9_131, by decide, rfl, (Nat.le_of_ble_eq_true rfl), (Nat.le_of_ble_eq_true rfl)⟩ wr_9_129 wr_9_130 hm271835 he271836 rfl (show 0 + 0 ≤ 0 by first | omega | decide) (show 0 + 0 ≤ 0 by first | omega | decide) (Nat.le_of_ble_eq_true rfl) (fun r271861 w271862 dc271858 ds271859 hp271860 => ?_) (fun _ _ _ _ _ z => z.elim)
      obtain ⟨rfl, rfl, hdc, hds⟩ := hp271860
      change G _ _ _ _ _ _ _ (.int p271840 :: _) _ _ _
      refine G_widen (cs' := 0) (sl' := 0) (by omega) (by omega) ?_
      refine G_icmp_ge 42 dr_cX17_findLive_7 (by decide +kernel) (fun hc271863 => ?_) (fun hc271863 => ?_)
      · have r271864 : p271840.toInt ≤ g271826.toInt := gC_le hc271863
        have hx271865 : tl_RModel_findLive_2 D I γ el P225388 F225389 q225390 q225391 F225389 (0 : Int32) 42 F271827 := kt2_271832 42 F271827 (fun R c1 c2 => c1 F271827 g271826 p271840 bg271826 hT271828 hs271829 x271830 x271831 fq271857 r271864)
        refine G_iconst 1 dr_cX17_findLive_42 (by decide +kernel) ?_
        refine G_istore_n (L' := [(3, .int 1), (0, .ref q225390), (1, .ref q225391), (2, .int p225392)]) dr_cX17_findLive_43 (Nat.le_of_ble_eq_true rfl) rfl ?_
        have hlp44_274340 : ∀ (n44_274340 : Nat) (F274336 : Nat → va_E) (g274335 : Int32), gB g274335 0 1 → RS D I P225388 F274336 γ el → rStr γ [] F225389 F274336 → rJv γ el F225389 F274336 q225391 (decide (p225392.toInt = 1)) (γ 6 (γ 1 q225391)) → (F274336 q225390 = F225389 q225390) → (∀ (k : Nat) (e1 : Nat → va_E), tl_RModel_findLive_44 D I γ el P225388 F225389 q225391 p225392 q225390 F274336 g274335 k e1 → tl_RModel_findLive_44 D I γ el P225388 F225389 q225391 p225392 q225390 F271827 (1 : Int32) k e1) → ((81920 - lvT γ F274336) + (g274335.toInt : Int).toNat) < n44_274340 → G (gV D I) l (gRm 4 85 0 0) (gMA (gV D I) (pt_225394_SpillForgeModel_findLive D I γ el P225388 F225389 q225390 q225391 p225392) gNA 0 0) ky_225394_SpillForgeModel_findLive 44 [(3, .int g274335), (0, .ref q225390), (1, .ref q225391), (2, .int p225392)] [] (va_pl P225388 F274336) 0 0 := by
          intro n44_274340
          induction n44_274340 with
          | zero => intro F274336 g274335 bg274335 hT274337 hs274338 x274339 x274340 kt44_274341 hm44_274340; exact absurd hm44_274340 (Nat.not_lt_zero _)
          | succ n44_274340 ih44_274340 =>
            intro F274336 g274335 bg274335 hT274337 hs274338 x274339 x274340 kt44_274341 hm44_274340
            have hs274342 : rStr γ [] F271827 F274336 := fun b h0 hb hw => (hs274338 b h0 hb hw).trans (hs271829 b h0 hb hw).symm
            have he274343 : F274336 q225391 = .inr (18, [.ref q271837, .ref q271838, .int p271839, .int p271840]) := (hs274342 q225391 (rT0 htq225391 (by decide)) (rT1 htq225391 (by decide)) (rT2 htq225391 (by decide))).trans he271836
            have hs274344 : rStr γ [] F225389 F274336 := rStr_tr hs271829 hs274342
            refine G_iload_n 0 dr_cX17_findLive_44 rfl ?_
            refine G_if_eq 201 dr_cX17_findLive_45 (by decide +kernel) (fun hc274345 => ?_) (fun hc274345 => ?_)
            · have r274346 : g274335.toInt = 0 := gj_eq hc274345 (show Int32.toInt 0 = 0 by decide)
              have bg274335' : gB g274335 0 0 := ⟨by omega, by omega⟩
              have hx274347 : tl_RModel_findLive_44 D I γ el P225388 F225389 q225391 p225392 q225390 F271827 (1 : Int32) 201 F274336 := kt44_274341 201 F274336 (fun R c1 c2 => c1 F274336 g274335 bg274335 hT274337 hs274338 x274339 x274340 r274346)
              exact G_vretA dr_cX17_findLive_201 rfl (Nat.le_of_ble_eq_true rfl) (Nat.le_of_ble_eq_true rfl) ⟨F274336, rfl, rfl, hT274337, hs274338, (Nat.le_of_ble_eq_true rfl), (Nat.le_of_ble_eq_true rfl), x274340, (fun R c1 => c1 F271827 F274336 hx271865 hx274347)⟩
            · have r274348 : g274335.toInt ≠ 0 := gj_neq hc274345 (show Int32.toInt 0 = 0 by decide)
              have bg274335' : gB g274335 1 1 := ⟨by omega, by omega⟩
              refine G_iconst 0 dr_cX17_findLive_48 (by decide +kernel) ?_
              refine G_istore_n (L' := [(3, .int 0), (0, .ref q225390), (1, .ref q225391), (2, .int p225392)]) dr_cX17_findLive_49 (Nat.le_of_ble_eq_true rfl) rfl ?_
              refine G_aload_n 2 dr_cX17_findLive_50 rfl ?_
              have fq274349 : fI (F274336 q225391) 3 = p271840 := by rw [he274343]; rfl
              refine Gw_callV (As := []) (gV_ok D I) (cp_12780_Code_size l hl0 D I P225388 F274336 q225391 q271837 q271838 p271839 p271840 hm271835 he274343) dr_cX17_findLive_51 ⟨wr_10_160, wr_1_15, wr_9_131, by decide, rfl, (Nat.le_of_ble_eq_true rfl), (Nat.le_of_ble_eq_true rfl)⟩ wr_9_129 wr_9_130 hm271835 he274343 rfl (show 0 + 0 ≤ 0 by first | omega | decide) (show 0 + 0 ≤ 0 by first | omega | decide) (Nat.le_of_ble_eq_true rfl) (fun r274353 w274354 dc274350 ds274351 hp274352 => ?_) (fun _ _ _ _ _ z => z.elim)
              obtain ⟨rfl, rfl, hdc, hds⟩ := hp274352
              change G _ _ _ _ _ _ _ (.int p271840 :: _) _ _ _
              refine G_widen (cs' := 0) (sl' := 0) (by omega) (by omega) ?_
              refine G_iconst 1 dr_cX17_findLive_54 (by decide +kernel) ?_
              refine G_isub dr_cX17_findLive_55 (G_nam fun z274355 hz274355 => ?_)
              have ez274355 : z274355.toInt = p271840.toInt - 1 := by rw [gI_sub hz274355 bp271840 (gBl (show Int32.toInt 1 = 1 by decide)) (by decide) (by decide), show Int32.toInt 1 = 1 from by decide]
              have bz274355 : gB z274355 (-1) 999999 := gB_sub (gI_sub hz274355 bp271840 (gBl (show Int32.toInt 1 = 1 by decide)) (by decide) (by decide)) bp271840 (gBl (show Int32.toInt 1 = 1 by decide)) (by decide) (by decide)
              refine G_istore (L' := [(4, .int z274355), (3, .int 0), (0, .ref q225390), (1, .ref q225391), (2, .int p225392)]) dr_cX17_findLive_56 (Nat.le_of_ble_eq_true rfl) rfl ?_
              have hlp58_275588 : ∀ (n58_275588 : Nat) (F275582 : Nat → va_E) (g275580 : Int32) (g275581 : Int32), gB g275580 (-1) 999999 → gB g275581 0 1 → RS D I P225388 F275582 γ el → rStr γ [] F225389 F275582 → rJv γ el F225389 F275582 q225391 (decide (p225392.toInt = 1)) (γ 6 (γ 1 q225391)) → (lvT γ F274336 + (g275581.toInt : Int).toNat ≤ lvT γ F275582) → ((g275580.toInt : Int) < γ 6 (γ 1 q225391)) → (F275582 q225390 = F225389 q225390) → (∀ (k : Nat) (e1 : Int32) (e2 : Nat → va_E), tl_RModel_findLive_58 D I γ el P225388 F225389 q225391 p225392 F274336 q225390 F275582 g275580 g275581 k e1 e2 → tl_RModel_findLive_58 D I γ el P225388 F225389 q225391 p225392 F274336 q225390 F274336 z274355 (0 : Int32) k e1 e2) → ((g275580.toInt : Int) - (-2)).toNat < n58_275588 → G (gV D I) l (gRm 4 85 0 0) (gMA (gV D I) (pt_225394_SpillForgeModel_findLive D I γ el P225388 F225389 q225390 q225391 p225392) gNA 0 0) ky_225394_SpillForgeModel_findLive 58 [(4, .int g275580), (3, .int g275581), (0, .ref q225390), (1, .ref q225391), (2, .int p225392)] [] (va_pl P225388 F275582) 0 0 := by
                intro n58_275588
                induction n58_275588 with
                | zero => intro F275582 g275580 g275581 bg275580 bg275581 hT275583 hs275584 x275585 x275586 x275587 x275588 kt58_275589 hm58_275588; exact absurd hm58_275588 (Nat.not_lt_zero _)
                | succ n58_275588 ih58_275588 =>
                  intro F275582 g275580 g275581 bg275580 bg275581 hT275583 hs275584 x275585 x275586 x275587 x275588 kt58_275589 hm58_275588
                  have hs275590 : rStr γ [] F274336 F275582 := fun b h0 hb hw => (hs275584 b h0 hb hw).trans (hs274338 b h0 hb hw).symm
                  have he275591 : F275582 q225391 = .inr (18, [.ref q271837, .ref q271838, .int p271839, .int p271840]) := (hs275590 q225391 (rT0 htq225391 (by decide)) (rT1 htq225391 (by decide)) (rT2 htq225391 (by decide))).trans he274343
                  have hs275592 : rStr γ [] F225389 F275582 := rStr_tr hs274338 hs275590
                  refine G_iload 0 dr_cX17_findLive_58 rfl ?_
                  refine G_if_lt 198 dr_cX17_findLive_60 (by decide +kernel) (fun hc275593 => ?_) (fun hc275593 => ?_)
                  · have r275594 : g275580.toInt < 0 := gj_lt hc275593 (show Int32.toInt 0 = 0 by decide)
                    have bg275580' : gB g275580 (-1) (-1) := ⟨by omega, by omega⟩
                    have hx275595 : tl_RModel_findLive_58 D I γ el P225388 F225389 q225391 p225392 F274336 q225390 F274336 z274355 (0 : Int32) 198 g275581 F275582 := kt58_275589 198 g275581 F275582 (fun R c1 c2 => c1 F275582 g275580 g275581 bg275580 bg275581 hT275583 hs275584 x275585 x275586 x275587 x275588 r275594)
                    have lt275596 := lvT_le (γ := γ) (F := F275582)
                    have lt275597 := lvT_le (γ := γ) (F := F274336)
                    refine G_goto 44 dr_cX17_findLive_198 (by decide +kernel) ?_
                    refine G_lv (L' := [(3, .int g275581), (0, .ref q225390), (1, .ref q225391), (2, .int p225392)]) [1, 2, 3, 4] rfl ?_
                    exact ih44_274340 F275582 g275581 bg275581 hT275583 hs275584 x275585 x275588 (fun k e1 ht => kt44_274341 k e1 (fun R c1 c2 => c2 F274336 g274335 p271840 z274355 g275581 F275582 k e1 bg274335 hT274337 hs274338 x274339 x274340 r274348 fq274349 ez274355 hx275595 (ht R c1 c2))) (by omega)
                  · have r275598 : 0 ≤ g275580.toInt := gj_nlt hc275593 (show Int32.toInt 0 = 0 by decide)
                    have bg275580' : gB g275580 0 999999 := ⟨by omega, by omega⟩
                    refine G_aload_n 3 dr_cX17_findLive_63 rfl ?_
                    refine G_iload 0 dr_cX17_findLive_64 rfl ?_
                    have hm275599 : q271837 ∈ P225388 := RS_m hT275583 ht271841 (by decide)
                    obtain ⟨⟨p275601, p275602, q275603, he275600, r275604, r275605, r275606, r275608⟩, r275607⟩ := show rk_4 D I γ el F275582 q271837 from RS_o hT275583 ht271841
                    have bp275601 := gB_any p275601
                    have bp275602 : gB p275602 0 1000000 := ⟨by omega, by omega⟩
                    obtain ⟨r275609, r275610, n275617, f275618, r275611, r275612, r275613, r275614, r275615, r275616⟩ := rLC_n r275606 (by omega)
                    have hm275619 : q275603 ∈ P225388 := RS_m hT275583 r275609 (by decide)
                    obtain ⟨q275620, hx275621⟩ : ∃ x, x = el q271837 g275580.toInt.toNat := ⟨_, rfl⟩
                    have fq275625 : fR (F275582 q225391) 0 = q271837 := by rw [he275591]; rfl
                    have hx275622 : f275618 g275580.toNatClampNeg = some q275620 := (r275615 _ (show g275580.toInt.toNat < γ 2 q271837 by omega)).trans (by rw [hx275621])
                    have ht275626 : rKd γ q275620 2 := by rw [hx275621]; exact (r271852 _ (by omega)).resolve_right (fun z => absurd z.1 (by omega))
                    have ht275627 : rFm γ q275620 q271837 := by rw [hx275621]; exact (r275607 _ (show g275580.toInt.toNat < γ 2 q271837 by omega)).2.1
                    have hm275628 : q275620 ∈ P225388 := RS_m hT275583 ht275626 (by decide)
                    obtain ⟨q275630, q275631, p275632, p275633, he275629, ht275640, ht275634, ht275635, ht275636, ht275637, ht275638, bp275632, bp275633, r275639, r275641, r275642⟩ := show rk_2 γ q275620 (F275582 q275620) from RS_o hT275583 ht275626
                    have fq275643 : fI (F275582 q271837) 2 = p275602 := by rw [he275600]; rfl
                    refine Gw_callV (As := [.int g275580]) (gV_ok D I) (cp_7901_Code_get l hl0 D I P225388 F275582 q225391 q271837 q275603 g275580 q271838 p271839 p271840 p275601 p275602 f275618 n275617 q275620 q275630 q275631 p275632 p275633 hm271835 hm275599 hm275619 hm275628 he275591 he275600 r275611 he275629 (gB_w bg275580' (by decide) (by decide)) (gB_w bp275602 (by decide) (by decide)) (by omega) (by omega) (by assumption) (by omega)) dr_cX17_findLive_66 ⟨wr_10_161, wr_1_15, wr_10_141, by decide, rfl, (Nat.le_of_ble_eq_true rfl), (Nat.le_of_ble_eq_true rfl)⟩ wr_10_139 wr_10_140 hm271835 he275591 rfl (show 0 + 0 ≤ 0 by first | omega | decide) (show 0 + 0 ≤ 0 by first | omega | decide) (Nat.le_of_ble_eq_true rfl) (fun r275647 w275648 dc275644 ds275645 hp275646 => ?_) (fun _ _ _ _ _ z => z.elim)
                    obtain ⟨rfl, rfl, hdc, hds, ht275649⟩ := hp275646
                    change G _ _ _ _ _ _ _ (.ref q275620 :: _) _ _ _
                    refine G_widen (cs' := 0) (sl' := 0) (by omega) (by omega) ?_
                    refine G_astore (L' := [(5, .ref q275620), (4, .int g275580), (3, .int g275581), (0, .ref q225390), (1, .ref q225391), (2, .int p225392)]) dr_cX17_findLive_69 (Nat.le_of_ble_eq_true rfl) rfl ?_
                    refine G_aload_n 3 dr_cX17_findLive_71 rfl ?_
                    refine G_aload 0 dr_cX17_findLive_72 rfl ?_
                    have fl275650 : F275582 q275620 = F225389 q275620 := hs275584 q275620 (rT0 ht275626 (by decide)) (rT1 ht275626 (by decide)) (rT2 ht275626 (by decide))
                    have fl275651 : F275582 q275631 = F225389 q275631 := hs275584 q275631 (rT0 ht275636 (by decide)) (rT1 ht275636 (by decide)) (rT2 ht275636 (by decide))
                    have fl275652 : (fI (F225389 q275620) 2).toInt = p275632.toInt := by rw [← fl275650, he275629]; rfl
                    have fl275653 : (fI (F225389 q275620) 3).toInt = p275633.toInt := by rw [← fl275650, he275629]; rfl
                    have fl275654 : γ 2 (γ 14 q275620) = γ 2 q275630 := by rw [ht275640.1]
                    have fl275655 : q275620 = el (γ 14 q225391) (g275580.toInt : Int).toNat := by rw [hx275621, ht271856.1]
                    have hm275661 : q225390 ∈ P225388 := RS_m hT275583 htq225390 (by decide)
                    obtain ⟨q275663, q275664, p275665, p275666, p275667, p275668, p275669, p275670, p275671, p275672, p275673, p275674, p275675, p275676, p275677, p275678, p275679, he275662, hB275706, ht275680, ht275681, ht275682, ht275683, ht275684, ht275685, ht275686, ht275687, ht275688, ht275689, ht275690, ht275691, ht275692, ht275693, ht275694, ht275695, ht275696, ht275697, ht275698, ht275699, ht275700, ht275701, ht275702, ht275703, hB275707⟩ := show rk_10 γ (F275582 q225390) from RS_o hT275583 htq225390
                    refine Gw_callV (As := [.ref q275620]) (gV_ok D I) (ct_222338_SpillForgeModel_behind l hl0 D I γ el P225388 F275582 q225390 q275620 hT275583 htq225390 ht275626) dr_cX17_findLive_74 ⟨wr_10_162, wr_1_14, wr_10_165, by decide, rfl, (Nat.le_of_ble_eq_true rfl), (Nat.le_of_ble_eq_true rfl)⟩ wr_10_164 wr_p_95 hm275661 he275662 rfl (show 0 + 0 ≤ 0 by first | omega | decide) (show 0 + 0 ≤ 0 by first | omega | decide) (Nat.le_of_ble_eq_true rfl) (fun r275659 w275660 dc275656 ds275657 hp275658 => ?_) (fun _ _ _ _ _ z => z.elim)
                    obtain ⟨F275712, rfl, rfl, hT275713, hs275714, hdc, hds, x275708, x275709, x275710, ht275711⟩ := hp275658
                    have he275715 : F275712 q225391 = .inr (18, [.ref q271837, .ref q271838, .int p271839, .int p271840]) := (hs275714 q225391 (rT0 htq225391 (by decide)) (rT1 htq225391 (by decide)) (rT2 htq225391 (by decide))).trans he275591
                    have he275716 : F275712 q271837 = .inr (4, [.int p275601, .ref q275603, .int p275602]) := (hs275714 q271837 (rT0 ht271841 (by decide)) (rT1 ht271841 (by decide)) (rT2 ht271841 (by decide))).trans he275600
                    have he275717 : F275712 q275603 = .inl (I (.object "java/lang/Object"), n275617, .inr (.inr (.inr (.inr f275618)))) := (hs275714 q275603 (rT0 r275609 (by decide)) (rT1 r275609 (by decide)) (rT2 r275609 (by decide))).trans r275611
                    have he275718 : F275712 q275620 = .inr (17, [.ref q275630, .ref q275631, .int p275632, .int p275633]) := (hs275714 q275620 (rT0 ht275626 (by decide)) (rT1 ht275626 (by decide)) (rT2 ht275626 (by decide))).trans he275629
                    have hs275719 : rStr γ [] F225389 F275712 := rStr_tr hs275584 hs275714
                    have kp275720 : F275712 q225390 = F225389 q225390 := (x275710).trans x275588
                    have he275721 : F275712 q225390 = .inr (22, [.ref (γ 9 0), .ref (γ 9 1), .ref (γ 9 2), .ref (γ 9 3), .ref (γ 9 4), .ref (γ 9 5), .ref (γ 9 6), .ref (γ 9 7), .ref (γ 9 8), .int p275665, .int p275666, .int p275667, .int p275668, .int p275669, .int p275670, .ref (γ 9 15), .ref (γ 9 16), .ref (γ 9 17), .ref (γ 9 18), .ref (γ 9 19), .ref (γ 9 20), .ref (γ 9 21), .ref (γ 9 22), .int p275671, .int p275672, .int p275673, .int p275674, .int p275675, .ref q275663, .ref (γ 9 29), .int p275676, .ref (γ 9 31), .int p275677, .int p275678, .int p275679, .ref q275664]) := (x275710).trans he275662
                    change G _ _ _ _ _ _ _ _ _ _ _
                    refine G_widen (cs' := 0) (sl' := 0) (by omega) (by omega) ?_
                    refine G_aload_n 3 dr_cX17_findLive_77 rfl ?_
                    refine G_aload 0 dr_cX17_findLive_78 rfl ?_
                    have fq275722 : fR (F275712 q275620) 1 = q275631 := by rw [he275718]; rfl
                    refine Gp_get 1 hm275628 he275718 dr_cX17_findLive_80 (gk_X12 D I) (Nat.le_of_ble_eq_true rfl) wr_9_223 rfl ?_
                    refine G_iload_n 5 dr_cX17_findLive_83 rfl ?_
                    have fl275723 : F275712 q275631 = F225389 (γ 15 q275620) := by rw [ht275640.2.1]; exact hs275719 q275631 (rT0 ht275636 (by decide)) (rT1 ht275636 (by decide)) (rT2 ht275636 (by decide))
                    refine Gw_callV (As := [.ref q275631, .int p225392]) (gV_ok D I) (ct_221970_SpillForgeModel_back l hl0 D I γ el P225388 F275712 q225390 q275631 p225392 hT275713 htq225390 ht275636 bp225392) dr_cX17_findLive_84 ⟨wr_10_174, wr_1_14, wr_10_177, by decide, rfl, (Nat.le_of_ble_eq_true rfl), (Nat.le_of_ble_eq_true rfl)⟩ wr_10_176 wr_p_96 hm275661 he275721 rfl (show 0 + 0 ≤ 0 by first | omega | decide) (show 0 + 0 ≤ 0 by first | omega | decide) (Nat.le_of_ble_eq_true rfl) (fun r275727 w275728 dc275724 ds275725 hp275726 => ?_) (fun _ _ _ _ _ z => z.elim)
                    obtain ⟨F275733, rfl, rfl, hT275734, hs275735, hdc, hds, x275729, x275730, x275731, ht275732⟩ := hp275726
                    have he275736 : F275733 q225391 = .inr (18, [.ref q271837, .ref q271838, .int p271839, .int p271840]) := (hs275735 q225391 (rT0 htq225391 (by decide)) (rT1 htq225391 (by decide)) (rT2 htq225391 (by decide))).trans he275715
                    have he275737 : F275733 q271837 = .inr (4, [.int p275601, .ref q275603, .int p275602]) := (hs275735 q271837 (rT0 ht271841 (by decide)) (rT1 ht271841 (by decide)) (rT2 ht271841 (by decide))).trans he275716
                    have he275738 : F275733 q275603 = .inl (I (.object "java/lang/Object"), n275617, .inr (.inr (.inr (.inr f275618)))) := (hs275735 q275603 (rT0 r275609 (by decide)) (rT1 r275609 (by decide)) (rT2 r275609 (by decide))).trans he275717
                    have he275739 : F275733 q275620 = .inr (17, [.ref q275630, .ref q275631, .int p275632, .int p275633]) := (hs275735 q275620 (rT0 ht275626 (by decide)) (rT1 ht275626 (by decide)) (rT2 ht275626 (by decide))).trans he275718
                    have hs275740 : rStr γ [] F225389 F275733 := rStr_tr hs275719 hs275735
                    have kp275741 : F275733 q225390 = F225389 q225390 := (x275731).trans kp275720
                    have he275742 : F275733 q225390 = .inr (22, [.ref (γ 9 0), .ref (γ 9 1), .ref (γ 9 2), .ref (γ 9 3), .ref (γ 9 4), .ref (γ 9 5), .ref (γ 9 6), .ref (γ 9 7), .ref (γ 9 8), .int p275665, .int p275666, .int p275667, .int p275668, .int p275669, .int p275670, .ref (γ 9 15), .ref (γ 9 16), .ref (γ 9 17), .ref (γ 9 18), .ref (γ 9 19), .ref (γ 9 20), .ref (γ 9 21), .ref (γ 9 22), .int p275671, .int p275672, .int p275673, .int p275674, .int p275675, .ref q275663, .ref (γ 9 29), .int p275676, .ref (γ 9 31), .int p275677, .int p275678, .int p275679, .ref q275664]) := (x275731).trans he275721
                    change G _ _ _ _ _ _ _ _ _ _ _
                    refine G_widen (cs' := 0) (sl' := 0) (by omega) (by omega) ?_
                    refine G_aload 0 dr_cX17_findLive_87 rfl ?_
                    have fq275743 : fR (F275733 q275620) 0 = q275630 := by rw [he275739]; rfl
                    refine Gp_get 0 hm275628 he275739 dr_cX17_findLive_89 (gk_X12 D I) (Nat.le_of_ble_eq_true rfl) wr_9_220 rfl ?_
                    have hm275744 : q275630 ∈ P225388 := RS_m hT275734 ht275634 (by decide)
                    obtain ⟨⟨p275746, p275747, q275748, he275745, r275749, r275750, r275751, r275753⟩, r275752⟩ := show rk_3 D I γ el F275733 q275630 from RS_o hT275734 ht275634
                    have bp275746 := gB_any p275746
                    have bp275747 : gB p275747 0 1000000 := ⟨by omega, by omega⟩
                    have fq275754 : p275747.toInt = (γ 2 q275630 : Int) := by omega
                    have fq275755 : fI (F275733 q275630) 2 = p275747 := by rw [he275745]; rfl
                    refine Gw_callV (As := []) (gV_ok D I) (cp_7_ArrayList_size l hl0 D I P225388 F275733 q275630 p275746 q275748 p275747 hm275744 he275745 (gB_w bp275747 (by decide) (by decide))) dr_cX17_findLive_92 ⟨wr_10_200, wr_1_18, wr_9_160, by decide, rfl, (Nat.le_of_ble_eq_true rfl), (Nat.le_of_ble_eq_true rfl)⟩ wr_9_158 wr_9_159 hm275744 he275745 rfl (show 0 + 0 ≤ 0 by first | omega | decide) (show 0 + 0 ≤ 0 by first | omega | decide) (Nat.le_of_ble_eq_true rfl) (fun r275759 w275760 dc275756 ds275757 hp275758 => ?_) (fun _ _ _ _ _ z => z.elim)
                    obtain ⟨rfl, rfl, hdc, hds⟩ := hp275758
                    change G _ _ _ _ _ _ _ (.int p275747 :: _) _ _ _
                    refine G_widen (cs' := 0) (sl' := 0) (by omega) (by omega) ?_
                    refine G_iconst 1 dr_cX17_findLive_95 (by decide +kernel) ?_
                    refine G_isub dr_cX17_findLive_96 (G_nam fun z275761 hz275761 => ?_)
                    have ez275761 : z275761.toInt = p275747.toInt - 1 := by rw [gI_sub hz275761 bp275747 (gBl (show Int32.toInt 1 = 1 by decide)) (by decide) (by decide), show Int32.toInt 1 = 1 from by decide]
                    have bz275761 : gB z275761 (-1) 999999 := gB_sub (gI_sub hz275761 bp275747 (gBl (show Int32.toInt 1 = 1 by decide)) (by decide) (by decide)) bp275747 (gBl (show Int32.toInt 1 = 1 by decide)) (by decide) (by decide)
                    refine G_istore (L' := [(6, .int z275761), (5, .ref q275620), (4, .int g275580), (3, .int g275581), (0, .ref q225390), (1, .ref q225391), (2, .int p225392)]) dr_cX17_findLive_97 (Nat.le_of_ble_eq_true rfl) rfl ?_
                    have hlp99_276294 : ∀ (n99_276294 : Nat) (F276287 : Nat → va_E) (g276286 : Int32), gB g276286 (-1) 999999 → RS D I P225388 F276287 γ el → rStr γ [] F225389 F276287 → rLv γ F275582 F276287 → (∀ k : Nat, k < 2048 → rbt (cL (F276287 (γ 9 2))) k = trS γ el F225389 (decide (p225392.toInt = 1)) q275620 (lvM γ F275582) ((((γ 2 (γ 14 q275620) : Nat) : Int) - 1 - g276286.toInt).toNat) k) → ((g276286.toInt : Int) < γ 2 (γ 14 q275620)) → (q275620 = el (γ 14 q225391) (g275580.toInt : Int).toNat) → (F276287 q225390 = F225389 q225390) → (∀ (k : Nat) (e1 : Nat → va_E), tl_RModel_findLive_99 D I γ el P225388 F225389 F275582 p225392 q275620 q225391 g275580 q225390 F276287 g276286 k e1 → tl_RModel_findLive_99 D I γ el P225388 F225389 F275582 p225392 q275620 q225391 g275580 q225390 F275733 z275761 k e1) → ((g276286.toInt : Int) - (-2)).toNat < n99_276294 → G (gV D I) l (gRm 4 85 0 0) (gMA (gV D I) (pt_225394_SpillForgeModel_findLive D I γ el P225388 F225389 q225390 q225391 p225392) gNA 0 0) ky_225394_SpillForgeModel_findLive 99 [(6, .int g276286), (5, .ref q275620), (4, .int g275580), (3, .int g275581), (0, .ref q225390), (1, .ref q225391), (2, .int p225392)] [] (va_pl P225388 F276287) 0 0 := by
                      intro n99_276294
                      induction n99_276294 with
                      | zero => intro F276287 g276286 bg276286 hT276288 hs276289 x276290 x276291 x276292 x276293 x276294 kt99_276295 hm99_276294; exact absurd hm99_276294 (Nat.not_lt_zero _)
                      | succ n99_276294 ih99_276294 =>
                        intro F276287 g276286 bg276286 hT276288 hs276289 x276290 x276291 x276292 x276293 x276294 kt99_276295 hm99_276294
                        have hs276296 : rStr γ [] F275733 F276287 := fun b h0 hb hw => (hs276289 b h0 hb hw).trans (hs275740 b h0 hb hw).symm
                        have he276297 : F276287 q225391 = .inr (18, [.ref q271837, .ref q271838, .int p271839, .int p271840]) := (hs276296 q225391 (rT0 htq225391 (by decide)) (rT1 htq225391 (by decide)) (rT2 htq225391 (by decide))).trans he275736
                        have he276298 : F276287 q271837 = .inr (4, [.int p275601, .ref q275603, .int p275602]) := (hs276296 q271837 (rT0 ht271841 (by decide)) (rT1 ht271841 (by decide)) (rT2 ht271841 (by decide))).trans he275737
                        have he276299 : F276287 q275603 = .inl (I (.object "java/lang/Object"), n275617, .inr (.inr (.inr (.inr f275618)))) := (hs276296 q275603 (rT0 r275609 (by decide)) (rT1 r275609 (by decide)) (rT2 r275609 (by decide))).trans he275738
                        have he276300 : F276287 q275620 = .inr (17, [.ref q275630, .ref q275631, .int p275632, .int p275633]) := (hs276296 q275620 (rT0 ht275626 (by decide)) (rT1 ht275626 (by decide)) (rT2 ht275626 (by decide))).trans he275739
                        have he276301 : F276287 q275630 = .inr (4, [.int p275746, .ref q275748, .int p275747]) := (hs276296 q275630 (rT0 ht275634 (by decide)) (rT1 ht275634 (by decide)) (rT2 ht275634 (by decide))).trans he275745
                        have hs276302 : rStr γ [] F225389 F276287 := rStr_tr hs275740 hs276296
                        refine G_iload 0 dr_cX17_findLive_99 rfl ?_
                        refine G_if_lt 128 dr_cX17_findLive_101 (by decide +kernel) (fun hc276303 => ?_) (fun hc276303 => ?_)
                        · have r276304 : g276286.toInt < 0 := gj_lt hc276303 (show Int32.toInt 0 = 0 by decide)
                          have bg276286' : gB g276286 (-1) (-1) := ⟨by omega, by omega⟩
                          have hx276305 : tl_RModel_findLive_99 D I γ el P225388 F225389 F275582 p225392 q275620 q225391 g275580 q225390 F275733 z275761 128 F276287 := kt99_276295 128 F276287 (fun R c1 c2 => c1 F276287 g276286 bg276286 hT276288 hs276289 x276290 x276291 x276292 x276293 x276294 r276304)
                          refine G_iconst 0 dr_cX17_findLive_128 (by decide +kernel) ?_
                          refine G_istore (L' := [(6, .int 0), (5, .ref q275620), (4, .int g275580), (3, .int g275581), (0, .ref q225390), (1, .ref q225391), (2, .int p225392)]) dr_cX17_findLive_129 (Nat.le_of_ble_eq_true rfl) rfl ?_
                          have hlp131_276509 : ∀ (n131_276509 : Nat) (F276501 : Nat → va_E) (g276499 : Int32) (g276500 : Int32), gB g276499 0 32 → gB g276500 0 1 → RS D I P225388 F276501 γ el → rStr γ [] F225389 F276501 → (∀ i : Nat, i < 40 → (i : Int) ≠ g275580.toInt → F276501 (γ 10 i) = F275582 (γ 10 i)) → (∀ k : Nat, k < 2048 → rbt (cL (F276501 (γ 9 2))) k = trS γ el F225389 (decide (p225392.toInt = 1)) q275620 (lvM γ F275582) (γ 2 (γ 14 q275620)) k) → (∀ k : Nat, k < 2048 → lvS γ F276501 (g275580.toInt : Int).toNat k = if (k : Int) < 64 * g276499.toInt then trS γ el F225389 (decide (p225392.toInt = 1)) q275620 (lvM γ F275582) (γ 2 (γ 14 q275620)) k else lvS γ F275582 (g275580.toInt : Int).toNat k) → (lvT γ F274336 + (g276500.toInt : Int).toNat ≤ lvT γ F276501) → (q275620 = el (γ 14 q225391) (g275580.toInt : Int).toNat) → (F276501 q225390 = F225389 q225390) → (∀ (k : Nat) (e1 : Int32) (e2 : Nat → va_E), tl_RModel_findLive_131 D I γ el P225388 F225389 g275580 F275582 p225392 q275620 F274336 q225391 q225390 F276501 g276499 g276500 k e1 e2 → tl_RModel_findLive_131 D I γ el P225388 F225389 g275580 F275582 p225392 q275620 F274336 q225391 q225390 F276287 (0 : Int32) g275581 k e1 e2) → ((33 : Int) - g276499.toInt).toNat < n131_276509 → G (gV D I) l (gRm 4 85 0 0) (gMA (gV D I) (pt_225394_SpillForgeModel_findLive D I γ el P225388 F225389 q225390 q225391 p225392) gNA 0 0) ky_225394_SpillForgeModel_findLive 131 [(6, .int g276499), (5, .ref q275620), (4, .int g275580), (3, .int g276500), (0, .ref q225390), (1, .ref q225391), (2, .int p225392)] [] (va_pl P225388 F276501) 0 0 := by
                            intro n131_276509
                            induction n131_276509 with
                            | zero => intro F276501 g276499 g276500 bg276499 bg276500 hT276502 hs276503 x276504 x276505 x276506 x276507 x276508 x276509 kt131_276510 hm131_276509; exact absurd hm131_276509 (Nat.not_lt_zero _)
                            | succ n131_276509 ih131_276509 =>
                              intro F276501 g276499 g276500 bg276499 bg276500 hT276502 hs276503 x276504 x276505 x276506 x276507 x276508 x276509 kt131_276510 hm131_276509
                              have hs276511 : rStr γ [] F276287 F276501 := fun b h0 hb hw => (hs276503 b h0 hb hw).trans (hs276289 b h0 hb hw).symm
                              have he276512 : F276501 q225391 = .inr (18, [.ref q271837, .ref q271838, .int p271839, .int p271840]) := (hs276511 q225391 (rT0 htq225391 (by decide)) (rT1 htq225391 (by decide)) (rT2 htq225391 (by decide))).trans he276297
                              have he276513 : F276501 q271837 = .inr (4, [.int p275601, .ref q275603, .int p275602]) := (hs276511 q271837 (rT0 ht271841 (by decide)) (rT1 ht271841 (by decide)) (rT2 ht271841 (by decide))).trans he276298
                              have he276514 : F276501 q275603 = .inl (I (.object "java/lang/Object"), n275617, .inr (.inr (.inr (.inr f275618)))) := (hs276511 q275603 (rT0 r275609 (by decide)) (rT1 r275609 (by decide)) (rT2 r275609 (by decide))).trans he276299
                              have he276515 : F276501 q275620 = .inr (17, [.ref q275630, .ref q275631, .int p275632, .int p275633]) := (hs276511 q275620 (rT0 ht275626 (by decide)) (rT1 ht275626 (by decide)) (rT2 ht275626 (by decide))).trans he276300
                              have hs276516 : rStr γ [] F225389 F276501 := rStr_tr hs276289 hs276511
                              refine G_iload 0 dr_cX17_findLive_131 rfl ?_
                              refine G_bipush 32 dr_cX17_findLive_133 (by decide +kernel) ?_
                              refine G_icmp_ge 192 dr_cX17_findLive_135 (by decide +kernel) (fun hc276517 => ?_) (fun hc276517 => ?_)
                              · have r276518 : 32 ≤ g276499.toInt := gj_leL hc276517 (show Int32.toInt 32 = 32 by decide)
                                have bg276499' : gB g276499 32 32 := ⟨by omega, by omega⟩
                                have hx276519 : tl_RModel_findLive_131 D I γ el P225388 F225389 g275580 F275582 p225392 q275620 F274336 q225391 q225390 F276287 (0 : Int32) g275581 192 g276500 F276501 := kt131_276510 192 g276500 F276501 (fun R c1 c2 c3 c4 => c1 F276501 g276499 g276500 bg276499 bg276500 hT276502 hs276503 x276504 x276505 x276506 x276507 x276508 x276509 r276518)
                                obtain ⟨z276520, hz276520⟩ : ∃ z : Int32, z = g275580 + Int32.ofInt (-1) := ⟨_, rfl⟩
                                have ez276520 : z276520.toInt = g275580.toInt + (-1) := gI_inc hz276520 (by decide) bg275580' (by decide) (by decide)
                                have bz276520 : gB z276520 (-1) 999998 := ⟨by omega, by omega⟩
                                refine G_iinc (L' := [(4, .int z276520), (6, .int g276499), (5, .ref q275620), (3, .int g276500), (0, .ref q225390), (1, .ref q225391), (2, .int p225392)]) z276520 2 dr_cX17_findLive_192 rfl hz276520.symm (Nat.le_of_ble_eq_true rfl) rfl ?_
                                refine G_goto 58 dr_cX17_findLive_195 (by decide +kernel) ?_
                                refine G_lv (L' := [(4, .int z276520), (3, .int g276500), (0, .ref q225390), (1, .ref q225391), (2, .int p225392)]) [0, 3, 4, 5, 6] rfl ?_
                                exact ih58_275588 F276501 z276520 g276500 (gB_w bz276520 (by decide) (by decide)) bg276500 hT276502 hs276503 (rJv_s x275585 (i0 := g275580.toInt.toNat) (by omega) (by omega) (fun i hi hne => x276504 i hi (by omega)) (fun k hk => by have q := x276506 k hk; rw [if_pos (by omega)] at q; rw [q, ← x276508])) (by have q := x276507; omega) (by omega) x276509 (fun k e1 e2 ht => kt58_275589 k e1 e2 (fun R c1 c2 => c2 F275582 g275580 g275581 q271837 q275620 p275602 F275712 q275631 F275733 q275630 p275747 z275761 F276287 g276500 F276501 z276520 k e1 e2 bg275580 bg275581 hT275583 hs275584 x275585 x275586 x275587 x275588 r275598 fq275625 hx275621 fq275643 ht275649 hT275713 hs275714 x275708 x275709 x275710 ht275711 fq275722 hT275734 hs275735 x275729 x275730 x275731 ht275732 fq275743 fq275754 fq275755 ez275761 hx276305 hx276519 ez276520 (ht R c1 c2))) (by omega)
                              · have r276521 : g276499.toInt < 32 := gj_nleL hc276517 (show Int32.toInt 32 = 32 by decide)
                                have bg276499' : gB g276499 0 31 := ⟨by omega, by omega⟩
                                refine G_iload_n 3 dr_cX17_findLive_138 rfl ?_
                                refine G_if_ne 163 dr_cX17_findLive_139 (by decide +kernel) (fun hc276522 => ?_) (fun hc276522 => ?_)
                                · have r276523 : g276500.toInt ≠ 0 := gj_neq hc276522 (show Int32.toInt 0 = 0 by decide)
                                  have bg276500' : gB g276500 1 1 := ⟨by omega, by omega⟩
                                  refine G_iconst 1 dr_cX17_findLive_163 (by decide +kernel) ?_
                                  refine G_goto 168 dr_cX17_findLive_164 (by decide +kernel) ?_
                                  refine G_istore_n (L' := [(3, .int 1), (6, .int g276499), (5, .ref q275620), (4, .int g275580), (0, .ref q225390), (1, .ref q225391), (2, .int p225392)]) dr_cX17_findLive_168 (Nat.le_of_ble_eq_true rfl) rfl ?_
                                  refine G_aload_n 4 dr_cX17_findLive_169 rfl ?_
                                  have hm276524 : q225390 ∈ P225388 := RS_m hT276502 htq225390 (by decide)
                                  obtain ⟨q276526, q276527, p276528, p276529, p276530, p276531, p276532, p276533, p276534, p276535, p276536, p276537, p276538, p276539, p276540, p276541, p276542, he276525, hB276569, ht276543, ht276544, ht276545, ht276546, ht276547, ht276548, ht276549, ht276550, ht276551, ht276552, ht276553, ht276554, ht276555, ht276556, ht276557, ht276558, ht276559, ht276560, ht276561, ht276562, ht276563, ht276564, ht276565, ht276566, hB276570⟩ := show rk_10 γ (F276501 q225390) from RS_o hT276502 htq225390
                                  have fq276571 : fR (F276501 q225390) 0 = (γ 9 0) := by rw [he276525]; rfl
                                  refine Gp_get 0 hm276524 he276525 dr_cX17_findLive_170 (gk_X17 D I) (Nat.le_of_ble_eq_true rfl) wr_7_74 rfl ?_
                                  refine G_iload 3 dr_cX17_findLive_173 rfl ?_
                                  have hm276572 : (γ 9 0) ∈ P225388 := RS_m hT276502 ht276545 (by decide)
                                  obtain ⟨f276574, he276573, hg276575⟩ := show rk_12 I γ (F276501 (γ 9 0)) from RS_o hT276502 ht276545
                                  obtain ⟨q276576, hx276578⟩ : ∃ x, x = γ 10 g275580.toInt.toNat := ⟨_, rfl⟩
                                  have ht276577 : rKd γ q276576 11 := by rw [hx276578]; exact (hg276575 _ (show g275580.toInt.toNat < 40 by omega)).2.1
                                  refine Gp_aald 5 hm276572 he276573 dr_cX17_findLive_175 rfl rfl (gB_inr (by omega) (by omega)) ?_
                                  rw [show f276574 g275580.toNatClampNeg = some q276576 from (hg276575 _ (show g275580.toInt.toNat < 40 by omega)).1.trans (by rw [hx276578])]
                                  change G _ _ _ _ _ _ _ (.ref q276576 :: _) _ _ _
                                  refine G_iload 1 dr_cX17_findLive_176 rfl ?_
                                  refine G_aload_n 4 dr_cX17_findLive_178 rfl ?_
                                  have fq276579 : fR (F276501 q225390) 2 = (γ 9 2) := by rw [he276525]; rfl
                                  refine Gp_get 2 hm276524 he276525 dr_cX17_findLive_179 (gk_X17 D I) (Nat.le_of_ble_eq_true rfl) wr_7_76 rfl ?_
                                  refine G_iload 1 dr_cX17_findLive_182 rfl ?_
                                  have hm276580 : (γ 9 2) ∈ P225388 := RS_m hT276502 ht276547 (by decide)
                                  obtain ⟨f276582, he276581, wf276582⟩ := show rk_35 I (F276501 (γ 9 2)) from RS_o hT276502 ht276547
                                  refine Gp_lald 2 hm276580 he276581 dr_cX17_findLive_184 rfl (gB_in bg276499' (by decide) (by decide)) (G_namL fun u276583 hu276583 => ?_)
                                  have qu276583 : lb_Q u276583 (2000 - 64 * g276499.toInt) := lb_Wld hu276583 wf276582 (by omega) (by omega) (lb_Mod0 (by omega) (by omega))
                                  have hm276584 : q276576 ∈ P225388 := RS_m hT276502 ht276577 (by decide)
                                  obtain ⟨f276586, he276585, wf276586⟩ := show rk_11 I (F276501 q276576) from RS_o hT276502 ht276577
                                  refine Gp_last 2 hm276584 he276585 dr_cX17_findLive_185 rfl (gB_in bg276499' (by decide) (by decide)) (fun F276587 e276588 n276589 => ?_)
                                  obtain ⟨f276590, hf276590⟩ : ∃ z, z = vp_updL f276586 g276499.toNatClampNeg u276583 := ⟨_, rfl⟩
                                  rw [← hf276590] at e276588
                                  have he276591 : F276587 q225391 = .inr (18, [.ref q271837, .ref q271838, .int p271839, .int p271840]) := (n276589 q225391 (rn_oa he276512 he276585)).trans he276512
                                  have he276592 : F276587 q271837 = .inr (4, [.int p275601, .ref q275603, .int p275602]) := (n276589 q271837 (rn_oa he276513 he276585)).trans he276513
                                  have he276593 : F276587 q275603 = .inl (I (.object "java/lang/Object"), n275617, .inr (.inr (.inr (.inr f275618)))) := (n276589 q275603 (rn_ref_long he276514 he276585)).trans he276514
                                  have he276594 : F276587 q275620 = .inr (17, [.ref q275630, .ref q275631, .int p275632, .int p275633]) := (n276589 q275620 (rn_oa he276515 he276585)).trans he276515
                                  have he276595 : F276587 q225390 = .inr (22, [.ref (γ 9 0), .ref (γ 9 1), .ref (γ 9 2), .ref (γ 9 3), .ref (γ 9 4), .ref (γ 9 5), .ref (γ 9 6), .ref (γ 9 7), .ref (γ 9 8), .int p276528, .int p276529, .int p276530, .int p276531, .int p276532, .int p276533, .ref (γ 9 15), .ref (γ 9 16), .ref (γ 9 17), .ref (γ 9 18), .ref (γ 9 19), .ref (γ 9 20), .ref (γ 9 21), .ref (γ 9 22), .int p276534, .int p276535, .int p276536, .int p276537, .int p276538, .ref q276526, .ref (γ 9 29), .int p276539, .ref (γ 9 31), .int p276540, .int p276541, .int p276542, .ref q276527]) := (n276589 q225390 (rn_oa he276525 he276585)).trans he276525
                                  have he276596 : F276587 (γ 9 0) = .inl (I (.array .long), 40, .inr (.inr (.inr (.inr f276574)))) := (n276589 (γ 9 0) (rn_ref_long he276573 he276585)).trans he276573
                                  have he276597 : F276587 (γ 9 2) = .inl (I .long, 32, .inr (.inl f276582)) := (n276589 (γ 9 2) (rn_ty ht276547 ht276577 (by decide))).trans he276581
                                  have he276598 : F276587 q276576 = .inl (I .long, 32, .inr (.inl f276590)) := e276588
                                  have hs276599 : rStr γ [] F225389 F276587 := rStr_put hs276503 n276589 ht276577 (by decide)
                                  have kp276600 : F276587 q225390 = F225389 q225390 := (n276589 q225390 (rn_ty htq225390 ht276577 (by decide))).trans x276509
                                  have wf276590 : lb_W f276590 (32) (32) (2000) := lb_Wst hf276590 wf276586 (by omega) (lb_Mod0 (by omega) (by omega)) qu276583
                                  obtain ⟨z276601, hz276601⟩ : ∃ z : Int32, z = g276499 + Int32.ofInt 1 := ⟨_, rfl⟩
                                  have ez276601 : z276601.toInt = g276499.toInt + 1 := gI_inc hz276601 (by decide) bg276499' (by decide) (by decide)
                                  have bz276601 : gB z276601 1 32 := ⟨by omega, by omega⟩
                                  refine G_iinc (L' := [(6, .int z276601), (3, .int 1), (5, .ref q275620), (4, .int g275580), (0, .ref q225390), (1, .ref q225391), (2, .int p225392)]) z276601 1 dr_cX17_findLive_186 rfl hz276601.symm (Nat.le_of_ble_eq_true rfl) rfl ?_
                                  refine G_goto 131 dr_cX17_findLive_189 (by decide +kernel) ?_
                                  have hT276602 : RS D I P225388 F276587 γ el := RS_set hT276502 n276589 ht276577 (by decide) ⟨f276590, he276598, wf276590⟩
                                  refine G_lv (L' := [(6, .int z276601), (5, .ref q275620), (4, .int g275580), (3, .int 1), (0, .ref q225390), (1, .ref q225391), (2, .int p225392)]) [0, 2, 3, 1, 4, 5, 6] rfl ?_
                                  exact ih131_276509 F276587 z276601 1 (gB_w bz276601 (by decide) (by decide)) (gB_w (gBl (show Int32.toInt 1 = 1 by decide)) (by decide) (by decide)) hT276602 hs276599 (fun i hi hne => (n276589 _ (by rw [hx276578]; exact RS_lne hT276602 ht276545 hi (by omega) (by omega))).trans (x276504 i hi hne)) (fun k hk => by rw [n276589 (γ 9 2) (rn_ty ht276547 ht276577 (by decide))]; exact x276505 k hk) (fun k hk => by unfold lvS; rw [← hx276578, cL_of he276598]; exact cp_st hu276583 hf276590 bg276499'.1 ez276601 (fun k hk => by have q := x276506 k hk; unfold lvS at q; rw [← hx276578, cL_of he276585] at q; exact q) (fun k hk => by have q := x276505 k hk; rw [cL_of he276581] at q; exact q) k hk) (by have gz : (g276499.toNatClampNeg : Int) = g276499.toInt := g_nn bg276499'.1; have hU := lvT_u (γ := γ) (F := F276501) (i := g275580.toInt.toNat) (z := g276499.toNatClampNeg) (by omega) (cl32 bg276499'.1 (by omega)) (fun i hi hne => n276589 _ (by rw [hx276578]; exact RS_lne hT276602 ht276545 hi (by omega) hne)) (by rw [← hx276578]; exact cL_of he276585) (by rw [← hx276578]; exact cL_of he276598) hf276590; have hS := rpop_sub (lv_w (f := f276586) (g := f276582) (A := trS γ el F225389 (decide (p225392.toInt = 1)) q275620 (lvM γ F275582) (γ 2 (γ 14 q275620))) (z := g276499.toNatClampNeg) (cl32 bg276499'.1 (by omega)) (fun k' h1 h2 h3 => by have q := x276506 k' h1; unfold lvS at q; rw [← hx276578, cL_of he276585, if_neg (by omega)] at q; rw [q] at h3; rw [x276508]; exact x275585 _ (by omega) k' ((lvM_e (by omega) h1).trans (by unfold lvS; rw [← hx276578]; exact h3))) (fun k hk => by have q := x276505 k hk; rw [cL_of he276581] at q; exact q)); rw [← hu276583] at hS; have q := x276507; have qb0 : Int32.toInt 0 = 0 := (by decide); have qb1 : Int32.toInt 1 = 1 := (by decide); omega) x276508 kp276600 (fun k e1 e2 ht => kt131_276510 k e1 e2 (fun R c1 c2 c3 c4 => c2 F276501 g276499 g276500 q276576 f276582 u276583 f276586 f276590 F276587 z276601 k e1 e2 bg276499 bg276500 hT276502 hs276503 x276504 x276505 x276506 x276507 x276508 x276509 r276521 r276523 fq276571 hx276578 fq276579 he276581 hu276583 he276585 hf276590 n276589 he276598 ez276601 (ht R c1 c2 c3 c4))) (by have qa0 : Int32.toInt 1 = 1 := (by decide); omega)
                                · have r276603 : g276500.toInt = 0 := gj_eq hc276522 (show Int32.toInt 0 = 0 by decide)
                                  have bg276500' : gB g276500 0 0 := ⟨by omega, by omega⟩
                                  refine G_aload_n 4 dr_cX17_findLive_142 rfl ?_
                                  have hm276604 : q225390 ∈ P225388 := RS_m hT276502 htq225390 (by decide)
                                  obtain ⟨q276606, q276607, p276608, p276609, p276610, p276611, p276612, p276613, p276614, p276615, p276616, p276617, p276618, p276619, p276620, p276621, p276622, he276605, hB276649, ht276623, ht276624, ht276625, ht276626, ht276627, ht276628, ht276629, ht276630, ht276631, ht276632, ht276633, ht276634, ht276635, ht276636, ht276637, ht276638, ht276639, ht276640, ht276641, ht276642, ht276643, ht276644, ht276645, ht276646, hB276650⟩ := show rk_10 γ (F276501 q225390) from RS_o hT276502 htq225390
                                  have fq276651 : fR (F276501 q225390) 0 = (γ 9 0) := by rw [he276605]; rfl
                                  refine Gp_get 0 hm276604 he276605 dr_cX17_findLive_143 (gk_X17 D I) (Nat.le_of_ble_eq_true rfl) wr_7_74 rfl ?_
                                  refine G_iload 2 dr_cX17_findLive_146 rfl ?_
                                  have hm276652 : (γ 9 0) ∈ P225388 := RS_m hT276502 ht276625 (by decide)
                                  obtain ⟨f276654, he276653, hg276655⟩ := show rk_12 I γ (F276501 (γ 9 0)) from RS_o hT276502 ht276625
                                  obtain ⟨q276656, hx276658⟩ : ∃ x, x = γ 10 g275580.toInt.toNat := ⟨_, rfl⟩
                                  have ht276657 : rKd γ q276656 11 := by rw [hx276658]; exact (hg276655 _ (show g275580.toInt.toNat < 40 by omega)).2.1
                                  refine Gp_aald 5 hm276652 he276653 dr_cX17_findLive_148 rfl rfl (gB_inr (by omega) (by omega)) ?_
                                  rw [show f276654 g275580.toNatClampNeg = some q276656 from (hg276655 _ (show g275580.toInt.toNat < 40 by omega)).1.trans (by rw [hx276658])]
                                  change G _ _ _ _ _ _ _ (.ref q276656 :: _) _ _ _
                                  refine G_iload 0 dr_cX17_findLive_149 rfl ?_
                                  have hm276659 : q276656 ∈ P225388 := RS_m hT276502 ht276657 (by decide)
                                  obtain ⟨f276661, he276660, wf276661⟩ := show rk_11 I (F276501 q276656) from RS_o hT276502 ht276657
                                  refine Gp_lald 2 hm276659 he276660 dr_cX17_findLive_151 rfl (gB_in bg276499' (by decide) (by decide)) (G_namL fun u276662 hu276662 => ?_)
                                  have qu276662 : lb_Q u276662 (2000 - 64 * g276499.toInt) := lb_Wld hu276662 wf276661 (by omega) (by omega) (lb_Mod0 (by omega) (by omega))
                                  refine G_aload_n 4 dr_cX17_findLive_152 rfl ?_
                                  have fq276663 : fR (F276501 q225390) 2 = (γ 9 2) := by rw [he276605]; rfl
                                  refine Gp_get 2 hm276604 he276605 dr_cX17_findLive_153 (gk_X17 D I) (Nat.le_of_ble_eq_true rfl) wr_7_76 rfl ?_
                                  refine G_iload 0 dr_cX17_findLive_156 rfl ?_
                                  have hm276664 : (γ 9 2) ∈ P225388 := RS_m hT276502 ht276627 (by decide)
                                  obtain ⟨f276666, he276665, wf276666⟩ := show rk_35 I (F276501 (γ 9 2)) from RS_o hT276502 ht276627
                                  refine Gp_lald 2 hm276664 he276665 dr_cX17_findLive_158 rfl (gB_in bg276499' (by decide) (by decide)) (G_namL fun u276667 hu276667 => ?_)
                                  have qu276667 : lb_Q u276667 (2000 - 64 * g276499.toInt) := lb_Wld hu276667 wf276666 (by omega) (by omega) (lb_Mod0 (by omega) (by omega))
                                  refine G_lcmp dr_cX17_findLive_159 (G_nam fun z276668 hz276668 => ?_)
                                  have bz276668 : gB z276668 (-1) 1 := gB_cmp hz276668
                                  refine G_if_eq 167 dr_cX17_findLive_160 (by decide +kernel) (fun hc276669 => ?_) (fun hc276669 => ?_)
                                  · have r276670 : z276668.toInt = 0 := gj_eq hc276669 (show Int32.toInt 0 = 0 by decide)
                                    have bz276668' : gB z276668 0 0 := ⟨by omega, by omega⟩
                                    have lhc276669 := gC_cmpE hz276668 hc276669
                                    refine G_iconst 0 dr_cX17_findLive_167 (by decide +kernel) ?_
                                    refine G_istore_n (L' := [(3, .int 0), (6, .int g276499), (5, .ref q275620), (4, .int g275580), (0, .ref q225390), (1, .ref q225391), (2, .int p225392)]) dr_cX17_findLive_168 (Nat.le_of_ble_eq_true rfl) rfl ?_
                                    refine G_aload_n 4 dr_cX17_findLive_169 rfl ?_
                                    refine Gp_get 0 hm276604 he276605 dr_cX17_findLive_170 (gk_X17 D I) (Nat.le_of_ble_eq_true rfl) wr_7_74 rfl ?_
                                    refine G_iload 3 dr_cX17_findLive_173 rfl ?_
                                    refine Gp_aald 5 hm276652 he276653 dr_cX17_findLive_175 rfl rfl (gB_inr (by omega) (by omega)) ?_
                                    rw [show f276654 g275580.toNatClampNeg = some q276656 from (hg276655 _ (show g275580.toInt.toNat < 40 by omega)).1.trans (by rw [hx276658])]
                                    change G _ _ _ _ _ _ _ (.ref q276656 :: _) _ _ _
                                    refine G_iload 1 dr_cX17_findLive_176 rfl ?_
                                    refine G_aload_n 4 dr_cX17_findLive_178 rfl ?_
                                    refine Gp_get 2 hm276604 he276605 dr_cX17_findLive_179 (gk_X17 D I) (Nat.le_of_ble_eq_true rfl) wr_7_76 rfl ?_
                                    refine G_iload 1 dr_cX17_findLive_182 rfl ?_
                                    refine Gp_lald 2 hm276664 he276665 dr_cX17_findLive_184 rfl (gB_in bg276499' (by decide) (by decide)) (G_eql (y := u276667) hu276667.symm ?_)
                                    refine Gp_last 2 hm276659 he276660 dr_cX17_findLive_185 rfl (gB_in bg276499' (by decide) (by decide)) (fun F276671 e276672 n276673 => ?_)
                                    obtain ⟨f276674, hf276674⟩ : ∃ z, z = vp_updL f276661 g276499.toNatClampNeg u276667 := ⟨_, rfl⟩
                                    rw [← hf276674] at e276672
                                    have he276675 : F276671 q225391 = .inr (18, [.ref q271837, .ref q271838, .int p271839, .int p271840]) := (n276673 q225391 (rn_oa he276512 he276660)).trans he276512
                                    have he276676 : F276671 q271837 = .inr (4, [.int p275601, .ref q275603, .int p275602]) := (n276673 q271837 (rn_oa he276513 he276660)).trans he276513
                                    have he276677 : F276671 q275603 = .inl (I (.object "java/lang/Object"), n275617, .inr (.inr (.inr (.inr f275618)))) := (n276673 q275603 (rn_ref_long he276514 he276660)).trans he276514
                                    have he276678 : F276671 q275620 = .inr (17, [.ref q275630, .ref q275631, .int p275632, .int p275633]) := (n276673 q275620 (rn_oa he276515 he276660)).trans he276515
                                    have he276679 : F276671 q225390 = .inr (22, [.ref (γ 9 0), .ref (γ 9 1), .ref (γ 9 2), .ref (γ 9 3), .ref (γ 9 4), .ref (γ 9 5), .ref (γ 9 6), .ref (γ 9 7), .ref (γ 9 8), .int p276608, .int p276609, .int p276610, .int p276611, .int p276612, .int p276613, .ref (γ 9 15), .ref (γ 9 16), .ref (γ 9 17), .ref (γ 9 18), .ref (γ 9 19), .ref (γ 9 20), .ref (γ 9 21), .ref (γ 9 22), .int p276614, .int p276615, .int p276616, .int p276617, .int p276618, .ref q276606, .ref (γ 9 29), .int p276619, .ref (γ 9 31), .int p276620, .int p276621, .int p276622, .ref q276607]) := (n276673 q225390 (rn_oa he276605 he276660)).trans he276605
                                    have he276680 : F276671 (γ 9 0) = .inl (I (.array .long), 40, .inr (.inr (.inr (.inr f276654)))) := (n276673 (γ 9 0) (rn_ref_long he276653 he276660)).trans he276653
                                    have he276681 : F276671 (γ 9 2) = .inl (I .long, 32, .inr (.inl f276666)) := (n276673 (γ 9 2) (rn_ty ht276627 ht276657 (by decide))).trans he276665
                                    have he276682 : F276671 q276656 = .inl (I .long, 32, .inr (.inl f276674)) := e276672
                                    have hs276683 : rStr γ [] F225389 F276671 := rStr_put hs276503 n276673 ht276657 (by decide)
                                    have kp276684 : F276671 q225390 = F225389 q225390 := (n276673 q225390 (rn_ty htq225390 ht276657 (by decide))).trans x276509
                                    have wf276674 : lb_W f276674 (32) (32) (2000) := lb_Wst hf276674 wf276661 (by omega) (lb_Mod0 (by omega) (by omega)) qu276667
                                    obtain ⟨z276685, hz276685⟩ : ∃ z : Int32, z = g276499 + Int32.ofInt 1 := ⟨_, rfl⟩
                                    have ez276685 : z276685.toInt = g276499.toInt + 1 := gI_inc hz276685 (by decide) bg276499' (by decide) (by decide)
                                    have bz276685 : gB z276685 1 32 := ⟨by omega, by omega⟩
                                    refine G_iinc (L' := [(6, .int z276685), (3, .int 0), (5, .ref q275620), (4, .int g275580), (0, .ref q225390), (1, .ref q225391), (2, .int p225392)]) z276685 1 dr_cX17_findLive_186 rfl hz276685.symm (Nat.le_of_ble_eq_true rfl) rfl ?_
                                    refine G_goto 131 dr_cX17_findLive_189 (by decide +kernel) ?_
                                    have hT276686 : RS D I P225388 F276671 γ el := RS_set hT276502 n276673 ht276657 (by decide) ⟨f276674, he276682, wf276674⟩
                                    refine G_lv (L' := [(6, .int z276685), (5, .ref q275620), (4, .int g275580), (3, .int 0), (0, .ref q225390), (1, .ref q225391), (2, .int p225392)]) [0, 2, 3, 1, 4, 5, 6] rfl ?_
                                    exact ih131_276509 F276671 z276685 0 (gB_w bz276685 (by decide) (by decide)) (gB_w (gBl (show Int32.toInt 0 = 0 by decide)) (by decide) (by decide)) hT276686 hs276683 (fun i hi hne => (n276673 _ (by rw [hx276658]; exact RS_lne hT276686 ht276625 hi (by omega) (by omega))).trans (x276504 i hi hne)) (fun k hk => by rw [n276673 (γ 9 2) (rn_ty ht276627 ht276657 (by decide))]; exact x276505 k hk) (fun k hk => by unfold lvS; rw [← hx276658, cL_of he276682]; exact cp_st hu276667 hf276674 bg276499'.1 ez276685 (fun k hk => by have q := x276506 k hk; unfold lvS at q; rw [← hx276658, cL_of he276660] at q; exact q) (fun k hk => by have q := x276505 k hk; rw [cL_of he276665] at q; exact q) k hk) (by have gz : (g276499.toNatClampNeg : Int) = g276499.toInt := g_nn bg276499'.1; have hU := lvT_u (γ := γ) (F := F276501) (i := g275580.toInt.toNat) (z := g276499.toNatClampNeg) (by omega) (cl32 bg276499'.1 (by omega)) (fun i hi hne => n276673 _ (by rw [hx276658]; exact RS_lne hT276686 ht276625 hi (by omega) hne)) (by rw [← hx276658]; exact cL_of he276660) (by rw [← hx276658]; exact cL_of he276682) hf276674; have hS := rpop_sub (lv_w (f := f276661) (g := f276666) (A := trS γ el F225389 (decide (p225392.toInt = 1)) q275620 (lvM γ F275582) (γ 2 (γ 14 q275620))) (z := g276499.toNatClampNeg) (cl32 bg276499'.1 (by omega)) (fun k' h1 h2 h3 => by have q := x276506 k' h1; unfold lvS at q; rw [← hx276658, cL_of he276660, if_neg (by omega)] at q; rw [q] at h3; rw [x276508]; exact x275585 _ (by omega) k' ((lvM_e (by omega) h1).trans (by unfold lvS; rw [← hx276658]; exact h3))) (fun k hk => by have q := x276505 k hk; rw [cL_of he276665] at q; exact q)); rw [← hu276667] at hS; have q := x276507; have qb0 : Int32.toInt 0 = 0 := (by decide); have qb1 : Int32.toInt 1 = 1 := (by decide); omega) x276508 kp276684 (fun k e1 e2 ht => kt131_276510 k e1 e2 (fun R c1 c2 c3 c4 => c3 F276501 g276499 g276500 q276656 f276661 u276662 f276666 u276667 f276674 F276671 z276685 k e1 e2 bg276499 bg276500 hT276502 hs276503 x276504 x276505 x276506 x276507 x276508 x276509 r276521 r276603 fq276651 hx276658 he276660 hu276662 fq276663 he276665 hu276667 lhc276669 hf276674 n276673 he276682 ez276685 (ht R c1 c2 c3 c4))) (by have qa0 : Int32.toInt 0 = 0 := (by decide); omega)
                                  · have r276687 : z276668.toInt ≠ 0 := gj_neq hc276669 (show Int32.toInt 0 = 0 by decide)
                                    have lhc276669 := gC_cmpN hz276668 hc276669
                                    refine G_iconst 1 dr_cX17_findLive_163 (by decide +kernel) ?_
                                    refine G_goto 168 dr_cX17_findLive_164 (by decide +kernel) ?_
                                    refine G_istore_n (L' := [(3, .int 1), (6, .int g276499), (5, .ref q275620), (4, .int g275580), (0, .ref q225390), (1, .ref q225391), (2, .int p225392)]) dr_cX17_findLive_168 (Nat.le_of_ble_eq_true rfl) rfl ?_
                                    refine G_aload_n 4 dr_cX17_findLive_169 rfl ?_
                                    refine Gp_get 0 hm276604 he276605 dr_cX17_findLive_170 (gk_X17 D I) (Nat.le_of_ble_eq_true rfl) wr_7_74 rfl ?_
                                    refine G_iload 3 dr_cX17_findLive_173 rfl ?_
                                    refine Gp_aald 5 hm276652 he276653 dr_cX17_findLive_175 rfl rfl (gB_inr (by omega) (by omega)) ?_
                                    rw [show f276654 g275580.toNatClampNeg = some q276656 from (hg276655 _ (show g275580.toInt.toNat < 40 by omega)).1.trans (by rw [hx276658])]
                                    change G _ _ _ _ _ _ _ (.ref q276656 :: _) _ _ _
                                    refine G_iload 1 dr_cX17_findLive_176 rfl ?_
                                    refine G_aload_n 4 dr_cX17_findLive_178 rfl ?_
                                    refine Gp_get 2 hm276604 he276605 dr_cX17_findLive_179 (gk_X17 D I) (Nat.le_of_ble_eq_true rfl) wr_7_76 rfl ?_
                                    refine G_iload 1 dr_cX17_findLive_182 rfl ?_
                                    refine Gp_lald 2 hm276664 he276665 dr_cX17_findLive_184 rfl (gB_in bg276499' (by decide) (by decide)) (G_eql (y := u276667) hu276667.symm ?_)
                                    refine Gp_last 2 hm276659 he276660 dr_cX17_findLive_185 rfl (gB_in bg276499' (by decide) (by decide)) (fun F276688 e276689 n276690 => ?_)
                                    obtain ⟨f276691, hf276691⟩ : ∃ z, z = vp_updL f276661 g276499.toNatClampNeg u276667 := ⟨_, rfl⟩
                                    rw [← hf276691] at e276689
                                    have he276692 : F276688 q225391 = .inr (18, [.ref q271837, .ref q271838, .int p271839, .int p271840]) := (n276690 q225391 (rn_oa he276512 he276660)).trans he276512
                                    have he276693 : F276688 q271837 = .inr (4, [.int p275601, .ref q275603, .int p275602]) := (n276690 q271837 (rn_oa he276513 he276660)).trans he276513
                                    have he276694 : F276688 q275603 = .inl (I (.object "java/lang/Object"), n275617, .inr (.inr (.inr (.inr f275618)))) := (n276690 q275603 (rn_ref_long he276514 he276660)).trans he276514
                                    have he276695 : F276688 q275620 = .inr (17, [.ref q275630, .ref q275631, .int p275632, .int p275633]) := (n276690 q275620 (rn_oa he276515 he276660)).trans he276515
                                    have he276696 : F276688 q225390 = .inr (22, [.ref (γ 9 0), .ref (γ 9 1), .ref (γ 9 2), .ref (γ 9 3), .ref (γ 9 4), .ref (γ 9 5), .ref (γ 9 6), .ref (γ 9 7), .ref (γ 9 8), .int p276608, .int p276609, .int p276610, .int p276611, .int p276612, .int p276613, .ref (γ 9 15), .ref (γ 9 16), .ref (γ 9 17), .ref (γ 9 18), .ref (γ 9 19), .ref (γ 9 20), .ref (γ 9 21), .ref (γ 9 22), .int p276614, .int p276615, .int p276616, .int p276617, .int p276618, .ref q276606, .ref (γ 9 29), .int p276619, .ref (γ 9 31), .int p276620, .int p276621, .int p276622, .ref q276607]) := (n276690 q225390 (rn_oa he276605 he276660)).trans he276605
                                    have he276697 : F276688 (γ 9 0) = .inl (I (.array .long), 40, .inr (.inr (.inr (.inr f276654)))) := (n276690 (γ 9 0) (rn_ref_long he276653 he276660)).trans he276653
                                    have he276698 : F276688 (γ 9 2) = .inl (I .long, 32, .inr (.inl f276666)) := (n276690 (γ 9 2) (rn_ty ht276627 ht276657 (by decide))).trans he276665
                                    have he276699 : F276688 q276656 = .inl (I .long, 32, .inr (.inl f276691)) := e276689
                                    have hs276700 : rStr γ [] F225389 F276688 := rStr_put hs276503 n276690 ht276657 (by decide)
                                    have kp276701 : F276688 q225390 = F225389 q225390 := (n276690 q225390 (rn_ty htq225390 ht276657 (by decide))).trans x276509
                                    have wf276691 : lb_W f276691 (32) (32) (2000) := lb_Wst hf276691 wf276661 (by omega) (lb_Mod0 (by omega) (by omega)) qu276667
                                    obtain ⟨z276702, hz276702⟩ : ∃ z : Int32, z = g276499 + Int32.ofInt 1 := ⟨_, rfl⟩
                                    have ez276702 : z276702.toInt = g276499.toInt + 1 := gI_inc hz276702 (by decide) bg276499' (by decide) (by decide)
                                    have bz276702 : gB z276702 1 32 := ⟨by omega, by omega⟩
                                    refine G_iinc (L' := [(6, .int z276702), (3, .int 1), (5, .ref q275620), (4, .int g275580), (0, .ref q225390), (1, .ref q225391), (2, .int p225392)]) z276702 1 dr_cX17_findLive_186 rfl hz276702.symm (Nat.le_of_ble_eq_true rfl) rfl ?_
                                    refine G_goto 131 dr_cX17_findLive_189 (by decide +kernel) ?_
                                    have hT276703 : RS D I P225388 F276688 γ el := RS_set hT276502 n276690 ht276657 (by decide) ⟨f276691, he276699, wf276691⟩
                                    refine G_lv (L' := [(6, .int z276702), (5, .ref q275620), (4, .int g275580), (3, .int 1), (0, .ref q225390), (1, .ref q225391), (2, .int p225392)]) [0, 2, 3, 1, 4, 5, 6] rfl ?_
                                    exact ih131_276509 F276688 z276702 1 (gB_w bz276702 (by decide) (by decide)) (gB_w (gBl (show Int32.toInt 1 = 1 by decide)) (by decide) (by decide)) hT276703 hs276700 (fun i hi hne => (n276690 _ (by rw [hx276658]; exact RS_lne hT276703 ht276625 hi (by omega) (by omega))).trans (x276504 i hi hne)) (fun k hk => by rw [n276690 (γ 9 2) (rn_ty ht276627 ht276657 (by decide))]; exact x276505 k hk) (fun k hk => by unfold lvS; rw [← hx276658, cL_of he276699]; exact cp_st hu276667 hf276691 bg276499'.1 ez276702 (fun k hk => by have q := x276506 k hk; unfold lvS at q; rw [← hx276658, cL_of he276660] at q; exact q) (fun k hk => by have q := x276505 k hk; rw [cL_of he276665] at q; exact q) k hk) (by have gz : (g276499.toNatClampNeg : Int) = g276499.toInt := g_nn bg276499'.1; have hU := lvT_u (γ := γ) (F := F276501) (i := g275580.toInt.toNat) (z := g276499.toNatClampNeg) (by omega) (cl32 bg276499'.1 (by omega)) (fun i hi hne => n276690 _ (by rw [hx276658]; exact RS_lne hT276703 ht276625 hi (by omega) hne)) (by rw [← hx276658]; exact cL_of he276660) (by rw [← hx276658]; exact cL_of he276699) hf276691; have hS := rpop_slt (lv_w (f := f276661) (g := f276666) (A := trS γ el F225389 (decide (p225392.toInt = 1)) q275620 (lvM γ F275582) (γ 2 (γ 14 q275620))) (z := g276499.toNatClampNeg) (cl32 bg276499'.1 (by omega)) (fun k' h1 h2 h3 => by have q := x276506 k' h1; unfold lvS at q; rw [← hx276658, cL_of he276660, if_neg (by omega)] at q; rw [q] at h3; rw [x276508]; exact x275585 _ (by omega) k' ((lvM_e (by omega) h1).trans (by unfold lvS; rw [← hx276658]; exact h3))) (fun k hk => by have q := x276505 k hk; rw [cL_of he276665] at q; exact q)) (fun e => lc_ne hz276668 (by omega) (hu276662.trans (e.trans hu276667.symm))); rw [← hu276667] at hS; have q := x276507; have qb0 : Int32.toInt 0 = 0 := (by decide); have qb1 : Int32.toInt 1 = 1 := (by decide); omega) x276508 kp276701 (fun k e1 e2 ht => kt131_276510 k e1 e2 (fun R c1 c2 c3 c4 => c4 F276501 g276499 g276500 q276656 f276661 u276662 f276666 u276667 f276691 F276688 z276702 k e1 e2 bg276499 bg276500 hT276502 hs276503 x276504 x276505 x276506 x276507 x276508 x276509 r276521 r276603 fq276651 hx276658 he276660 hu276662 fq276663 he276665 hu276667 lhc276669 hf276691 n276690 he276699 ez276702 (ht R c1 c2 c3 c4))) (by have qa0 : Int32.toInt 1 = 1 := (by decide); omega)
                          exact hlp131_276509 (((33 : Int) - 0).toNat + 1) F276287 0 g275581 (gB_w (gBl (show Int32.toInt 0 = 0 by decide)) (by decide) (by decide)) bg275581 hT276288 hs276289 (fun i hi _ => x276290 i hi) (fun k hk => by have q := x276291 k hk; rw [show ((((γ 2 (γ 14 q275620) : Nat) : Int) - 1 - g276286.toInt).toNat) = γ 2 (γ 14 q275620) by omega] at q; exact q) (fun k hk => by rw [if_neg (by have qa : Int32.toInt 0 = 0 := (by decide); omega)]; exact lvS_l x276290 (by omega)) (by have q := lvT_l x276290; have q2 := x275586; omega) x276293 x276294 (fun k e1 e2 ht => ht) (Nat.lt_succ_self _)
                        · have r276704 : 0 ≤ g276286.toInt := gj_nlt hc276303 (show Int32.toInt 0 = 0 by decide)
                          have bg276286' : gB g276286 0 999999 := ⟨by omega, by omega⟩
                          refine G_aload_n 4 dr_cX17_findLive_104 rfl ?_
                          refine G_aload 1 dr_cX17_findLive_105 rfl ?_
                          have fq276705 : fR (F276287 q275620) 0 = q275630 := by rw [he276300]; rfl
                          refine Gp_get 0 hm275628 he276300 dr_cX17_findLive_107 (gk_X12 D I) (Nat.le_of_ble_eq_true rfl) wr_9_220 rfl ?_
                          refine G_iload 0 dr_cX17_findLive_110 rfl ?_
                          have hm276706 : q275630 ∈ P225388 := RS_m hT276288 ht275634 (by decide)
                          obtain ⟨⟨p276708, p276709, q276710, he276707, r276711, r276712, r276713, r276715⟩, r276714⟩ := show rk_3 D I γ el F276287 q275630 from RS_o hT276288 ht275634
                          have bp276708 := gB_any p276708
                          have bp276709 : gB p276709 0 1000000 := ⟨by omega, by omega⟩
                          obtain ⟨r276716, r276717, n276724, f276725, r276718, r276719, r276720, r276721, r276722, r276723⟩ := rLC_n r276713 (by omega)
                          have hm276726 : q276710 ∈ P225388 := RS_m hT276288 r276716 (by decide)
                          obtain ⟨q276727, hx276728⟩ : ∃ x, x = el q275630 g276286.toInt.toNat := ⟨_, rfl⟩
                          have hx276729 : f276725 g276286.toNatClampNeg = some q276727 := (r276722 _ (show g276286.toInt.toNat < γ 2 q275630 by omega)).trans (by rw [hx276728])
                          have ht276730 : rKd γ q276727 1 := by rw [hx276728]; exact (r276714 _ (show g276286.toInt.toNat < γ 2 q275630 by omega)).1
                          have ht276731 : rFm γ q276727 q275630 := by rw [hx276728]; exact (r276714 _ (show g276286.toInt.toNat < γ 2 q275630 by omega)).2.1
                          have fq276732 : fI (F276287 q275630) 2 = p276709 := by rw [he276707]; rfl
                          refine Gw_callV (As := [.int g276286]) (gV_ok D I) (cp_22_ArrayList_get l hl0 D I P225388 F276287 q275630 q276710 g276286 p276708 p276709 f276725 n276724 q276727 hm276706 hm276726 he276707 r276718 (gB_w bg276286' (by decide) (by decide)) (gB_w bp276709 (by decide) (by decide)) (by omega) (by omega) (by assumption) (by omega)) dr_cX17_findLive_112 ⟨wr_10_201, wr_1_18, wr_10_65, by decide, rfl, (Nat.le_of_ble_eq_true rfl), (Nat.le_of_ble_eq_true rfl)⟩ wr_10_63 wr_10_64 hm276706 he276707 rfl (show 0 + 0 ≤ 0 by first | omega | decide) (show 0 + 0 ≤ 0 by first | omega | decide) (Nat.le_of_ble_eq_true rfl) (fun r276736 w276737 dc276733 ds276734 hp276735 => ?_) (fun _ _ _ _ _ z => z.elim)
                          obtain ⟨rfl, rfl, hdc, hds, ht276738⟩ := hp276735
                          change G _ _ _ _ _ _ _ (.ref q276727 :: _) _ _ _
                          refine G_widen (cs' := 0) (sl' := 0) (by omega) (by omega) ?_
                          have hm276739 : q276727 ∈ P225388 := RS_m hT276288 ht276730 (by decide)
                          obtain ⟨p276741, p276742, p276743, p276744, p276745, p276746, p276747, he276740, bp276741, bp276742, bp276745, bp276746, bp276747, r276748, r276749, r276750, r276751, r276752⟩ := show rk_1 γ q276727 (F276287 q276727) from RS_o hT276288 ht276730
                          have bp276743 := gB_any p276743
                          have bp276744 := gB_any p276744
                          refine Gp_cast hm276739 he276740 rfl dr_cX17_findLive_115 wr_10_202 (gr_cast 1 rfl) ?_
                          refine G_iload_n 6 dr_cX17_findLive_118 rfl ?_
                          have fl276753 : F276287 q276727 = F225389 (el (γ 14 q275620) (γ 2 (γ 14 q275620) - 1 - ((((γ 2 (γ 14 q275620) : Nat) : Int) - 1 - g276286.toInt).toNat))) := by rw [show γ 2 (γ 14 q275620) - 1 - ((((γ 2 (γ 14 q275620) : Nat) : Int) - 1 - g276286.toInt).toNat) = g276286.toInt.toNat by omega, ht275640.1, ← hx276728]; exact hs276289 q276727 (rT0 ht276730 (by decide)) (rT1 ht276730 (by decide)) (rT2 ht276730 (by decide))
                          have hm276759 : q225390 ∈ P225388 := RS_m hT276288 htq225390 (by decide)
                          obtain ⟨q276761, q276762, p276763, p276764, p276765, p276766, p276767, p276768, p276769, p276770, p276771, p276772, p276773, p276774, p276775, p276776, p276777, he276760, hB276804, ht276778, ht276779, ht276780, ht276781, ht276782, ht276783, ht276784, ht276785, ht276786, ht276787, ht276788, ht276789, ht276790, ht276791, ht276792, ht276793, ht276794, ht276795, ht276796, ht276797, ht276798, ht276799, ht276800, ht276801, hB276805⟩ := show rk_10 γ (F276287 q225390) from RS_o hT276288 htq225390
                          refine Gw_callV (As := [.ref q276727, .int p225392]) (gV_ok D I) (ct_221970_SpillForgeModel_back l hl0 D I γ el P225388 F276287 q225390 q276727 p225392 hT276288 htq225390 ht276730 bp225392) dr_cX17_findLive_119 ⟨wr_10_174, wr_1_14, wr_10_177, by decide, rfl, (Nat.le_of_ble_eq_true rfl), (Nat.le_of_ble_eq_true rfl)⟩ wr_10_176 wr_p_96 hm276759 he276760 rfl (show 0 + 0 ≤ 0 by first | omega | decide) (show 0 + 0 ≤ 0 by first | omega | decide) (Nat.le_of_ble_eq_true rfl) (fun r276757 w276758 dc276754 ds276755 hp276756 => ?_) (fun _ _ _ _ _ z => z.elim)
                          obtain ⟨F276810, rfl, rfl, hT276811, hs276812, hdc, hds, x276806, x276807, x276808, ht276809⟩ := hp276756
                          have he276813 : F276810 q225391 = .inr (18, [.ref q271837, .ref q271838, .int p271839, .int p271840]) := (hs276812 q225391 (rT0 htq225391 (by decide)) (rT1 htq225391 (by decide)) (rT2 htq225391 (by decide))).trans he276297
                          have he276814 : F276810 q271837 = .inr (4, [.int p275601, .ref q275603, .int p275602]) := (hs276812 q271837 (rT0 ht271841 (by decide)) (rT1 ht271841 (by decide)) (rT2 ht271841 (by decide))).trans he276298
                          have he276815 : F276810 q275603 = .inl (I (.object "java/lang/Object"), n275617, .inr (.inr (.inr (.inr f275618)))) := (hs276812 q275603 (rT0 r275609 (by decide)) (rT1 r275609 (by decide)) (rT2 r275609 (by decide))).trans he276299
                          have he276816 : F276810 q275620 = .inr (17, [.ref q275630, .ref q275631, .int p275632, .int p275633]) := (hs276812 q275620 (rT0 ht275626 (by decide)) (rT1 ht275626 (by decide)) (rT2 ht275626 (by decide))).trans he276300
                          have he276817 : F276810 q275630 = .inr (4, [.int p276708, .ref q276710, .int p276709]) := (hs276812 q275630 (rT0 ht275634 (by decide)) (rT1 ht275634 (by decide)) (rT2 ht275634 (by decide))).trans he276707
                          have he276818 : F276810 q276710 = .inl (I (.object "java/lang/Object"), n276724, .inr (.inr (.inr (.inr f276725)))) := (hs276812 q276710 (rT0 r276716 (by decide)) (rT1 r276716 (by decide)) (rT2 r276716 (by decide))).trans r276718
                          have he276819 : F276810 q276727 = .inr (20, [.int p276741, .int p276742, .int p276743, .int p276744, .int p276745, .int p276746, .int p276747]) := (hs276812 q276727 (rT0 ht276730 (by decide)) (rT1 ht276730 (by decide)) (rT2 ht276730 (by decide))).trans he276740
                          have hs276820 : rStr γ [] F225389 F276810 := rStr_tr hs276289 hs276812
                          have kp276821 : F276810 q225390 = F225389 q225390 := (x276808).trans x276294
                          have he276822 : F276810 q225390 = .inr (22, [.ref (γ 9 0), .ref (γ 9 1), .ref (γ 9 2), .ref (γ 9 3), .ref (γ 9 4), .ref (γ 9 5), .ref (γ 9 6), .ref (γ 9 7), .ref (γ 9 8), .int p276763, .int p276764, .int p276765, .int p276766, .int p276767, .int p276768, .ref (γ 9 15), .ref (γ 9 16), .ref (γ 9 17), .ref (γ 9 18), .ref (γ 9 19), .ref (γ 9 20), .ref (γ 9 21), .ref (γ 9 22), .int p276769, .int p276770, .int p276771, .int p276772, .int p276773, .ref q276761, .ref (γ 9 29), .int p276774, .ref (γ 9 31), .int p276775, .int p276776, .int p276777, .ref q276762]) := (x276808).trans he276760
                          change G _ _ _ _ _ _ _ _ _ _ _
                          refine G_widen (cs' := 0) (sl' := 0) (by omega) (by omega) ?_
                          obtain ⟨z276823, hz276823⟩ : ∃ z : Int32, z = g276286 + Int32.ofInt (-1) := ⟨_, rfl⟩
                          have ez276823 : z276823.toInt = g276286.toInt + (-1) := gI_inc hz276823 (by decide) bg276286' (by decide) (by decide)
                          have bz276823 : gB z276823 (-1) 999998 := ⟨by omega, by omega⟩
                          refine G_iinc (L' := [(6, .int z276823), (5, .ref q275620), (4, .int g275580), (3, .int g275581), (0, .ref q225390), (1, .ref q225391), (2, .int p225392)]) z276823 0 dr_cX17_findLive_122 rfl hz276823.symm (Nat.le_of_ble_eq_true rfl) rfl ?_
                          refine G_goto 99 dr_cX17_findLive_125 (by decide +kernel) ?_
                          exact ih99_276294 F276810 z276823 (gB_w bz276823 (by decide) (by decide)) hT276811 hs276820 (rLv_tr x276290 x276807) (by rw [show ((((γ 2 (γ 14 q275620) : Nat) : Int) - 1 - z276823.toInt).toNat) = ((((γ 2 (γ 14 q275620) : Nat) : Int) - 1 - g276286.toInt).toNat) + 1 by omega]; exact tr_b x276291 fl276753 x276806) (by omega) x276293 kp276821 (fun k e1 ht => kt99_276295 k e1 (fun R c1 c2 => c2 F276287 g276286 q275630 q276727 p276709 F276810 z276823 k e1 bg276286 hT276288 hs276289 x276290 x276291 x276292 x276293 x276294 r276704 fq276705 hx276728 fq276732 ht276738 hT276811 hs276812 x276806 x276807 x276808 ht276809 ez276823 (ht R c1 c2))) (by omega)
                    exact hlp99_276294 (((z275761.toInt : Int) - (-2)).toNat + 1) F275733 z275761 bz275761 hT275734 hs275740 (rLv_tr x275709 x275730) (by rw [show ((((γ 2 (γ 14 q275620) : Nat) : Int) - 1 - z275761.toInt).toNat) = 0 by omega]; exact tr_0 (fun k hk => by have q := x275708 k hk; rw [ht275640.2.1, fl275651, fl275650] at q; rw [q, ht275640.2.1]; exact bhV_c ⟨by omega, by omega⟩ ⟨by omega, by omega⟩ (fun i hi => (lvM_e hi hk).symm)) fl275723 x275729) (by omega) fl275655 kp275741 (fun k e1 ht => ht) (Nat.lt_succ_self _)
              exact hlp58_275588 (((z274355.toInt : Int) - (-2)).toNat + 1) F274336 z274355 0 bz274355 (gB_w (gBl (show Int32.toInt 0 = 0 by decide)) (by decide) (by decide)) hT274337 hs274338 x274339 (by have qa : Int32.toInt 0 = 0 := (by decide); rw [qa]; exact Nat.le_refl _) (by have qa0 : Int32.toInt 0 = 0 := (by decide); omega) x274340 (fun k e1 e2 ht => ht) (Nat.lt_succ_self _)
        exact hlp44_274340 (((81920 - lvT γ F271827) + (1 : Int).toNat) + 1) F271827 1 (gB_w (gBl (show Int32.toInt 1 = 1 by decide)) (by decide) (by decide)) hT271828 hs271829 (rJv_0 (fun i hi j hj => x271830 i (by omega) j hj)) x271831 (fun k e1 ht => ht) (Nat.lt_succ_self _)
      · have r276824 : g271826.toInt < p271840.toInt := gC_nle hc271863
        have bg271826' : gB g271826 0 999999 := ⟨by omega, by omega⟩
        have bp271840' : gB p271840 1 1000000 := ⟨by omega, by omega⟩
        refine G_iconst 0 dr_cX17_findLive_10 (by decide +kernel) ?_
        refine G_istore (L' := [(4, .int 0), (3, .int g271826), (0, .ref q225390), (1, .ref q225391), (2, .int p225392)]) dr_cX17_findLive_11 (Nat.le_of_ble_eq_true rfl) rfl ?_
        have hlp13_276911 : ∀ (n13_276911 : Nat) (F276906 : Nat → va_E) (g276905 : Int32), gB g276905 0 32 → RS D I P225388 F276906 γ el → rStr γ [] F225389 F276906 → (∀ i : Nat, (i : Int) < g271826.toInt → ∀ j : Nat, j < 32 → cL (F276906 (γ 10 i)) j = 0) → (∀ j : Nat, (j : Int) < g276905.toInt → cL (F276906 (γ 10 (g271826.toInt : Int).toNat)) j = 0) → (F276906 q225390 = F225389 q225390) → (∀ (k : Nat) (e1 : Nat → va_E), tl_RModel_findLive_13 D I γ el P225388 F225389 g271826 q225390 F276906 g276905 k e1 → tl_RModel_findLive_13 D I γ el P225388 F225389 g271826 q225390 F271827 (0 : Int32) k e1) → ((33 : Int) - g276905.toInt).toNat < n13_276911 → G (gV D I) l (gRm 4 85 0 0) (gMA (gV D I) (pt_225394_SpillForgeModel_findLive D I γ el P225388 F225389 q225390 q225391 p225392) gNA 0 0) ky_225394_SpillForgeModel_findLive 13 [(4, .int g276905), (3, .int g271826), (0, .ref q225390), (1, .ref q225391), (2, .int p225392)] [] (va_pl P225388 F276906) 0 0 := by
          intro n13_276911
          induction n13_276911 with
          | zero => intro F276906 g276905 bg276905 hT276907 hs276908 x276909 x276910 x276911 kt13_276912 hm13_276911; exact absurd hm13_276911 (Nat.not_lt_zero _)
          | succ n13_276911 ih13_276911 =>
            intro F276906 g276905 bg276905 hT276907 hs276908 x276909 x276910 x276911 kt13_276912 hm13_276911
            have hs276913 : rStr γ [] F271827 F276906 := fun b h0 hb hw => (hs276908 b h0 hb hw).trans (hs271829 b h0 hb hw).symm
            have he276914 : F276906 q225391 = .inr (18, [.ref q271837, .ref q271838, .int p271839, .int p271840]) := (hs276913 q225391 (rT0 htq225391 (by decide)) (rT1 htq225391 (by decide)) (rT2 htq225391 (by decide))).trans he271836
            have hs276915 : rStr γ [] F225389 F276906 := rStr_tr hs271829 hs276913
            refine G_iload 0 dr_cX17_findLive_13 rfl ?_
            refine G_bipush 32 dr_cX17_findLive_15 (by decide +kernel) ?_
            refine G_icmp_ge 36 dr_cX17_findLive_17 (by decide +kernel) (fun hc276916 => ?_) (fun hc276916 => ?_)
            · have r276917 : 32 ≤ g276905.toInt := gj_leL hc276916 (show Int32.toInt 32 = 32 by decide)
              have bg276905' : gB g276905 32 32 := ⟨by omega, by omega⟩
              have hx276918 : tl_RModel_findLive_13 D I γ el P225388 F225389 g271826 q225390 F271827 (0 : Int32) 36 F276906 := kt13_276912 36 F276906 (fun R c1 c2 => c1 F276906 g276905 bg276905 hT276907 hs276908 x276909 x276910 x276911 r276917)
              obtain ⟨z276919, hz276919⟩ : ∃ z : Int32, z = g271826 + Int32.ofInt 1 := ⟨_, rfl⟩
              have ez276919 : z276919.toInt = g271826.toInt + 1 := gI_inc hz276919 (by decide) bg271826' (by decide) (by decide)
              have bz276919 : gB z276919 1 1000000 := ⟨by omega, by omega⟩
              refine G_iinc (L' := [(3, .int z276919), (4, .int g276905), (0, .ref q225390), (1, .ref q225391), (2, .int p225392)]) z276919 1 dr_cX17_findLive_36 rfl hz276919.symm (Nat.le_of_ble_eq_true rfl) rfl ?_
              refine G_goto 2 dr_cX17_findLive_39 (by decide +kernel) ?_
              refine G_lv (L' := [(3, .int z276919), (0, .ref q225390), (1, .ref q225391), (2, .int p225392)]) [0, 2, 3, 4] rfl ?_
              exact ih2_271831 F276906 z276919 (gB_w bz276919 (by decide) (by decide)) hT276907 hs276908 (zl_s x276909 x276910 (by omega) ez276919 bg271826'.1) x276911 (fun k e1 ht => kt2_271832 k e1 (fun R c1 c2 => c2 F271827 g271826 p271840 F276906 z276919 k e1 bg271826 hT271828 hs271829 x271830 x271831 fq271857 r276824 hx276918 ez276919 (ht R c1 c2))) (by omega)
            · have r276920 : g276905.toInt < 32 := gj_nleL hc276916 (show Int32.toInt 32 = 32 by decide)
              have bg276905' : gB g276905 0 31 := ⟨by omega, by omega⟩
              refine G_aload_n 2 dr_cX17_findLive_20 rfl ?_
              have hm276921 : q225390 ∈ P225388 := RS_m hT276907 htq225390 (by decide)
              obtain ⟨q276923, q276924, p276925, p276926, p276927, p276928, p276929, p276930, p276931, p276932, p276933, p276934, p276935, p276936, p276937, p276938, p276939, he276922, hB276966, ht276940, ht276941, ht276942, ht276943, ht276944, ht276945, ht276946, ht276947, ht276948, ht276949, ht276950, ht276951, ht276952, ht276953, ht276954, ht276955, ht276956, ht276957, ht276958, ht276959, ht276960, ht276961, ht276962, ht276963, hB276967⟩ := show rk_10 γ (F276906 q225390) from RS_o hT276907 htq225390
              have fq276968 : fR (F276906 q225390) 0 = (γ 9 0) := by rw [he276922]; rfl
              refine Gp_get 0 hm276921 he276922 dr_cX17_findLive_21 (gk_X17 D I) (Nat.le_of_ble_eq_true rfl) wr_7_74 rfl ?_
              refine G_iload_n 1 dr_cX17_findLive_24 rfl ?_
              have hm276969 : (γ 9 0) ∈ P225388 := RS_m hT276907 ht276942 (by decide)
              obtain ⟨f276971, he276970, hg276972⟩ := show rk_12 I γ (F276906 (γ 9 0)) from RS_o hT276907 ht276942
              obtain ⟨q276973, hx276975⟩ : ∃ x, x = γ 10 g271826.toInt.toNat := ⟨_, rfl⟩
              have ht276974 : rKd γ q276973 11 := by rw [hx276975]; exact (hg276972 _ (show g271826.toInt.toNat < 40 by omega)).2.1
              refine Gp_aald 5 hm276969 he276970 dr_cX17_findLive_25 rfl rfl (gB_inr (by omega) (by omega)) ?_
              rw [show f276971 g271826.toNatClampNeg = some q276973 from (hg276972 _ (show g271826.toInt.toNat < 40 by omega)).1.trans (by rw [hx276975])]
              change G _ _ _ _ _ _ _ (.ref q276973 :: _) _ _ _
              refine G_iload 0 dr_cX17_findLive_26 rfl ?_
              refine G_lconst 0 dr_cX17_findLive_28 rfl ?_
              have hm276976 : q276973 ∈ P225388 := RS_m hT276907 ht276974 (by decide)
              obtain ⟨f276978, he276977, wf276978⟩ := show rk_11 I (F276906 q276973) from RS_o hT276907 ht276974
              refine Gp_last 2 hm276976 he276977 dr_cX17_findLive_29 rfl (gB_in bg276905' (by decide) (by decide)) (fun F276979 e276980 n276981 => ?_)
              obtain ⟨f276982, hf276982⟩ : ∃ z, z = vp_updL f276978 g276905.toNatClampNeg 0 := ⟨_, rfl⟩
              rw [← hf276982] at e276980
              have he276983 : F276979 q225391 = .inr (18, [.ref q271837, .ref q271838, .int p271839, .int p271840]) := (n276981 q225391 (rn_oa he276914 he276977)).trans he276914
              have he276984 : F276979 q225390 = .inr (22, [.ref (γ 9 0), .ref (γ 9 1), .ref (γ 9 2), .ref (γ 9 3), .ref (γ 9 4), .ref (γ 9 5), .ref (γ 9 6), .ref (γ 9 7), .ref (γ 9 8), .int p276925, .int p276926, .int p276927, .int p276928, .int p276929, .int p276930, .ref (γ 9 15), .ref (γ 9 16), .ref (γ 9 17), .ref (γ 9 18), .ref (γ 9 19), .ref (γ 9 20), .ref (γ 9 21), .ref (γ 9 22), .int p276931, .int p276932, .int p276933, .int p276934, .int p276935, .ref q276923, .ref (γ 9 29), .int p276936, .ref (γ 9 31), .int p276937, .int p276938, .int p276939, .ref q276924]) := (n276981 q225390 (rn_oa he276922 he276977)).trans he276922
              have he276985 : F276979 (γ 9 0) = .inl (I (.array .long), 40, .inr (.inr (.inr (.inr f276971)))) := (n276981 (γ 9 0) (rn_ref_long he276970 he276977)).trans he276970
              have he276986 : F276979 q276973 = .inl (I .long, 32, .inr (.inl f276982)) := e276980
              have hs276987 : rStr γ [] F225389 F276979 := rStr_put hs276908 n276981 ht276974 (by decide)
              have kp276988 : F276979 q225390 = F225389 q225390 := (n276981 q225390 (rn_ty htq225390 ht276974 (by decide))).trans x276911
              have wf276982 : lb_W f276982 (32) (32) (2000) := lb_Wst hf276982 wf276978 (by omega) (lb_Mod0 (by omega) (by omega)) lb_Q0
              obtain ⟨z276989, hz276989⟩ : ∃ z : Int32, z = g276905 + Int32.ofInt 1 := ⟨_, rfl⟩
              have ez276989 : z276989.toInt = g276905.toInt + 1 := gI_inc hz276989 (by decide) bg276905' (by decide) (by decide)
              have bz276989 : gB z276989 1 32 := ⟨by omega, by omega⟩
              refine G_iinc (L' := [(4, .int z276989), (3, .int g271826), (0, .ref q225390), (1, .ref q225391), (2, .int p225392)]) z276989 0 dr_cX17_findLive_30 rfl hz276989.symm (Nat.le_of_ble_eq_true rfl) rfl ?_
              refine G_goto 13 dr_cX17_findLive_33 (by decide +kernel) ?_
              have hT276990 : RS D I P225388 F276979 γ el := RS_set hT276907 n276981 ht276974 (by decide) ⟨f276982, he276986, wf276982⟩
              exact ih13_276911 F276979 z276989 (gB_w bz276989 (by decide) (by decide)) hT276990 hs276987 (zl_r x276909 (fun i hi => n276981 _ (by rw [hx276975]; exact RS_lne hT276990 ht276942 (by omega) (by omega) (by omega)))) (by rw [← hx276975, cL_of he276986]; exact zr_st hf276982 (by have q := x276910; rw [← hx276975, cL_of he276977] at q; exact q) ez276989 bg276905'.1) kp276988 (fun k e1 ht => kt13_276912 k e1 (fun R c1 c2 => c2 F276906 g276905 q276973 f276978 f276982 F276979 z276989 k e1 bg276905 hT276907 hs276908 x276909 x276910 x276911 r276920 fq276968 hx276975 he276977 hf276982 n276981 he276986 ez276989 (ht R c1 c2))) (by omega)
        exact hlp13_276911 (((33 : Int) - 0).toNat + 1) F271827 0 (gB_w (gBl (show Int32.toInt 0 = 0 by decide)) (by decide) (by decide)) hT271828 hs271829 x271830 (fun j hj => absurd hj (by have qa : Int32.toInt 0 = 0 := (by decide); omega)) x271831 (fun k e1 ht => ht) (Nat.lt_succ_self _)
  exact hlp2_271831 (((1000001 : Int) - 0).toNat + 1) F225389 0 (gB_w (gBl (show Int32.toInt 0 = 0 by decide)) (by decide) (by decide)) hT (rStr_rf (γ := γ) (W := []) (F := F225389)) (fun i hi => absurd hi (by have qa : Int32.toInt 0 = 0 := (by decide); omega)) rfl (fun k e1 ht => ht) (Nat.lt_succ_self _)
/- tl_RModel_behind3_33: F, l3; out: F -/
def tl_RModel_behind3_33 (D : va_G) (I : FieldType → ClassId) (γ el : Nat → Nat → Nat) (P : List Nat) (F : Nat → va_E) (q0 : Nat) (q1 : Nat) (l2_1 : Int32) (s1 : Nat → va_E) (s2 : Int32) (k : Nat) (e1 : Nat → va_E) : Prop := ∀ R : (Nat → va_E) → (Int32) → Nat → (Nat → va_E) → Prop,
  (∀ (F_2 : Nat → va_E) (l3_2 : Int32), gB l3_2 0 32 → RS D I P F_2 γ el → rStr γ [] F F_2 → (F_2 q0 = F q0) → (F_2 (γ 9 3) = F (γ 9 3)) → 32 ≤ l3_2.toInt → R F_2 l3_2 66 F_2) →
  (∀ (F_2 : Nat → va_E) (l3_2 : Int32) (x1 : Nat → Int64) (x2 : Int64) (x3 : Int32) (x4 : Int32) (x5 : Int32) (x6 : Nat) (x7 : Nat → Int64) (x8 : Int64) (x9 : Int64) (x10 : Nat → Int64) (x11 : Nat → va_E) (x12 : Int32) (k : Nat) (e1 : Nat → va_E), gB l3_2 0 32 → RS D I P F_2 γ el → rStr γ [] F F_2 → (F_2 q0 = F q0) → (F_2 (γ 9 3) = F (γ 9 3)) → l3_2.toInt < 32 → fR (F_2 q0) 2 = (γ 9 2) → F_2 (γ 9 2) = .inl (I .long, 32, .inr (.inl x1)) → x2 = x1 l3_2.toNatClampNeg → fR (F_2 q0) 0 = (γ 9 0) → fI (F_2 q1) 2 = x3 → fI (F_2 q1) 3 = x4 → gB x5 0 39 → tr_RBlock_way2 l2_1 x3 x4 x5 → x6 = γ 10 x5.toInt.toNat → F_2 x6 = .inl (I .long, 32, .inr (.inl x7)) → x8 = x7 l3_2.toNatClampNeg → x9 = x2 ||| x8 → x10 = vp_updL x1 l3_2.toNatClampNeg x9 → (∀ b, b ≠ (γ 9 2) → x11 b = F_2 b) → x11 (γ 9 2) = .inl (I .long, 32, .inr (.inl x10)) → x12.toInt = l3_2.toInt + 1 → R x11 x12 k e1 → R F_2 l3_2 k e1) →
  R s1 s2 k e1
/- tl_RModel_behind3_23: F, l2; out: F -/
def tl_RModel_behind3_23 (D : va_G) (I : FieldType → ClassId) (γ el : Nat → Nat → Nat) (P : List Nat) (F : Nat → va_E) (q0 : Nat) (q1 : Nat) (s1 : Nat → va_E) (s2 : Int32) (k : Nat) (e1 : Nat → va_E) : Prop := ∀ R : (Nat → va_E) → (Int32) → Nat → (Nat → va_E) → Prop,
  (∀ (F_1 : Nat → va_E) (l2_1 : Int32) (x1 : Int32) (x2 : Int32) (x3 : Nat) (x4 : Int32) (x5 : Int32), gB l2_1 0 2 → RS D I P F_1 γ el → rStr γ [] F F_1 → (F_1 q0 = F q0) → (F_1 (γ 9 3) = F (γ 9 3)) → fI (F_1 q1) 2 = x1 → fI (F_1 q1) 3 = x2 → fR (F_1 q1) 1 = x3 → fI (F_1 x3) 0 = x4 → gB x5 0 2 → tr_RBlock_ways x1 x2 x4 x5 → x5.toInt ≤ l2_1.toInt → R F_1 l2_1 72 F_1) →
  (∀ (F_1 : Nat → va_E) (l2_1 : Int32) (x1 : Int32) (x2 : Int32) (x3 : Nat) (x4 : Int32) (x5 : Int32) (x6 : Nat → va_E) (x7 : Int32) (k : Nat) (e1 : Nat → va_E), gB l2_1 0 2 → RS D I P F_1 γ el → rStr γ [] F F_1 → (F_1 q0 = F q0) → (F_1 (γ 9 3) = F (γ 9 3)) → fI (F_1 q1) 2 = x1 → fI (F_1 q1) 3 = x2 → fR (F_1 q1) 1 = x3 → fI (F_1 x3) 0 = x4 → gB x5 0 2 → tr_RBlock_ways x1 x2 x4 x5 → l2_1.toInt < x5.toInt → tl_RModel_behind3_33 D I γ el P F q0 q1 l2_1 F_1 (0 : Int32) 66 x6 → x7.toInt = l2_1.toInt + 1 → R x6 x7 k e1 → R F_1 l2_1 k e1) →
  R s1 s2 k e1
/- tl_RModel_behind3_2: F, l2; out: F -/
def tl_RModel_behind3_2 (D : va_G) (I : FieldType → ClassId) (γ el : Nat → Nat → Nat) (P : List Nat) (F : Nat → va_E) (q0 : Nat) (s1 : Nat → va_E) (s2 : Int32) (k : Nat) (e1 : Nat → va_E) : Prop := ∀ R : (Nat → va_E) → (Int32) → Nat → (Nat → va_E) → Prop,
  (∀ (F_1 : Nat → va_E) (l2_1 : Int32), gB l2_1 0 32 → RS D I P F_1 γ el → rStr γ [] F F_1 → (F_1 q0 = F q0) → (F_1 (γ 9 3) = F (γ 9 3)) → 32 ≤ l2_1.toInt → R F_1 l2_1 21 F_1) →
  (∀ (F_1 : Nat → va_E) (l2_1 : Int32) (x1 : Nat → Int64) (x2 : Nat → Int64) (x3 : Nat → va_E) (x4 : Int32) (k : Nat) (e1 : Nat → va_E), gB l2_1 0 32 → RS D I P F_1 γ el → rStr γ [] F F_1 → (F_1 q0 = F q0) → (F_1 (γ 9 3) = F (γ 9 3)) → l2_1.toInt < 32 → fR (F_1 q0) 2 = (γ 9 2) → F_1 (γ 9 2) = .inl (I .long, 32, .inr (.inl x1)) → x2 = vp_updL x1 l2_1.toNatClampNeg 0 → (∀ b, b ≠ (γ 9 2) → x3 b = F_1 b) → x3 (γ 9 2) = .inl (I .long, 32, .inr (.inl x2)) → x4.toInt = l2_1.toInt + 1 → R x3 x4 k e1 → R F_1 l2_1 k e1) →
  R s1 s2 k e1
/- tr_RModel_behind3: F -/
def tr_RModel_behind3 (D : va_G) (I : FieldType → ClassId) (γ el : Nat → Nat → Nat) (P : List Nat) (F : Nat → va_E) (q0 : Nat) (q1 : Nat) (o1 : Nat → va_E) : Prop := ∀ R : (Nat → va_E) → Prop,
  (∀ (x1 : Nat → va_E) (x2 : Nat → va_E), tl_RModel_behind3_2 D I γ el P F q0 F (0 : Int32) 21 x1 → tl_RModel_behind3_23 D I γ el P F q0 q1 x1 (0 : Int32) 72 x2 → R x2) →
  R o1
