theorem dr_cX17_findLive_0 : decode cX17_findLive 0 = .ok (.iconst 0, 1) := by decide +kernel
theorem dr_cX17_findLive_1 : decode cX17_findLive 1 = .ok (.istore_n 3, 1) := by decide +kernel
theorem dr_cX17_findLive_2 : decode cX17_findLive 2 = .ok (.iload_n 3, 1) := by decide +kernel
theorem dr_cX17_findLive_3 : decode cX17_findLive 3 = .ok (.aload_n 1, 1) := by decide +kernel
theorem dr_cX17_findLive_4 : decode cX17_findLive 4 = .ok (.invokevirtual 96, 3) := by decide +kernel
theorem dr_cX17_findLive_7 : decode cX17_findLive 7 = .ok (.if_icmp .ge 35, 3) := by decide +kernel
theorem dr_cX17_findLive_42 : decode cX17_findLive 42 = .ok (.iconst 1, 1) := by decide +kernel
theorem dr_cX17_findLive_43 : decode cX17_findLive 43 = .ok (.istore_n 3, 1) := by decide +kernel
theorem dr_cX17_findLive_44 : decode cX17_findLive 44 = .ok (.iload_n 3, 1) := by decide +kernel
theorem dr_cX17_findLive_45 : decode cX17_findLive 45 = .ok (.ifCond .eq 156, 3) := by decide +kernel
theorem dr_cX17_findLive_201 : decode cX17_findLive 201 = .ok (.return_, 1) := by decide +kernel
theorem dr_cX17_findLive_48 : decode cX17_findLive 48 = .ok (.iconst 0, 1) := by decide +kernel
theorem dr_cX17_findLive_49 : decode cX17_findLive 49 = .ok (.istore_n 3, 1) := by decide +kernel
theorem dr_cX17_findLive_50 : decode cX17_findLive 50 = .ok (.aload_n 1, 1) := by decide +kernel
theorem dr_cX17_findLive_51 : decode cX17_findLive 51 = .ok (.invokevirtual 96, 3) := by decide +kernel
theorem dr_cX17_findLive_54 : decode cX17_findLive 54 = .ok (.iconst 1, 1) := by decide +kernel
theorem dr_cX17_findLive_55 : decode cX17_findLive 55 = .ok (.isub, 1) := by decide +kernel
theorem dr_cX17_findLive_56 : decode cX17_findLive 56 = .ok (.istore 4, 2) := by decide +kernel
theorem dr_cX17_findLive_58 : decode cX17_findLive 58 = .ok (.iload 4, 2) := by decide +kernel
theorem dr_cX17_findLive_60 : decode cX17_findLive 60 = .ok (.ifCond .lt 138, 3) := by decide +kernel
theorem dr_cX17_findLive_198 : decode cX17_findLive 198 = .ok (.goto (-154), 3) := by decide +kernel
theorem dr_cX17_findLive_63 : decode cX17_findLive 63 = .ok (.aload_n 1, 1) := by decide +kernel
theorem dr_cX17_findLive_64 : decode cX17_findLive 64 = .ok (.iload 4, 2) := by decide +kernel
theorem dr_cX17_findLive_66 : decode cX17_findLive 66 = .ok (.invokevirtual 101, 3) := by decide +kernel
theorem dr_cX17_findLive_69 : decode cX17_findLive 69 = .ok (.astore 5, 2) := by decide +kernel
theorem dr_cX17_findLive_71 : decode cX17_findLive 71 = .ok (.aload_n 0, 1) := by decide +kernel
theorem dr_cX17_findLive_72 : decode cX17_findLive 72 = .ok (.aload 5, 2) := by decide +kernel
theorem dr_cX17_findLive_74 : decode cX17_findLive 74 = .ok (.invokevirtual 105, 3) := by decide +kernel
theorem wr_10_162 : (Jvm.Cond.methodLink "SpillForgeModel" (105 : Nat) ({ cls := "SpillForgeModel", name := "behind", desc := "(LSpillForgeModel$Block;)V" } : Jvm.MethodName)) ∈ gw := gw_10 162 rfl rfl
theorem wr_10_165 : (Jvm.Cond.code ({ cls := "SpillForgeModel", name := "behind", desc := "(LSpillForgeModel$Block;)V" } : Jvm.MethodName) prog_14_method_8_code (4 : Nat) (Option.none : Option Jvm.ClassFile.FieldType)) ∈ gw := gw_10 165 rfl rfl
theorem wr_10_164 : (Jvm.Cond.instanceMethod ({ cls := "SpillForgeModel", name := "behind", desc := "(LSpillForgeModel$Block;)V" } : Jvm.MethodName)) ∈ gw := gw_10 164 rfl rfl
theorem wr_p_95 : Cond.selects "SpillForgeModel" ⟨"SpillForgeModel", "behind", "(LSpillForgeModel$Block;)V"⟩ ⟨"SpillForgeModel", "behind", "(LSpillForgeModel$Block;)V"⟩ ∈ gw := gw_p _ 95 rfl rfl rfl
theorem dr_cX17_findLive_77 : decode cX17_findLive 77 = .ok (.aload_n 0, 1) := by decide +kernel
theorem dr_cX17_findLive_78 : decode cX17_findLive 78 = .ok (.aload 5, 2) := by decide +kernel
theorem dr_cX17_findLive_80 : decode cX17_findLive 80 = .ok (.getfield 109, 3) := by decide +kernel
theorem dr_cX17_findLive_83 : decode cX17_findLive 83 = .ok (.iload_n 2, 1) := by decide +kernel
theorem dr_cX17_findLive_84 : decode cX17_findLive 84 = .ok (.invokevirtual 113, 3) := by decide +kernel
theorem wr_10_174 : (Jvm.Cond.methodLink "SpillForgeModel" (113 : Nat) ({ cls := "SpillForgeModel", name := "back", desc := "(LSpillForgeModel$Row;Z)V" } : Jvm.MethodName)) ∈ gw := gw_10 174 rfl rfl
theorem wr_10_177 : (Jvm.Cond.code ({ cls := "SpillForgeModel", name := "back", desc := "(LSpillForgeModel$Row;Z)V" } : Jvm.MethodName) prog_14_method_7_code (4 : Nat) (Option.none : Option Jvm.ClassFile.FieldType)) ∈ gw := gw_10 177 rfl rfl
theorem wr_10_176 : (Jvm.Cond.instanceMethod ({ cls := "SpillForgeModel", name := "back", desc := "(LSpillForgeModel$Row;Z)V" } : Jvm.MethodName)) ∈ gw := gw_10 176 rfl rfl
theorem wr_p_96 : Cond.selects "SpillForgeModel" ⟨"SpillForgeModel", "back", "(LSpillForgeModel$Row;Z)V"⟩ ⟨"SpillForgeModel", "back", "(LSpillForgeModel$Row;Z)V"⟩ ∈ gw := gw_p _ 96 rfl rfl rfl
theorem dr_cX17_findLive_87 : decode cX17_findLive 87 = .ok (.aload 5, 2) := by decide +kernel
theorem dr_cX17_findLive_89 : decode cX17_findLive 89 = .ok (.getfield 117, 3) := by decide +kernel
theorem dr_cX17_findLive_92 : decode cX17_findLive 92 = .ok (.invokevirtual 121, 3) := by decide +kernel
theorem dr_cX17_findLive_95 : decode cX17_findLive 95 = .ok (.iconst 1, 1) := by decide +kernel
theorem dr_cX17_findLive_96 : decode cX17_findLive 96 = .ok (.isub, 1) := by decide +kernel
theorem dr_cX17_findLive_97 : decode cX17_findLive 97 = .ok (.istore 6, 2) := by decide +kernel
theorem dr_cX17_findLive_99 : decode cX17_findLive 99 = .ok (.iload 6, 2) := by decide +kernel
theorem dr_cX17_findLive_101 : decode cX17_findLive 101 = .ok (.ifCond .lt 27, 3) := by decide +kernel
theorem dr_cX17_findLive_128 : decode cX17_findLive 128 = .ok (.iconst 0, 1) := by decide +kernel
theorem dr_cX17_findLive_129 : decode cX17_findLive 129 = .ok (.istore 6, 2) := by decide +kernel
theorem dr_cX17_findLive_131 : decode cX17_findLive 131 = .ok (.iload 6, 2) := by decide +kernel
theorem dr_cX17_findLive_133 : decode cX17_findLive 133 = .ok (.bipush 32, 2) := by decide +kernel
theorem dr_cX17_findLive_135 : decode cX17_findLive 135 = .ok (.if_icmp .ge 57, 3) := by decide +kernel
theorem dr_cX17_findLive_192 : decode cX17_findLive 192 = .ok (.iinc 4 (-1), 3) := by decide +kernel
theorem dr_cX17_findLive_195 : decode cX17_findLive 195 = .ok (.goto (-137), 3) := by decide +kernel
theorem dr_cX17_findLive_138 : decode cX17_findLive 138 = .ok (.iload_n 3, 1) := by decide +kernel
theorem dr_cX17_findLive_139 : decode cX17_findLive 139 = .ok (.ifCond .ne 24, 3) := by decide +kernel
theorem dr_cX17_findLive_163 : decode cX17_findLive 163 = .ok (.iconst 1, 1) := by decide +kernel
theorem dr_cX17_findLive_164 : decode cX17_findLive 164 = .ok (.goto 4, 3) := by decide +kernel
theorem dr_cX17_findLive_168 : decode cX17_findLive 168 = .ok (.istore_n 3, 1) := by decide +kernel
theorem dr_cX17_findLive_169 : decode cX17_findLive 169 = .ok (.aload_n 0, 1) := by decide +kernel
theorem dr_cX17_findLive_170 : decode cX17_findLive 170 = .ok (.getfield 88, 3) := by decide +kernel
theorem dr_cX17_findLive_173 : decode cX17_findLive 173 = .ok (.iload 4, 2) := by decide +kernel
theorem dr_cX17_findLive_175 : decode cX17_findLive 175 = .ok (.aaload, 1) := by decide +kernel
theorem dr_cX17_findLive_176 : decode cX17_findLive 176 = .ok (.iload 6, 2) := by decide +kernel
theorem dr_cX17_findLive_178 : decode cX17_findLive 178 = .ok (.aload_n 0, 1) := by decide +kernel
theorem dr_cX17_findLive_179 : decode cX17_findLive 179 = .ok (.getfield 59, 3) := by decide +kernel
theorem dr_cX17_findLive_182 : decode cX17_findLive 182 = .ok (.iload 6, 2) := by decide +kernel
theorem dr_cX17_findLive_184 : decode cX17_findLive 184 = .ok (.laload, 1) := by decide +kernel
theorem dr_cX17_findLive_185 : decode cX17_findLive 185 = .ok (.lastore, 1) := by decide +kernel
theorem dr_cX17_findLive_186 : decode cX17_findLive 186 = .ok (.iinc 6 1, 3) := by decide +kernel
theorem dr_cX17_findLive_189 : decode cX17_findLive 189 = .ok (.goto (-58), 3) := by decide +kernel
theorem dr_cX17_findLive_142 : decode cX17_findLive 142 = .ok (.aload_n 0, 1) := by decide +kernel
theorem dr_cX17_findLive_143 : decode cX17_findLive 143 = .ok (.getfield 88, 3) := by decide +kernel
theorem dr_cX17_findLive_146 : decode cX17_findLive 146 = .ok (.iload 4, 2) := by decide +kernel
theorem dr_cX17_findLive_148 : decode cX17_findLive 148 = .ok (.aaload, 1) := by decide +kernel
theorem dr_cX17_findLive_149 : decode cX17_findLive 149 = .ok (.iload 6, 2) := by decide +kernel
theorem dr_cX17_findLive_151 : decode cX17_findLive 151 = .ok (.laload, 1) := by decide +kernel
theorem dr_cX17_findLive_152 : decode cX17_findLive 152 = .ok (.aload_n 0, 1) := by decide +kernel
theorem dr_cX17_findLive_153 : decode cX17_findLive 153 = .ok (.getfield 59, 3) := by decide +kernel
theorem dr_cX17_findLive_156 : decode cX17_findLive 156 = .ok (.iload 6, 2) := by decide +kernel
theorem dr_cX17_findLive_158 : decode cX17_findLive 158 = .ok (.laload, 1) := by decide +kernel
theorem dr_cX17_findLive_159 : decode cX17_findLive 159 = .ok (.lcmp, 1) := by decide +kernel
theorem dr_cX17_findLive_160 : decode cX17_findLive 160 = .ok (.ifCond .eq 7, 3) := by decide +kernel
theorem dr_cX17_findLive_167 : decode cX17_findLive 167 = .ok (.iconst 0, 1) := by decide +kernel
theorem dr_cX17_findLive_104 : decode cX17_findLive 104 = .ok (.aload_n 0, 1) := by decide +kernel
theorem dr_cX17_findLive_105 : decode cX17_findLive 105 = .ok (.aload 5, 2) := by decide +kernel
theorem dr_cX17_findLive_107 : decode cX17_findLive 107 = .ok (.getfield 117, 3) := by decide +kernel
theorem dr_cX17_findLive_110 : decode cX17_findLive 110 = .ok (.iload 6, 2) := by decide +kernel
theorem dr_cX17_findLive_112 : decode cX17_findLive 112 = .ok (.invokevirtual 124, 3) := by decide +kernel
theorem dr_cX17_findLive_115 : decode cX17_findLive 115 = .ok (.checkcast 40, 3) := by decide +kernel
theorem dr_cX17_findLive_118 : decode cX17_findLive 118 = .ok (.iload_n 2, 1) := by decide +kernel
theorem dr_cX17_findLive_119 : decode cX17_findLive 119 = .ok (.invokevirtual 113, 3) := by decide +kernel
theorem dr_cX17_findLive_122 : decode cX17_findLive 122 = .ok (.iinc 6 (-1), 3) := by decide +kernel
theorem dr_cX17_findLive_125 : decode cX17_findLive 125 = .ok (.goto (-26), 3) := by decide +kernel
theorem dr_cX17_findLive_10 : decode cX17_findLive 10 = .ok (.iconst 0, 1) := by decide +kernel
theorem dr_cX17_findLive_11 : decode cX17_findLive 11 = .ok (.istore 4, 2) := by decide +kernel
theorem dr_cX17_findLive_13 : decode cX17_findLive 13 = .ok (.iload 4, 2) := by decide +kernel
theorem dr_cX17_findLive_15 : decode cX17_findLive 15 = .ok (.bipush 32, 2) := by decide +kernel
theorem dr_cX17_findLive_17 : decode cX17_findLive 17 = .ok (.if_icmp .ge 19, 3) := by decide +kernel
theorem dr_cX17_findLive_36 : decode cX17_findLive 36 = .ok (.iinc 3 1, 3) := by decide +kernel
theorem dr_cX17_findLive_39 : decode cX17_findLive 39 = .ok (.goto (-37), 3) := by decide +kernel
theorem dr_cX17_findLive_20 : decode cX17_findLive 20 = .ok (.aload_n 0, 1) := by decide +kernel
theorem dr_cX17_findLive_21 : decode cX17_findLive 21 = .ok (.getfield 88, 3) := by decide +kernel
theorem dr_cX17_findLive_24 : decode cX17_findLive 24 = .ok (.iload_n 3, 1) := by decide +kernel
theorem dr_cX17_findLive_25 : decode cX17_findLive 25 = .ok (.aaload, 1) := by decide +kernel
theorem dr_cX17_findLive_26 : decode cX17_findLive 26 = .ok (.iload 4, 2) := by decide +kernel
theorem dr_cX17_findLive_28 : decode cX17_findLive 28 = .ok (.lconst 0, 1) := by decide +kernel
theorem dr_cX17_findLive_29 : decode cX17_findLive 29 = .ok (.lastore, 1) := by decide +kernel
theorem dr_cX17_findLive_30 : decode cX17_findLive 30 = .ok (.iinc 4 1, 3) := by decide +kernel
theorem dr_cX17_findLive_33 : decode cX17_findLive 33 = .ok (.goto (-20), 3) := by decide +kernel
abbrev ky_223161_Block_ways : gKey := (cX12_ways, 1, "SpillForgeModel$Block", (some FieldType.int), [], "ways", fun _ _ => True)
def pp_223161_Block_ways (D : va_G) (I : FieldType → ClassId) (P223147 : List Nat) (F223148 : Nat → va_E) (q223149 : Nat) (q223150 : Nat) (qo223151 : Nat) (p223152 : Int32) (p223153 : Int32) (p223154 : Int32) (p223155 : Int32) (p223156 : Int32) (p223157 : Int32) (p223158 : Int32) (p223159 : Int32) (p223160 : Int32) : Option Value → va_W → Nat → Nat → Prop := fun r w dc ds => ∃ (o223171 : Int32), r = some (.int o223171) ∧ w = va_pl P223147 F223148 ∧ dc ≤ 0 ∧ ds ≤ 0 ∧ gB o223171 0 2 ∧ ((o223171.toInt = 0 ∧ p223154.toInt = 32) ∨ (o223171.toInt = 1 ∧ p223154.toInt ≠ 32 ∧ (p223154.toInt = 30 ∨ p223152.toInt = p223153.toInt)) ∨ (o223171.toInt = 2 ∧ p223154.toInt ≠ 32 ∧ p223154.toInt ≠ 30 ∧ p223152.toInt ≠ p223153.toInt)) ∧ tr_RBlock_ways2 p223152 p223153 p223154 o223171
set_option maxRecDepth 100000 in
set_option maxHeartbeats 4000000 in
theorem cp_223161_Block_ways (l : Launch) (hl0 : l.stackTraces = false) (D : va_G) (I : FieldType → ClassId) (P223147 : List Nat) (F223148 : Nat → va_E) (q223149 : Nat) (q223150 : Nat) (qo223151 : Nat) (p223152 : Int32) (p223153 : Int32) (p223154 : Int32) (p223155 : Int32) (p223156 : Int32) (p223157 : Int32) (p223158 : Int32) (p223159 : Int32) (p223160 : Int32) (hmq223149 : q223149 ∈ P223147) (hmq223150 : q223150 ∈ P223147) (heq223149 : F223148 q223149 = .inr (17, [.ref qo223151, .ref q223150, .int p223152, .int p223153])) (heq223150 : F223148 q223150 = .inr (20, [.int p223154, .int p223155, .int p223156, .int p223157, .int p223158, .int p223159, .int p223160])) (bp223152 : gB p223152 0 39) (bp223153 : gB p223153 0 39) (bp223154 : gB p223154 0 32) (bp223155 : gB p223155 0 1999) (bp223158 : gB p223158 0 1999) (bp223159 : gB p223159 0 1) (bp223160 : gB p223160 0 1) : CtA (gV D I) l yX12_ways cX12_ways 1 (some FieldType.int) 0 0 0 0 [.ref q223149] (va_pl P223147 F223148) (pp_223161_Block_ways D I P223147 F223148 q223149 q223150 qo223151 p223152 p223153 p223154 p223155 p223156 p223157 p223158 p223159 p223160) gNA := by
  refine CtA_of hl0 (by decide) (Nat.le_of_ble_eq_true rfl) ?_
  have bp223156 := gB_any p223156
  have bp223157 := gB_any p223157
  refine G_aload_n 0 dr_cX12_ways_0 rfl ?_
  refine Gp_get 1 hmq223149 heq223149 dr_cX12_ways_1 (gk_X12 D I) (Nat.le_of_ble_eq_true rfl) wr_9_222 rfl ?_
  refine Gp_get 0 hmq223150 heq223150 dr_cX12_ways_4 (gk_X15 D I) (Nat.le_of_ble_eq_true rfl) wr_9_176 rfl ?_
  refine G_bipush 32 dr_cX12_ways_7 (by decide +kernel) ?_
  refine G_icmp_ne 16 dr_cX12_ways_9 (by decide +kernel) (fun hc223162 => ?_) (fun hc223162 => ?_)
  · have r223163 : p223154.toInt ≠ 32 := gj_neq hc223162 (show Int32.toInt 32 = 32 by decide)
    have bp223154' : gB p223154 0 31 := ⟨by omega, by omega⟩
    refine G_aload_n 0 dr_cX12_ways_16 rfl ?_
    refine Gp_get 1 hmq223149 heq223149 dr_cX12_ways_17 (gk_X12 D I) (Nat.le_of_ble_eq_true rfl) wr_9_222 rfl ?_
    refine Gp_get 0 hmq223150 heq223150 dr_cX12_ways_20 (gk_X15 D I) (Nat.le_of_ble_eq_true rfl) wr_9_176 rfl ?_
    refine G_bipush 30 dr_cX12_ways_23 (by decide +kernel) ?_
    refine G_icmp_eq 39 dr_cX12_ways_25 (by decide +kernel) (fun hc223164 => ?_) (fun hc223164 => ?_)
    · have r223165 : p223154.toInt = 30 := gj_eq hc223164 (show Int32.toInt 30 = 30 by decide)
      have bp223154'' : gB p223154 30 30 := ⟨by omega, by omega⟩
      refine G_iconst 1 dr_cX12_ways_39 (by decide +kernel) ?_
      refine G_goto 44 dr_cX12_ways_40 (by decide +kernel) ?_
      exact G_iretA dr_cX12_ways_44 rfl (Nat.le_of_ble_eq_true rfl) (Nat.le_of_ble_eq_true rfl) ⟨1, rfl, rfl, (Nat.le_of_ble_eq_true rfl), (Nat.le_of_ble_eq_true rfl), (gB_w (gBl (show Int32.toInt 1 = 1 by decide)) (by decide) (by decide)), (by have qa0 : Int32.toInt 1 = 1 := (by decide); omega), (fun R c1 c2 c3 c4 => c1 r223163 r223165)⟩
    · have r223166 : p223154.toInt ≠ 30 := gj_neq hc223164 (show Int32.toInt 30 = 30 by decide)
      refine G_aload_n 0 dr_cX12_ways_28 rfl ?_
      refine Gp_get 2 hmq223149 heq223149 dr_cX12_ways_29 (gk_X12 D I) (Nat.le_of_ble_eq_true rfl) wr_9_226 rfl ?_
      refine G_aload_n 0 dr_cX12_ways_32 rfl ?_
      refine Gp_get 3 hmq223149 heq223149 dr_cX12_ways_33 (gk_X12 D I) (Nat.le_of_ble_eq_true rfl) wr_9_230 rfl ?_
      refine G_icmp_ne 43 dr_cX12_ways_36 (by decide +kernel) (fun hc223167 => ?_) (fun hc223167 => ?_)
      · have r223168 : p223152.toInt ≠ p223153.toInt := gC_ne hc223167
        refine G_iconst 2 dr_cX12_ways_43 (by decide +kernel) ?_
        exact G_iretA dr_cX12_ways_44 rfl (Nat.le_of_ble_eq_true rfl) (Nat.le_of_ble_eq_true rfl) ⟨2, rfl, rfl, (Nat.le_of_ble_eq_true rfl), (Nat.le_of_ble_eq_true rfl), (gB_w (gBl (show Int32.toInt 2 = 2 by decide)) (by decide) (by decide)), (by have qa0 : Int32.toInt 2 = 2 := (by decide); omega), (fun R c1 c2 c3 c4 => c2 r223163 r223166 r223168)⟩
      · have r223169 : p223152.toInt = p223153.toInt := gC_eq hc223167
        refine G_iconst 1 dr_cX12_ways_39 (by decide +kernel) ?_
        refine G_goto 44 dr_cX12_ways_40 (by decide +kernel) ?_
        exact G_iretA dr_cX12_ways_44 rfl (Nat.le_of_ble_eq_true rfl) (Nat.le_of_ble_eq_true rfl) ⟨1, rfl, rfl, (Nat.le_of_ble_eq_true rfl), (Nat.le_of_ble_eq_true rfl), (gB_w (gBl (show Int32.toInt 1 = 1 by decide)) (by decide) (by decide)), (by have qa0 : Int32.toInt 1 = 1 := (by decide); omega), (fun R c1 c2 c3 c4 => c3 r223163 r223166 r223169)⟩
  · have r223170 : p223154.toInt = 32 := gj_eq hc223162 (show Int32.toInt 32 = 32 by decide)
    have bp223154' : gB p223154 32 32 := ⟨by omega, by omega⟩
    refine G_iconst 0 dr_cX12_ways_12 (by decide +kernel) ?_
    refine G_goto 44 dr_cX12_ways_13 (by decide +kernel) ?_
    exact G_iretA dr_cX12_ways_44 rfl (Nat.le_of_ble_eq_true rfl) (Nat.le_of_ble_eq_true rfl) ⟨0, rfl, rfl, (Nat.le_of_ble_eq_true rfl), (Nat.le_of_ble_eq_true rfl), (gB_w (gBl (show Int32.toInt 0 = 0 by decide)) (by decide) (by decide)), (by have qa0 : Int32.toInt 0 = 0 := (by decide); omega), (fun R c1 c2 c3 c4 => c4 r223170)⟩
/- tr_RBlock_way3: result -/
def tr_RBlock_way3 (a1 : Int32) (a0_first : Int32) (a0_second : Int32) (o1 : Int32) : Prop := ∀ R : (Int32) → Prop,
  (a1.toInt ≠ 0 → R a0_second) →
  (a1.toInt = 0 → R a0_first) →
  R o1
abbrev ky_223296_Block_way : gKey := (cX12_way, 2, "SpillForgeModel$Block", (some FieldType.int), [], "way", fun _ _ => True)
def pp_223296_Block_way (D : va_G) (I : FieldType → ClassId) (P223281 : List Nat) (F223282 : Nat → va_E) (q223283 : Nat) (q223284 : Nat) (p223285 : Int32) (qo223286 : Nat) (p223287 : Int32) (p223288 : Int32) (p223289 : Int32) (p223290 : Int32) (p223291 : Int32) (p223292 : Int32) (p223293 : Int32) (p223294 : Int32) (p223295 : Int32) : Option Value → va_W → Nat → Nat → Prop := fun r w dc ds => ∃ (o223300 : Int32), r = some (.int o223300) ∧ w = va_pl P223281 F223282 ∧ dc ≤ 0 ∧ ds ≤ 0 ∧ gB o223300 0 39 ∧ ((p223285.toInt = 0 ∧ o223300.toInt = p223287.toInt) ∨ (p223285.toInt ≠ 0 ∧ o223300.toInt = p223288.toInt)) ∧ tr_RBlock_way3 p223285 p223287 p223288 o223300
set_option maxRecDepth 100000 in
set_option maxHeartbeats 4000000 in
theorem cp_223296_Block_way (l : Launch) (hl0 : l.stackTraces = false) (D : va_G) (I : FieldType → ClassId) (P223281 : List Nat) (F223282 : Nat → va_E) (q223283 : Nat) (q223284 : Nat) (p223285 : Int32) (qo223286 : Nat) (p223287 : Int32) (p223288 : Int32) (p223289 : Int32) (p223290 : Int32) (p223291 : Int32) (p223292 : Int32) (p223293 : Int32) (p223294 : Int32) (p223295 : Int32) (hmq223283 : q223283 ∈ P223281) (hmq223284 : q223284 ∈ P223281) (heq223283 : F223282 q223283 = .inr (17, [.ref qo223286, .ref q223284, .int p223287, .int p223288])) (heq223284 : F223282 q223284 = .inr (20, [.int p223289, .int p223290, .int p223291, .int p223292, .int p223293, .int p223294, .int p223295])) (bp223287 : gB p223287 0 39) (bp223288 : gB p223288 0 39) (bp223289 : gB p223289 0 32) (bp223290 : gB p223290 0 1999) (bp223293 : gB p223293 0 1999) (bp223294 : gB p223294 0 1) (bp223295 : gB p223295 0 1) : CtA (gV D I) l yX12_way cX12_way 2 (some FieldType.int) 0 0 0 0 [.ref q223283, .int p223285] (va_pl P223281 F223282) (pp_223296_Block_way D I P223281 F223282 q223283 q223284 p223285 qo223286 p223287 p223288 p223289 p223290 p223291 p223292 p223293 p223294 p223295) gNA := by
  refine CtA_of hl0 (by decide) (Nat.le_of_ble_eq_true rfl) ?_
  have bp223285 := gB_any p223285
  have bp223291 := gB_any p223291
  have bp223292 := gB_any p223292
  refine G_iload_n 1 dr_cX12_way_0 rfl ?_
  refine G_if_ne 11 dr_cX12_way_1 (by decide +kernel) (fun hc223297 => ?_) (fun hc223297 => ?_)
  · have r223298 : p223285.toInt ≠ 0 := gj_neq hc223297 (show Int32.toInt 0 = 0 by decide)
    refine G_aload_n 0 dr_cX12_way_11 rfl ?_
    refine Gp_get 3 hmq223283 heq223283 dr_cX12_way_12 (gk_X12 D I) (Nat.le_of_ble_eq_true rfl) wr_9_230 rfl ?_
    exact G_iretA dr_cX12_way_15 rfl (Nat.le_of_ble_eq_true rfl) (Nat.le_of_ble_eq_true rfl) ⟨p223288, rfl, rfl, (Nat.le_of_ble_eq_true rfl), (Nat.le_of_ble_eq_true rfl), bp223288, (by omega), (fun R c1 c2 => c1 r223298)⟩
  · have r223299 : p223285.toInt = 0 := gj_eq hc223297 (show Int32.toInt 0 = 0 by decide)
    have bp223285' : gB p223285 0 0 := ⟨by omega, by omega⟩
    refine G_aload_n 0 dr_cX12_way_4 rfl ?_
    refine Gp_get 2 hmq223283 heq223283 dr_cX12_way_5 (gk_X12 D I) (Nat.le_of_ble_eq_true rfl) wr_9_226 rfl ?_
    refine G_goto 15 dr_cX12_way_8 (by decide +kernel) ?_
    exact G_iretA dr_cX12_way_15 rfl (Nat.le_of_ble_eq_true rfl) (Nat.le_of_ble_eq_true rfl) ⟨p223287, rfl, rfl, (Nat.le_of_ble_eq_true rfl), (Nat.le_of_ble_eq_true rfl), bp223287, (by omega), (fun R c1 c2 => c2 r223299)⟩
/- tl_RModel_behind2_33: F, l3; out: F -/
def tl_RModel_behind2_33 (D : va_G) (I : FieldType → ClassId) (γ el : Nat → Nat → Nat) (P : List Nat) (F : Nat → va_E) (l2_1 : Int32) (q1 : Nat) (q0 : Nat) (s1 : Nat → va_E) (s2 : Int32) (k : Nat) (e1 : Nat → va_E) : Prop := ∀ R : (Nat → va_E) → (Int32) → Nat → (Nat → va_E) → Prop,
  (∀ (F_2 : Nat → va_E) (l3_2 : Int32), gB l3_2 0 32 → RS D I P F_2 γ el → rStr γ [] F F_2 → ((∀ k : Nat, k < 2048 → rbt (cL (F_2 (γ 9 2))) k = if (k : Int) < 64 * l3_2.toInt then wyV (l2_1.toInt + 1) (fI (F q1) 2).toInt (fI (F q1) 3).toInt (lvS γ F) k else wyV l2_1.toInt (fI (F q1) 2).toInt (fI (F q1) 3).toInt (lvS γ F) k)) → rLv γ F F_2 → (((l2_1.toInt = 0 ∧ (fI (F (γ 15 q1)) 0).toInt ≠ 32) ∨ (l2_1.toInt = 1 ∧ (fI (F (γ 15 q1)) 0).toInt ≠ 32 ∧ (fI (F (γ 15 q1)) 0).toInt ≠ 30 ∧ (fI (F q1) 2).toInt ≠ (fI (F q1) 3).toInt))) → (F_2 q0 = F q0) → 32 ≤ l3_2.toInt → R F_2 l3_2 66 F_2) →
  (∀ (F_2 : Nat → va_E) (l3_2 : Int32) (x1 : Nat → Int64) (x2 : Int64) (x3 : Int32) (x4 : Int32) (x5 : Int32) (x6 : Nat) (x7 : Nat → Int64) (x8 : Int64) (x9 : Int64) (x10 : Nat → Int64) (x11 : Nat → va_E) (x12 : Int32) (k : Nat) (e1 : Nat → va_E), gB l3_2 0 32 → RS D I P F_2 γ el → rStr γ [] F F_2 → ((∀ k : Nat, k < 2048 → rbt (cL (F_2 (γ 9 2))) k = if (k : Int) < 64 * l3_2.toInt then wyV (l2_1.toInt + 1) (fI (F q1) 2).toInt (fI (F q1) 3).toInt (lvS γ F) k else wyV l2_1.toInt (fI (F q1) 2).toInt (fI (F q1) 3).toInt (lvS γ F) k)) → rLv γ F F_2 → (((l2_1.toInt = 0 ∧ (fI (F (γ 15 q1)) 0).toInt ≠ 32) ∨ (l2_1.toInt = 1 ∧ (fI (F (γ 15 q1)) 0).toInt ≠ 32 ∧ (fI (F (γ 15 q1)) 0).toInt ≠ 30 ∧ (fI (F q1) 2).toInt ≠ (fI (F q1) 3).toInt))) → (F_2 q0 = F q0) → l3_2.toInt < 32 → fR (F_2 q0) 2 = (γ 9 2) → F_2 (γ 9 2) = .inl (I .long, 32, .inr (.inl x1)) → x2 = x1 l3_2.toNatClampNeg → fR (F_2 q0) 0 = (γ 9 0) → fI (F_2 q1) 2 = x3 → fI (F_2 q1) 3 = x4 → gB x5 0 39 → tr_RBlock_way3 l2_1 x3 x4 x5 → x6 = γ 10 x5.toInt.toNat → F_2 x6 = .inl (I .long, 32, .inr (.inl x7)) → x8 = x7 l3_2.toNatClampNeg → x9 = x2 ||| x8 → x10 = vp_updL x1 l3_2.toNatClampNeg x9 → (∀ b, b ≠ (γ 9 2) → x11 b = F_2 b) → x11 (γ 9 2) = .inl (I .long, 32, .inr (.inl x10)) → x12.toInt = l3_2.toInt + 1 → R x11 x12 k e1 → R F_2 l3_2 k e1) →
  R s1 s2 k e1
/- tl_RModel_behind2_23: F, l2; out: F -/
def tl_RModel_behind2_23 (D : va_G) (I : FieldType → ClassId) (γ el : Nat → Nat → Nat) (P : List Nat) (F : Nat → va_E) (q1 : Nat) (q0 : Nat) (s1 : Nat → va_E) (s2 : Int32) (k : Nat) (e1 : Nat → va_E) : Prop := ∀ R : (Nat → va_E) → (Int32) → Nat → (Nat → va_E) → Prop,
  (∀ (F_1 : Nat → va_E) (l2_1 : Int32) (x1 : Int32) (x2 : Int32) (x3 : Nat) (x4 : Int32) (x5 : Int32), gB l2_1 0 2 → RS D I P F_1 γ el → rStr γ [] F F_1 → ((∀ k : Nat, k < 2048 → rbt (cL (F_1 (γ 9 2))) k = wyV l2_1.toInt (fI (F q1) 2).toInt (fI (F q1) 3).toInt (lvS γ F) k)) → rLv γ F F_1 → ((l2_1.toInt = 0 ∨ ((fI (F (γ 15 q1)) 0).toInt ≠ 32 ∧ (l2_1.toInt = 1 ∨ (l2_1.toInt = 2 ∧ (fI (F (γ 15 q1)) 0).toInt ≠ 30 ∧ (fI (F q1) 2).toInt ≠ (fI (F q1) 3).toInt))))) → (F_1 q0 = F q0) → fI (F_1 q1) 2 = x1 → fI (F_1 q1) 3 = x2 → fR (F_1 q1) 1 = x3 → fI (F_1 x3) 0 = x4 → gB x5 0 2 → tr_RBlock_ways2 x1 x2 x4 x5 → x5.toInt ≤ l2_1.toInt → R F_1 l2_1 72 F_1) →
  (∀ (F_1 : Nat → va_E) (l2_1 : Int32) (x1 : Int32) (x2 : Int32) (x3 : Nat) (x4 : Int32) (x5 : Int32) (x6 : Nat → va_E) (x7 : Int32) (k : Nat) (e1 : Nat → va_E), gB l2_1 0 2 → RS D I P F_1 γ el → rStr γ [] F F_1 → ((∀ k : Nat, k < 2048 → rbt (cL (F_1 (γ 9 2))) k = wyV l2_1.toInt (fI (F q1) 2).toInt (fI (F q1) 3).toInt (lvS γ F) k)) → rLv γ F F_1 → ((l2_1.toInt = 0 ∨ ((fI (F (γ 15 q1)) 0).toInt ≠ 32 ∧ (l2_1.toInt = 1 ∨ (l2_1.toInt = 2 ∧ (fI (F (γ 15 q1)) 0).toInt ≠ 30 ∧ (fI (F q1) 2).toInt ≠ (fI (F q1) 3).toInt))))) → (F_1 q0 = F q0) → fI (F_1 q1) 2 = x1 → fI (F_1 q1) 3 = x2 → fR (F_1 q1) 1 = x3 → fI (F_1 x3) 0 = x4 → gB x5 0 2 → tr_RBlock_ways2 x1 x2 x4 x5 → l2_1.toInt < x5.toInt → tl_RModel_behind2_33 D I γ el P F l2_1 q1 q0 F_1 (0 : Int32) 66 x6 → x7.toInt = l2_1.toInt + 1 → R x6 x7 k e1 → R F_1 l2_1 k e1) →
  R s1 s2 k e1
/- tl_RModel_behind2_2: F, l2; out: F -/
def tl_RModel_behind2_2 (D : va_G) (I : FieldType → ClassId) (γ el : Nat → Nat → Nat) (P : List Nat) (F : Nat → va_E) (q0 : Nat) (s1 : Nat → va_E) (s2 : Int32) (k : Nat) (e1 : Nat → va_E) : Prop := ∀ R : (Nat → va_E) → (Int32) → Nat → (Nat → va_E) → Prop,
  (∀ (F_1 : Nat → va_E) (l2_1 : Int32), gB l2_1 0 32 → RS D I P F_1 γ el → rStr γ [] F F_1 → ((∀ j : Nat, (j : Int) < l2_1.toInt → cL (F_1 (γ 9 2)) j = 0)) → rLv γ F F_1 → (F_1 q0 = F q0) → 32 ≤ l2_1.toInt → R F_1 l2_1 21 F_1) →
  (∀ (F_1 : Nat → va_E) (l2_1 : Int32) (x1 : Nat → Int64) (x2 : Nat → Int64) (x3 : Nat → va_E) (x4 : Int32) (k : Nat) (e1 : Nat → va_E), gB l2_1 0 32 → RS D I P F_1 γ el → rStr γ [] F F_1 → ((∀ j : Nat, (j : Int) < l2_1.toInt → cL (F_1 (γ 9 2)) j = 0)) → rLv γ F F_1 → (F_1 q0 = F q0) → l2_1.toInt < 32 → fR (F_1 q0) 2 = (γ 9 2) → F_1 (γ 9 2) = .inl (I .long, 32, .inr (.inl x1)) → x2 = vp_updL x1 l2_1.toNatClampNeg 0 → (∀ b, b ≠ (γ 9 2) → x3 b = F_1 b) → x3 (γ 9 2) = .inl (I .long, 32, .inr (.inl x2)) → x4.toInt = l2_1.toInt + 1 → R x3 x4 k e1 → R F_1 l2_1 k e1) →
  R s1 s2 k e1
/- tr_RModel_behind2: F -/
def tr_RModel_behind2 (D : va_G) (I : FieldType → ClassId) (γ el : Nat → Nat → Nat) (P : List Nat) (F : Nat → va_E) (q0 : Nat) (q1 : Nat) (o1 : Nat → va_E) : Prop := ∀ R : (Nat → va_E) → Prop,
  (∀ (x1 : Nat → va_E) (x2 : Nat → va_E), tl_RModel_behind2_2 D I γ el P F q0 F (0 : Int32) 21 x1 → tl_RModel_behind2_23 D I γ el P F q1 q0 x1 (0 : Int32) 72 x2 → R x2) →
  R o1
abbrev ky_222903_SpillForgeModel_behind : gKey := (cX17_behind, 4, "SpillForgeModel", none, [], "behind", fun _ _ => True)
def pt_222903_SpillForgeModel_behind (D : va_G) (I : FieldType → ClassId) (γ el : Nat → Nat → Nat) (P222899 : List Nat) (F222900 : Nat → va_E) (q222901 : Nat) (q222902 : Nat) : Option Value → va_W → Nat → Nat → Prop := fun r w dc ds => ∃ (F225952 : Nat → va_E), r = none ∧ w = va_pl P222899 F225952 ∧ RS D I P222899 F225952 γ el ∧ rStr γ [] F222900 F225952 ∧ dc ≤ 0 ∧ ds ≤ 0 ∧ (∀ k : Nat, k < 2048 → rbt (cL (F225952 (γ 9 2))) k = bhV (fI (F222900 (γ 15 q222902)) 0).toInt (fI (F222900 q222902) 2).toInt (fI (F222900 q222902) 3).toInt (lvS γ F222900) k) ∧ rLv γ F222900 F225952 ∧ (F225952 q222901 = F222900 q222901) ∧ tr_RModel_behind2 D I γ el P222899 F222900 q222901 q222902 F225952
set_option maxRecDepth 100000 in
set_option maxHeartbeats 4000000 in
theorem ct_222903_SpillForgeModel_behind (l : Launch) (hl0 : l.stackTraces = false) (D : va_G) (I : FieldType → ClassId) (γ el : Nat → Nat → Nat) (P222899 : List Nat) (F222900 : Nat → va_E) (q222901 : Nat) (q222902 : Nat) (hT : RS D I P222899 F222900 γ el) (htq222901 : rKd γ q222901 10) (htq222902 : rKd γ q222902 2) : CtA (gV D I) l yX17_behind cX17_behind 4 none 1 21 0 0 [.ref q222901, .ref q222902] (va_pl P222899 F222900) (pt_222903_SpillForgeModel_behind D I γ el P222899 F222900 q222901 q222902) gNA := by
  refine CtA_of hl0 (by decide) (Nat.le_of_ble_eq_true rfl) ?_
  have hm222904 : q222901 ∈ P222899 := RS_m hT htq222901 (by decide)
  obtain ⟨q222906, q222907, p222908, p222909, p222910, p222911, p222912, p222913, p222914, p222915, p222916, p222917, p222918, p222919, p222920, p222921, p222922, he222905, hB222949, ht222923, ht222924, ht222925, ht222926, ht222927, ht222928, ht222929, ht222930, ht222931, ht222932, ht222933, ht222934, ht222935, ht222936, ht222937, ht222938, ht222939, ht222940, ht222941, ht222942, ht222943, ht222944, ht222945, ht222946, hB222950⟩ := show rk_10 γ (F222900 q222901) from RS_o hT htq222901
  have hm222951 : (γ 9 2) ∈ P222899 := RS_m hT ht222927 (by decide)
  obtain ⟨f222953, he222952, wf222953⟩ := show rk_35 I (F222900 (γ 9 2)) from RS_o hT ht222927
  have hm222954 : q222902 ∈ P222899 := RS_m hT htq222902 (by decide)
  obtain ⟨q222956, q222957, p222958, p222959, he222955, ht222966, ht222960, ht222961, ht222962, ht222963, ht222964, bp222958, bp222959, r222965, r222967, r222968⟩ := show rk_2 γ q222902 (F222900 q222902) from RS_o hT htq222902
  have hm222969 : q222957 ∈ P222899 := RS_m hT ht222962 (by decide)
  obtain ⟨p222971, p222972, p222973, p222974, p222975, p222976, p222977, he222970, bp222971, bp222972, bp222975, bp222976, bp222977, r222978, r222979, r222980, r222981, r222982⟩ := show rk_1 γ q222957 (F222900 q222957) from RS_o hT ht222962
  have bp222973 := gB_any p222973
  have bp222974 := gB_any p222974
  have fe1 : (fI (F222900 q222902) 2).toInt = p222958.toInt := by rw [he222955]; rfl
  have fe2 : (fI (F222900 q222902) 3).toInt = p222959.toInt := by rw [he222955]; rfl
  have fe3 : (fI (F222900 (γ 15 q222902)) 0).toInt = p222971.toInt := by rw [ht222966.2.1, he222970]; rfl
  refine G_iconst 0 dr_cX17_behind_0 (by decide +kernel) ?_
  refine G_istore_n (L' := [(2, .int 0), (0, .ref q222901), (1, .ref q222902)]) dr_cX17_behind_1 (Nat.le_of_ble_eq_true rfl) rfl ?_
  have hlp2_225324 : ∀ (n2_225324 : Nat) (F225319 : Nat → va_E) (g225318 : Int32), gB g225318 0 32 → RS D I P222899 F225319 γ el → rStr γ [] F222900 F225319 → (∀ j : Nat, (j : Int) < g225318.toInt → cL (F225319 (γ 9 2)) j = 0) → rLv γ F222900 F225319 → (F225319 q222901 = F222900 q222901) → (∀ (k : Nat) (e1 : Nat → va_E), tl_RModel_behind2_2 D I γ el P222899 F222900 q222901 F225319 g225318 k e1 → tl_RModel_behind2_2 D I γ el P222899 F222900 q222901 F222900 (0 : Int32) k e1) → ((33 : Int) - g225318.toInt).toNat < n2_225324 → G (gV D I) l (gRm 1 21 0 0) (gMA (gV D I) (pt_222903_SpillForgeModel_behind D I γ el P222899 F222900 q222901 q222902) gNA 0 0) ky_222903_SpillForgeModel_behind 2 [(2, .int g225318), (0, .ref q222901), (1, .ref q222902)] [] (va_pl P222899 F225319) 0 0 := by
    intro n2_225324
    induction n2_225324 with
    | zero => intro F225319 g225318 bg225318 hT225320 hs225321 x225322 x225323 x225324 kt2_225325 hm2_225324; exact absurd hm2_225324 (Nat.not_lt_zero _)
    | succ n2_225324 ih2_225324 =>
      intro F225319 g225318 bg225318 hT225320 hs225321 x225322 x225323 x225324 kt2_225325 hm2_225324
      have hs225326 : rStr γ [] F222900 F225319 := fun b h0 hb hw => (hs225321 b h0 hb hw).trans ((rStr_rf (γ := γ) (W := []) (F := F222900)) b h0 hb hw).symm
      have he225327 : F225319 q222902 = .inr (17, [.ref q222956, .ref q222957, .int p222958, .int p222959]) := (hs225326 q222902 (rT0 htq222902 (by decide)) (rT1 htq222902 (by decide)) (rT2 htq222902 (by decide))).trans he222955
      have he225328 : F225319 q222957 = .inr (20, [.int p222971, .int p222972, .int p222973, .int p222974, .int p222975, .int p222976, .int p222977]) := (hs225326 q222957 (rT0 ht222962 (by decide)) (rT1 ht222962 (by decide)) (rT2 ht222962 (by decide))).trans he222970
      have hs225329 : rStr γ [] F222900 F225319 := rStr_tr (rStr_rf (γ := γ) (W := []) (F := F222900)) hs225326
      refine G_iload_n 0 dr_cX17_behind_2 rfl ?_
      refine G_bipush 32 dr_cX17_behind_3 (by decide +kernel) ?_
      refine G_icmp_ge 21 dr_cX17_behind_5 (by decide +kernel) (fun hc225330 => ?_) (fun hc225330 => ?_)
      · have r225331 : 32 ≤ g225318.toInt := gj_leL hc225330 (show Int32.toInt 32 = 32 by decide)
        have bg225318' : gB g225318 32 32 := ⟨by omega, by omega⟩
        have hx225332 : tl_RModel_behind2_2 D I γ el P222899 F222900 q222901 F222900 (0 : Int32) 21 F225319 := kt2_225325 21 F225319 (fun R c1 c2 => c1 F225319 g225318 bg225318 hT225320 hs225321 x225322 x225323 x225324 r225331)
        refine G_iconst 0 dr_cX17_behind_21 (by decide +kernel) ?_
        refine G_istore_n (L' := [(2, .int 0), (0, .ref q222901), (1, .ref q222902)]) dr_cX17_behind_22 (Nat.le_of_ble_eq_true rfl) rfl ?_
        have hlp23_225609 : ∀ (n23_225609 : Nat) (F225603 : Nat → va_E) (g225602 : Int32), gB g225602 0 2 → RS D I P222899 F225603 γ el → rStr γ [] F222900 F225603 → (∀ k : Nat, k < 2048 → rbt (cL (F225603 (γ 9 2))) k = wyV g225602.toInt (fI (F222900 q222902) 2).toInt (fI (F222900 q222902) 3).toInt (lvS γ F222900) k) → rLv γ F222900 F225603 → (g225602.toInt = 0 ∨ ((fI (F222900 (γ 15 q222902)) 0).toInt ≠ 32 ∧ (g225602.toInt = 1 ∨ (g225602.toInt = 2 ∧ (fI (F222900 (γ 15 q222902)) 0).toInt ≠ 30 ∧ (fI (F222900 q222902) 2).toInt ≠ (fI (F222900 q222902) 3).toInt)))) → (F225603 q222901 = F222900 q222901) → (∀ (k : Nat) (e1 : Nat → va_E), tl_RModel_behind2_23 D I γ el P222899 F222900 q222902 q222901 F225603 g225602 k e1 → tl_RModel_behind2_23 D I γ el P222899 F222900 q222902 q222901 F225319 (0 : Int32) k e1) → ((3 : Int) - g225602.toInt).toNat < n23_225609 → G (gV D I) l (gRm 1 21 0 0) (gMA (gV D I) (pt_222903_SpillForgeModel_behind D I γ el P222899 F222900 q222901 q222902) gNA 0 0) ky_222903_SpillForgeModel_behind 23 [(2, .int g225602), (0, .ref q222901), (1, .ref q222902)] [] (va_pl P222899 F225603) 0 0 := by
          intro n23_225609
          induction n23_225609 with
          | zero => intro F225603 g225602 bg225602 hT225604 hs225605 x225606 x225607 x225608 x225609 kt23_225610 hm23_225609; exact absurd hm23_225609 (Nat.not_lt_zero _)
          | succ n23_225609 ih23_225609 =>
            intro F225603 g225602 bg225602 hT225604 hs225605 x225606 x225607 x225608 x225609 kt23_225610 hm23_225609
            have hs225611 : rStr γ [] F225319 F225603 := fun b h0 hb hw => (hs225605 b h0 hb hw).trans (hs225321 b h0 hb hw).symm
            have he225612 : F225603 q222902 = .inr (17, [.ref q222956, .ref q222957, .int p222958, .int p222959]) := (hs225611 q222902 (rT0 htq222902 (by decide)) (rT1 htq222902 (by decide)) (rT2 htq222902 (by decide))).trans he225327
            have he225613 : F225603 q222957 = .inr (20, [.int p222971, .int p222972, .int p222973, .int p222974, .int p222975, .int p222976, .int p222977]) := (hs225611 q222957 (rT0 ht222962 (by decide)) (rT1 ht222962 (by decide)) (rT2 ht222962 (by decide))).trans he225328
            have hs225614 : rStr γ [] F222900 F225603 := rStr_tr hs225321 hs225611
            refine G_iload_n 0 dr_cX17_behind_23 rfl ?_
            refine G_aload_n 2 dr_cX17_behind_24 rfl ?_
            have fq225615 : fI (F225603 q222902) 2 = p222958 := by rw [he225612]; rfl
            have fq225616 : fI (F225603 q222902) 3 = p222959 := by rw [he225612]; rfl
            have fq225617 : fR (F225603 q222902) 1 = q222957 := by rw [he225612]; rfl
            have fq225618 : fI (F225603 q222957) 0 = p222971 := by rw [he225613]; rfl
            refine Gw_callV (As := []) (gV_ok D I) (cp_223161_Block_ways l hl0 D I P222899 F225603 q222902 q222957 q222956 p222958 p222959 p222971 p222972 p222973 p222974 p222975 p222976 p222977 hm222954 hm222969 he225612 he225613 bp222958 bp222959 bp222971 bp222972 bp222975 bp222976 bp222977) dr_cX17_behind_25 ⟨wr_10_166, wr_1_38, wr_10_169, by decide, rfl, (Nat.le_of_ble_eq_true rfl), (Nat.le_of_ble_eq_true rfl)⟩ wr_10_167 wr_10_168 hm222954 he225612 rfl (show 0 + 0 ≤ 0 by first | omega | decide) (show 0 + 0 ≤ 0 by first | omega | decide) (Nat.le_of_ble_eq_true rfl) (fun r225622 w225623 dc225619 ds225620 hp225621 => ?_) (fun _ _ _ _ _ z => z.elim)
            obtain ⟨o225624, rfl, rfl, hdc, hds, bo225624, x225625, ht225626⟩ := hp225621
            change G _ _ _ _ _ _ _ (.int o225624 :: _) _ _ _
            refine G_widen (cs' := 0) (sl' := 0) (by omega) (by omega) ?_
            refine G_icmp_ge 72 dr_cX17_behind_28 (by decide +kernel) (fun hc225627 => ?_) (fun hc225627 => ?_)
            · have r225628 : o225624.toInt ≤ g225602.toInt := gC_le hc225627
              have hx225629 : tl_RModel_behind2_23 D I γ el P222899 F222900 q222902 q222901 F225319 (0 : Int32) 72 F225603 := kt23_225610 72 F225603 (fun R c1 c2 => c1 F225603 g225602 p222958 p222959 q222957 p222971 o225624 bg225602 hT225604 hs225605 x225606 x225607 x225608 x225609 fq225615 fq225616 fq225617 fq225618 bo225624 ht225626 r225628)
              have hm225630 : q222901 ∈ P222899 := RS_m hT225604 htq222901 (by decide)
              obtain ⟨q225632, q225633, p225634, p225635, p225636, p225637, p225638, p225639, p225640, p225641, p225642, p225643, p225644, p225645, p225646, p225647, p225648, he225631, hB225675, ht225649, ht225650, ht225651, ht225652, ht225653, ht225654, ht225655, ht225656, ht225657, ht225658, ht225659, ht225660, ht225661, ht225662, ht225663, ht225664, ht225665, ht225666, ht225667, ht225668, ht225669, ht225670, ht225671, ht225672, hB225676⟩ := show rk_10 γ (F225603 q222901) from RS_o hT225604 htq222901
              exact G_vretA dr_cX17_behind_72 rfl (Nat.le_of_ble_eq_true rfl) (Nat.le_of_ble_eq_true rfl) ⟨F225603, rfl, rfl, hT225604, hs225605, (Nat.le_of_ble_eq_true rfl), (Nat.le_of_ble_eq_true rfl), (fun k hk => (x225606 k hk).trans (bh_of (by omega))), x225607, x225609, (fun R c1 => c1 F225319 F225603 hx225332 hx225629)⟩
            · have r225677 : g225602.toInt < o225624.toInt := gC_nle hc225627
              have bg225602' : gB g225602 0 1 := ⟨by omega, by omega⟩
              have bo225624' : gB o225624 1 2 := ⟨by omega, by omega⟩
              refine G_iconst 0 dr_cX17_behind_31 (by decide +kernel) ?_
              refine G_istore_n (L' := [(3, .int 0), (2, .int g225602), (0, .ref q222901), (1, .ref q222902)]) dr_cX17_behind_32 (Nat.le_of_ble_eq_true rfl) rfl ?_
              have hlp33_225784 : ∀ (n33_225784 : Nat) (F225778 : Nat → va_E) (g225777 : Int32), gB g225777 0 32 → RS D I P222899 F225778 γ el → rStr γ [] F222900 F225778 → (∀ k : Nat, k < 2048 → rbt (cL (F225778 (γ 9 2))) k = if (k : Int) < 64 * g225777.toInt then wyV (g225602.toInt + 1) (fI (F222900 q222902) 2).toInt (fI (F222900 q222902) 3).toInt (lvS γ F222900) k else wyV g225602.toInt (fI (F222900 q222902) 2).toInt (fI (F222900 q222902) 3).toInt (lvS γ F222900) k) → rLv γ F222900 F225778 → ((g225602.toInt = 0 ∧ (fI (F222900 (γ 15 q222902)) 0).toInt ≠ 32) ∨ (g225602.toInt = 1 ∧ (fI (F222900 (γ 15 q222902)) 0).toInt ≠ 32 ∧ (fI (F222900 (γ 15 q222902)) 0).toInt ≠ 30 ∧ (fI (F222900 q222902) 2).toInt ≠ (fI (F222900 q222902) 3).toInt)) → (F225778 q222901 = F222900 q222901) → (∀ (k : Nat) (e1 : Nat → va_E), tl_RModel_behind2_33 D I γ el P222899 F222900 g225602 q222902 q222901 F225778 g225777 k e1 → tl_RModel_behind2_33 D I γ el P222899 F222900 g225602 q222902 q222901 F225603 (0 : Int32) k e1) → ((33 : Int) - g225777.toInt).toNat < n33_225784 → G (gV D I) l (gRm 1 21 0 0) (gMA (gV D I) (pt_222903_SpillForgeModel_behind D I γ el P222899 F222900 q222901 q222902) gNA 0 0) ky_222903_SpillForgeModel_behind 33 [(3, .int g225777), (2, .int g225602), (0, .ref q222901), (1, .ref q222902)] [] (va_pl P222899 F225778) 0 0 := by
                intro n33_225784
                induction n33_225784 with
                | zero => intro F225778 g225777 bg225777 hT225779 hs225780 x225781 x225782 x225783 x225784 kt33_225785 hm33_225784; exact absurd hm33_225784 (Nat.not_lt_zero _)
                | succ n33_225784 ih33_225784 =>
                  intro F225778 g225777 bg225777 hT225779 hs225780 x225781 x225782 x225783 x225784 kt33_225785 hm33_225784
                  have hs225786 : rStr γ [] F225603 F225778 := fun b h0 hb hw => (hs225780 b h0 hb hw).trans (hs225605 b h0 hb hw).symm
                  have he225787 : F225778 q222902 = .inr (17, [.ref q222956, .ref q222957, .int p222958, .int p222959]) := (hs225786 q222902 (rT0 htq222902 (by decide)) (rT1 htq222902 (by decide)) (rT2 htq222902 (by decide))).trans he225612
                  have he225788 : F225778 q222957 = .inr (20, [.int p222971, .int p222972, .int p222973, .int p222974, .int p222975, .int p222976, .int p222977]) := (hs225786 q222957 (rT0 ht222962 (by decide)) (rT1 ht222962 (by decide)) (rT2 ht222962 (by decide))).trans he225613
                  have hs225789 : rStr γ [] F222900 F225778 := rStr_tr hs225605 hs225786
                  refine G_iload_n 0 dr_cX17_behind_33 rfl ?_
                  refine G_bipush 32 dr_cX17_behind_34 (by decide +kernel) ?_
                  refine G_icmp_ge 66 dr_cX17_behind_36 (by decide +kernel) (fun hc225790 => ?_) (fun hc225790 => ?_)
                  · have r225791 : 32 ≤ g225777.toInt := gj_leL hc225790 (show Int32.toInt 32 = 32 by decide)
                    have bg225777' : gB g225777 32 32 := ⟨by omega, by omega⟩
                    have hx225792 : tl_RModel_behind2_33 D I γ el P222899 F222900 g225602 q222902 q222901 F225603 (0 : Int32) 66 F225778 := kt33_225785 66 F225778 (fun R c1 c2 => c1 F225778 g225777 bg225777 hT225779 hs225780 x225781 x225782 x225783 x225784 r225791)
                    obtain ⟨z225793, hz225793⟩ : ∃ z : Int32, z = g225602 + Int32.ofInt 1 := ⟨_, rfl⟩
                    have ez225793 : z225793.toInt = g225602.toInt + 1 := gI_inc hz225793 (by decide) bg225602' (by decide) (by decide)
                    have bz225793 : gB z225793 1 2 := ⟨by omega, by omega⟩
                    refine G_iinc (L' := [(2, .int z225793), (3, .int g225777), (0, .ref q222901), (1, .ref q222902)]) z225793 1 dr_cX17_behind_66 rfl hz225793.symm (Nat.le_of_ble_eq_true rfl) rfl ?_
                    refine G_goto 23 dr_cX17_behind_69 (by decide +kernel) ?_
                    refine G_lv (L' := [(2, .int z225793), (0, .ref q222901), (1, .ref q222902)]) [0, 2, 3] rfl ?_
                    exact ih23_225609 F225778 z225793 (gB_w bz225793 (by decide) (by decide)) hT225779 hs225780 (fun k hk => by have q := x225781 k hk; rw [if_pos (by omega)] at q; rw [ez225793]; exact q) x225782 (by rw [show fI (F222900 q222902) 2 = p222958 from by rw [he222955]; rfl, show fI (F222900 q222902) 3 = p222959 from by rw [he222955]; rfl] <;> (omega)) x225784 (fun k e1 ht => kt23_225610 k e1 (fun R c1 c2 => c2 F225603 g225602 p222958 p222959 q222957 p222971 o225624 F225778 z225793 k e1 bg225602 hT225604 hs225605 x225606 x225607 x225608 x225609 fq225615 fq225616 fq225617 fq225618 bo225624 ht225626 r225677 hx225792 ez225793 (ht R c1 c2))) (by omega)
                  · have r225794 : g225777.toInt < 32 := gj_nleL hc225790 (show Int32.toInt 32 = 32 by decide)
                    have bg225777' : gB g225777 0 31 := ⟨by omega, by omega⟩
                    refine G_aload_n 2 dr_cX17_behind_39 rfl ?_
                    have hm225795 : q222901 ∈ P222899 := RS_m hT225779 htq222901 (by decide)
                    obtain ⟨q225797, q225798, p225799, p225800, p225801, p225802, p225803, p225804, p225805, p225806, p225807, p225808, p225809, p225810, p225811, p225812, p225813, he225796, hB225840, ht225814, ht225815, ht225816, ht225817, ht225818, ht225819, ht225820, ht225821, ht225822, ht225823, ht225824, ht225825, ht225826, ht225827, ht225828, ht225829, ht225830, ht225831, ht225832, ht225833, ht225834, ht225835, ht225836, ht225837, hB225841⟩ := show rk_10 γ (F225778 q222901) from RS_o hT225779 htq222901
                    have fq225842 : fR (F225778 q222901) 2 = (γ 9 2) := by rw [he225796]; rfl
                    refine Gp_get 2 hm225795 he225796 dr_cX17_behind_40 (gk_X17 D I) (Nat.le_of_ble_eq_true rfl) wr_7_76 rfl ?_
                    refine G_iload_n 0 dr_cX17_behind_43 rfl ?_
                    refine G_dup2_11 dr_cX17_behind_44 rfl rfl ?_
                    have hm225843 : (γ 9 2) ∈ P222899 := RS_m hT225779 ht225818 (by decide)
                    obtain ⟨f225845, he225844, wf225845⟩ := show rk_35 I (F225778 (γ 9 2)) from RS_o hT225779 ht225818
                    refine Gp_lald 2 hm225843 he225844 dr_cX17_behind_45 rfl (gB_in bg225777' (by decide) (by decide)) (G_namL fun u225846 hu225846 => ?_)
                    have qu225846 : lb_Q u225846 (2000 - 64 * g225777.toInt) := lb_Wld hu225846 wf225845 (by omega) (by omega) (lb_Mod0 (by omega) (by omega))
                    refine G_aload_n 2 dr_cX17_behind_46 rfl ?_
                    have fq225847 : fR (F225778 q222901) 0 = (γ 9 0) := by rw [he225796]; rfl
                    refine Gp_get 0 hm225795 he225796 dr_cX17_behind_47 (gk_X17 D I) (Nat.le_of_ble_eq_true rfl) wr_7_74 rfl ?_
                    refine G_aload_n 3 dr_cX17_behind_50 rfl ?_
                    refine G_iload_n 1 dr_cX17_behind_51 rfl ?_
                    have fq225848 : fI (F225778 q222902) 2 = p222958 := by rw [he225787]; rfl
                    have fq225849 : fI (F225778 q222902) 3 = p222959 := by rw [he225787]; rfl
                    have fq225850 : fR (F225778 q222902) 1 = q222957 := by rw [he225787]; rfl
                    refine Gw_callV (As := [.int g225602]) (gV_ok D I) (cp_223296_Block_way l hl0 D I P222899 F225778 q222902 q222957 g225602 q222956 p222958 p222959 p222971 p222972 p222973 p222974 p222975 p222976 p222977 hm222954 hm222969 he225787 he225788 bp222958 bp222959 bp222971 bp222972 bp222975 bp222976 bp222977) dr_cX17_behind_52 ⟨wr_10_170, wr_1_38, wr_10_173, by decide, rfl, (Nat.le_of_ble_eq_true rfl), (Nat.le_of_ble_eq_true rfl)⟩ wr_10_171 wr_10_172 hm222954 he225787 rfl (show 0 + 0 ≤ 0 by first | omega | decide) (show 0 + 0 ≤ 0 by first | omega | decide) (Nat.le_of_ble_eq_true rfl) (fun r225854 w225855 dc225851 ds225852 hp225853 => ?_) (fun _ _ _ _ _ z => z.elim)
                    obtain ⟨o225856, rfl, rfl, hdc, hds, bo225856, x225857, ht225858⟩ := hp225853
                    change G _ _ _ _ _ _ _ (.int o225856 :: _) _ _ _
                    refine G_widen (cs' := 0) (sl' := 0) (by omega) (by omega) ?_
                    have hm225859 : (γ 9 0) ∈ P222899 := RS_m hT225779 ht225816 (by decide)
                    obtain ⟨f225861, he225860, hg225862⟩ := show rk_12 I γ (F225778 (γ 9 0)) from RS_o hT225779 ht225816
                    obtain ⟨q225863, hx225865⟩ : ∃ x, x = γ 10 o225856.toInt.toNat := ⟨_, rfl⟩
                    have ht225864 : rKd γ q225863 11 := by rw [hx225865]; exact (hg225862 _ (show o225856.toInt.toNat < 40 by omega)).2.1
                    refine Gp_aald 5 hm225859 he225860 dr_cX17_behind_55 rfl rfl (gB_in bo225856 (by decide) (by decide)) ?_
                    rw [show f225861 o225856.toNatClampNeg = some q225863 from (hg225862 _ (show o225856.toInt.toNat < 40 by omega)).1.trans (by rw [hx225865])]
                    change G _ _ _ _ _ _ _ (.ref q225863 :: _) _ _ _
                    refine G_iload_n 0 dr_cX17_behind_56 rfl ?_
                    have hm225866 : q225863 ∈ P222899 := RS_m hT225779 ht225864 (by decide)
                    obtain ⟨f225868, he225867, wf225868⟩ := show rk_11 I (F225778 q225863) from RS_o hT225779 ht225864
                    refine Gp_lald 2 hm225866 he225867 dr_cX17_behind_57 rfl (gB_in bg225777' (by decide) (by decide)) (G_namL fun u225869 hu225869 => ?_)
                    have qu225869 : lb_Q u225869 (2000 - 64 * g225777.toInt) := lb_Wld hu225869 wf225868 (by omega) (by omega) (lb_Mod0 (by omega) (by omega))
                    have hg225870 : ∀ k : Nat, lvS γ F222900 o225856.toInt.toNat k = rbt f225868 k := fun k => by unfold lvS; rw [← x225782 _ (show o225856.toInt.toNat < 40 by omega), ← hx225865, cL_of he225867]
                    refine G_lor dr_cX17_behind_58 (G_namL fun u225871 hu225871 => ?_)
                    have qu225871 : lb_Q u225871 (2000 - 64 * g225777.toInt) := lb_Qor hu225871 qu225846 qu225869
                    refine Gp_last 2 hm225843 he225844 dr_cX17_behind_59 rfl (gB_in bg225777' (by decide) (by decide)) (fun F225872 e225873 n225874 => ?_)
                    obtain ⟨f225875, hf225875⟩ : ∃ z, z = vp_updL f225845 g225777.toNatClampNeg u225871 := ⟨_, rfl⟩
                    rw [← hf225875] at e225873
                    have he225876 : F225872 q222902 = .inr (17, [.ref q222956, .ref q222957, .int p222958, .int p222959]) := (n225874 q222902 (rn_oa he225787 he225844)).trans he225787
                    have he225877 : F225872 q222957 = .inr (20, [.int p222971, .int p222972, .int p222973, .int p222974, .int p222975, .int p222976, .int p222977]) := (n225874 q222957 (rn_oa he225788 he225844)).trans he225788
                    have he225878 : F225872 q222901 = .inr (22, [.ref (γ 9 0), .ref (γ 9 1), .ref (γ 9 2), .ref (γ 9 3), .ref (γ 9 4), .ref (γ 9 5), .ref (γ 9 6), .ref (γ 9 7), .ref (γ 9 8), .int p225799, .int p225800, .int p225801, .int p225802, .int p225803, .int p225804, .ref (γ 9 15), .ref (γ 9 16), .ref (γ 9 17), .ref (γ 9 18), .ref (γ 9 19), .ref (γ 9 20), .ref (γ 9 21), .ref (γ 9 22), .int p225805, .int p225806, .int p225807, .int p225808, .int p225809, .ref q225797, .ref (γ 9 29), .int p225810, .ref (γ 9 31), .int p225811, .int p225812, .int p225813, .ref q225798]) := (n225874 q222901 (rn_oa he225796 he225844)).trans he225796
                    have he225879 : F225872 (γ 9 0) = .inl (I (.array .long), 40, .inr (.inr (.inr (.inr f225861)))) := (n225874 (γ 9 0) (rn_ref_long he225860 he225844)).trans he225860
                    have he225880 : F225872 q225863 = .inl (I .long, 32, .inr (.inl f225868)) := (n225874 q225863 (rn_ty ht225864 ht225818 (by decide))).trans he225867
                    have he225881 : F225872 (γ 9 2) = .inl (I .long, 32, .inr (.inl f225875)) := e225873
                    have hs225882 : rStr γ [] F222900 F225872 := rStr_put hs225780 n225874 ht225818 (by decide)
                    have kp225883 : F225872 q222901 = F222900 q222901 := (n225874 q222901 (rn_ty htq222901 ht225818 (by decide))).trans x225784
                    have wf225875 : lb_W f225875 (32) (32) (2000) := lb_Wst hf225875 wf225845 (by omega) (lb_Mod0 (by omega) (by omega)) qu225871
                    obtain ⟨z225884, hz225884⟩ : ∃ z : Int32, z = g225777 + Int32.ofInt 1 := ⟨_, rfl⟩
                    have ez225884 : z225884.toInt = g225777.toInt + 1 := gI_inc hz225884 (by decide) bg225777' (by decide) (by decide)
                    have bz225884 : gB z225884 1 32 := ⟨by omega, by omega⟩
                    refine G_iinc (L' := [(3, .int z225884), (2, .int g225602), (0, .ref q222901), (1, .ref q222902)]) z225884 0 dr_cX17_behind_60 rfl hz225884.symm (Nat.le_of_ble_eq_true rfl) rfl ?_
                    refine G_goto 33 dr_cX17_behind_63 (by decide +kernel) ?_
                    have hT225885 : RS D I P222899 F225872 γ el := RS_set hT225779 n225874 ht225818 (by decide) ⟨f225875, he225881, wf225875⟩
                    have lv225886 : rLv γ F222900 F225872 := rLv_put hT225779 ht225816 x225782 n225874 ht225818 (by decide)
                    exact ih33_225784 F225872 z225884 (gB_w bz225884 (by decide) (by decide)) hT225885 hs225882 (by rw [cL_of he225881]; exact or_st hu225846 hu225869 (by assumption) hf225875 bg225777'.1 ez225884 (by have q := x225781; rw [cL_of he225844] at q; exact q) (fun k => (wy_s (y := o225856.toInt) (by omega)).trans (by rw [hg225870 k]))) lv225886 (by rw [show fI (F222900 q222902) 2 = p222958 from by rw [he222955]; rfl, show fI (F222900 q222902) 3 = p222959 from by rw [he222955]; rfl] <;> (omega)) kp225883 (fun k e1 ht => kt33_225785 k e1 (fun R c1 c2 => c2 F225778 g225777 f225845 u225846 p222958 p222959 o225856 q225863 f225868 u225869 u225871 f225875 F225872 z225884 k e1 bg225777 hT225779 hs225780 x225781 x225782 x225783 x225784 r225794 fq225842 he225844 hu225846 fq225847 fq225848 fq225849 bo225856 ht225858 hx225865 he225867 hu225869 hu225871 hf225875 n225874 he225881 ez225884 (ht R c1 c2))) (by omega)
              exact hlp33_225784 (((33 : Int) - 0).toNat + 1) F225603 0 (gB_w (gBl (show Int32.toInt 0 = 0 by decide)) (by decide) (by decide)) hT225604 hs225605 (fun k hk => by rw [if_neg (by have qa : Int32.toInt 0 = 0 := (by decide); omega)]; exact x225606 k hk) x225607 (by rw [show fI (F222900 q222902) 2 = p222958 from by rw [he222955]; rfl, show fI (F222900 q222902) 3 = p222959 from by rw [he222955]; rfl] <;> (omega)) x225609 (fun k e1 ht => ht) (Nat.lt_succ_self _)
        exact hlp23_225609 (((3 : Int) - 0).toNat + 1) F225319 0 (gB_w (gBl (show Int32.toInt 0 = 0 by decide)) (by decide) (by decide)) hT225320 hs225321 (fun k hk => (rbt_z (x225322 _ (by omega))).trans wy_0.symm) x225323 (Or.inl (by decide)) x225324 (fun k e1 ht => ht) (Nat.lt_succ_self _)
      · have r225887 : g225318.toInt < 32 := gj_nleL hc225330 (show Int32.toInt 32 = 32 by decide)
        have bg225318' : gB g225318 0 31 := ⟨by omega, by omega⟩
        refine G_aload_n 1 dr_cX17_behind_8 rfl ?_
        have hm225888 : q222901 ∈ P222899 := RS_m hT225320 htq222901 (by decide)
        obtain ⟨q225890, q225891, p225892, p225893, p225894, p225895, p225896, p225897, p225898, p225899, p225900, p225901, p225902, p225903, p225904, p225905, p225906, he225889, hB225933, ht225907, ht225908, ht225909, ht225910, ht225911, ht225912, ht225913, ht225914, ht225915, ht225916, ht225917, ht225918, ht225919, ht225920, ht225921, ht225922, ht225923, ht225924, ht225925, ht225926, ht225927, ht225928, ht225929, ht225930, hB225934⟩ := show rk_10 γ (F225319 q222901) from RS_o hT225320 htq222901
        have fq225935 : fR (F225319 q222901) 2 = (γ 9 2) := by rw [he225889]; rfl
        refine Gp_get 2 hm225888 he225889 dr_cX17_behind_9 (gk_X17 D I) (Nat.le_of_ble_eq_true rfl) wr_7_76 rfl ?_
        refine G_iload_n 0 dr_cX17_behind_12 rfl ?_
        refine G_lconst 0 dr_cX17_behind_13 rfl ?_
        have hm225936 : (γ 9 2) ∈ P222899 := RS_m hT225320 ht225911 (by decide)
        obtain ⟨f225938, he225937, wf225938⟩ := show rk_35 I (F225319 (γ 9 2)) from RS_o hT225320 ht225911
        refine Gp_last 2 hm225936 he225937 dr_cX17_behind_14 rfl (gB_in bg225318' (by decide) (by decide)) (fun F225939 e225940 n225941 => ?_)
        obtain ⟨f225942, hf225942⟩ : ∃ z, z = vp_updL f225938 g225318.toNatClampNeg 0 := ⟨_, rfl⟩
        rw [← hf225942] at e225940
        have he225943 : F225939 q222902 = .inr (17, [.ref q222956, .ref q222957, .int p222958, .int p222959]) := (n225941 q222902 (rn_oa he225327 he225937)).trans he225327
        have he225944 : F225939 q222957 = .inr (20, [.int p222971, .int p222972, .int p222973, .int p222974, .int p222975, .int p222976, .int p222977]) := (n225941 q222957 (rn_oa he225328 he225937)).trans he225328
        have he225945 : F225939 q222901 = .inr (22, [.ref (γ 9 0), .ref (γ 9 1), .ref (γ 9 2), .ref (γ 9 3), .ref (γ 9 4), .ref (γ 9 5), .ref (γ 9 6), .ref (γ 9 7), .ref (γ 9 8), .int p225892, .int p225893, .int p225894, .int p225895, .int p225896, .int p225897, .ref (γ 9 15), .ref (γ 9 16), .ref (γ 9 17), .ref (γ 9 18), .ref (γ 9 19), .ref (γ 9 20), .ref (γ 9 21), .ref (γ 9 22), .int p225898, .int p225899, .int p225900, .int p225901, .int p225902, .ref q225890, .ref (γ 9 29), .int p225903, .ref (γ 9 31), .int p225904, .int p225905, .int p225906, .ref q225891]) := (n225941 q222901 (rn_oa he225889 he225937)).trans he225889
        have he225946 : F225939 (γ 9 2) = .inl (I .long, 32, .inr (.inl f225942)) := e225940
        have hs225947 : rStr γ [] F222900 F225939 := rStr_put hs225321 n225941 ht225911 (by decide)
        have kp225948 : F225939 q222901 = F222900 q222901 := (n225941 q222901 (rn_ty htq222901 ht225911 (by decide))).trans x225324
        have wf225942 : lb_W f225942 (32) (32) (2000) := lb_Wst hf225942 wf225938 (by omega) (lb_Mod0 (by omega) (by omega)) lb_Q0
        obtain ⟨z225949, hz225949⟩ : ∃ z : Int32, z = g225318 + Int32.ofInt 1 := ⟨_, rfl⟩
        have ez225949 : z225949.toInt = g225318.toInt + 1 := gI_inc hz225949 (by decide) bg225318' (by decide) (by decide)
        have bz225949 : gB z225949 1 32 := ⟨by omega, by omega⟩
        refine G_iinc (L' := [(2, .int z225949), (0, .ref q222901), (1, .ref q222902)]) z225949 0 dr_cX17_behind_15 rfl hz225949.symm (Nat.le_of_ble_eq_true rfl) rfl ?_
        refine G_goto 2 dr_cX17_behind_18 (by decide +kernel) ?_
        have hT225950 : RS D I P222899 F225939 γ el := RS_set hT225320 n225941 ht225911 (by decide) ⟨f225942, he225946, wf225942⟩
        have lv225951 : rLv γ F222900 F225939 := rLv_put hT225320 ht225909 x225323 n225941 ht225911 (by decide)
        exact ih2_225324 F225939 z225949 (gB_w bz225949 (by decide) (by decide)) hT225950 hs225947 (by rw [cL_of he225946]; exact zr_st hf225942 (by have q := x225322; rw [cL_of he225937] at q; exact q) ez225949 bg225318'.1) lv225951 kp225948 (fun k e1 ht => kt2_225325 k e1 (fun R c1 c2 => c2 F225319 g225318 f225938 f225942 F225939 z225949 k e1 bg225318 hT225320 hs225321 x225322 x225323 x225324 r225887 fq225935 he225937 hf225942 n225941 he225946 ez225949 (ht R c1 c2))) (by omega)
  exact hlp2_225324 (((33 : Int) - 0).toNat + 1) F222900 0 (gB_w (gBl (show Int32.toInt 0 = 0 by decide)) (by decide) (by decide)) hT (rStr_rf (γ := γ) (W := []) (F := F222900)) (fun j hj => absurd hj (by have qa : Int32.toInt 0 = 0 := (by decide); omega)) (rLv_rf (γ := γ) (F := F222900)) rfl (fun k e1 ht => ht) (Nat.lt_succ_self _)
/- tl_RModel_findLive_131: F, l6, l3; out: l3, F -/
def tl_RModel_findLive_131 (D : va_G) (I : FieldType → ClassId) (γ el : Nat → Nat → Nat) (P : List Nat) (F : Nat → va_E) (l4_2 : Int32) (F_2 : Nat → va_E) (a2 : Int32) (c1 : Nat) (F_1 : Nat → va_E) (q1 : Nat) (q0 : Nat) (s1 : Nat → va_E) (s2 : Int32) (s3 : Int32) (k : Nat) (e1 : Int32) (e2 : Nat → va_E) : Prop := ∀ R : (Nat → va_E) → (Int32) → (Int32) → Nat → (Int32) → (Nat → va_E) → Prop,
  (∀ (F_3 : Nat → va_E) (l6_3 : Int32) (l3_3 : Int32), gB l6_3 0 32 → gB l3_3 0 1 → RS D I P F_3 γ el → rStr γ [] F F_3 → ((∀ i : Nat, i < 40 → (i : Int) ≠ l4_2.toInt → F_3 (γ 10 i) = F_2 (γ 10 i))) → ((∀ k : Nat, k < 2048 → rbt (cL (F_3 (γ 9 2))) k = trS γ el F (decide (a2.toInt = 1)) c1 (lvM γ F_2) (γ 2 (γ 14 c1)) k)) → ((∀ k : Nat, k < 2048 → lvS γ F_3 (l4_2.toInt : Int).toNat k = if (k : Int) < 64 * l6_3.toInt then trS γ el F (decide (a2.toInt = 1)) c1 (lvM γ F_2) (γ 2 (γ 14 c1)) k else lvS γ F_2 (l4_2.toInt : Int).toNat k)) → (lvT γ F_1 + (l3_3.toInt : Int).toNat ≤ lvT γ F_3) → (c1 = el (γ 14 q1) (l4_2.toInt : Int).toNat) → (F_3 q0 = F q0) → 32 ≤ l6_3.toInt → R F_3 l6_3 l3_3 192 l3_3 F_3) →
  (∀ (F_3 : Nat → va_E) (l6_3 : Int32) (l3_3 : Int32) (x1 : Nat) (x2 : Nat → Int64) (x3 : Int64) (x4 : Nat → Int64) (x5 : Nat → Int64) (x6 : Nat → va_E) (x7 : Int32) (k : Nat) (e1 : Int32) (e2 : Nat → va_E), gB l6_3 0 32 → gB l3_3 0 1 → RS D I P F_3 γ el → rStr γ [] F F_3 → ((∀ i : Nat, i < 40 → (i : Int) ≠ l4_2.toInt → F_3 (γ 10 i) = F_2 (γ 10 i))) → ((∀ k : Nat, k < 2048 → rbt (cL (F_3 (γ 9 2))) k = trS γ el F (decide (a2.toInt = 1)) c1 (lvM γ F_2) (γ 2 (γ 14 c1)) k)) → ((∀ k : Nat, k < 2048 → lvS γ F_3 (l4_2.toInt : Int).toNat k = if (k : Int) < 64 * l6_3.toInt then trS γ el F (decide (a2.toInt = 1)) c1 (lvM γ F_2) (γ 2 (γ 14 c1)) k else lvS γ F_2 (l4_2.toInt : Int).toNat k)) → (lvT γ F_1 + (l3_3.toInt : Int).toNat ≤ lvT γ F_3) → (c1 = el (γ 14 q1) (l4_2.toInt : Int).toNat) → (F_3 q0 = F q0) → l6_3.toInt < 32 → l3_3.toInt ≠ 0 → fR (F_3 q0) 0 = (γ 9 0) → x1 = γ 10 l4_2.toInt.toNat → fR (F_3 q0) 2 = (γ 9 2) → F_3 (γ 9 2) = .inl (I .long, 32, .inr (.inl x2)) → x3 = x2 l6_3.toNatClampNeg → F_3 x1 = .inl (I .long, 32, .inr (.inl x4)) → x5 = vp_updL x4 l6_3.toNatClampNeg x3 → (∀ b, b ≠ x1 → x6 b = F_3 b) → x6 x1 = .inl (I .long, 32, .inr (.inl x5)) → x7.toInt = l6_3.toInt + 1 → R x6 x7 (1 : Int32) k e1 e2 → R F_3 l6_3 l3_3 k e1 e2) →
  (∀ (F_3 : Nat → va_E) (l6_3 : Int32) (l3_3 : Int32) (x1 : Nat) (x2 : Nat → Int64) (x3 : Int64) (x4 : Nat → Int64) (x5 : Int64) (x6 : Nat → Int64) (x7 : Nat → va_E) (x8 : Int32) (k : Nat) (e1 : Int32) (e2 : Nat → va_E), gB l6_3 0 32 → gB l3_3 0 1 → RS D I P F_3 γ el → rStr γ [] F F_3 → ((∀ i : Nat, i < 40 → (i : Int) ≠ l4_2.toInt → F_3 (γ 10 i) = F_2 (γ 10 i))) → ((∀ k : Nat, k < 2048 → rbt (cL (F_3 (γ 9 2))) k = trS γ el F (decide (a2.toInt = 1)) c1 (lvM γ F_2) (γ 2 (γ 14 c1)) k)) → ((∀ k : Nat, k < 2048 → lvS γ F_3 (l4_2.toInt : Int).toNat k = if (k : Int) < 64 * l6_3.toInt then trS γ el F (decide (a2.toInt = 1)) c1 (lvM γ F_2) (γ 2 (γ 14 c1)) k else lvS γ F_2 (l4_2.toInt : Int).toNat k)) → (lvT γ F_1 + (l3_3.toInt : Int).toNat ≤ lvT γ F_3) → (c1 = el (γ 14 q1) (l4_2.toInt : Int).toNat) → (F_3 q0 = F q0) → l6_3.toInt < 32 → l3_3.toInt = 0 → fR (F_3 q0) 0 = (γ 9 0) → x1 = γ 10 l4_2.toInt.toNat → F_3 x1 = .inl (I .long, 32, .inr (.inl x2)) → x3 = x2 l6_3.toNatClampNeg → fR (F_3 q0) 2 = (γ 9 2) → F_3 (γ 9 2) = .inl (I .long, 32, .inr (.inl x4)) → x5 = x4 l6_3.toNatClampNeg → x3 = x5 → x6 = vp_updL x2 l6_3.toNatClampNeg x5 → (∀ b, b ≠ x1 → x7 b = F_3 b) → x7 x1 = .inl (I .long, 32, .inr (.inl x6)) → x8.toInt = l6_3.toInt + 1 → R x7 x8 (0 : Int32) k e1 e2 → R F_3 l6_3 l3_3 k e1 e2) →
  (∀ (F_3 : Nat → va_E) (l6_3 : Int32) (l3_3 : Int32) (x1 : Nat) (x2 : Nat → Int64) (x3 : Int64) (x4 : Nat → Int64) (x5 : Int64) (x6 : Nat → Int64) (x7 : Nat → va_E) (x8 : Int32) (k : Nat) (e1 : Int32) (e2 : Nat → va_E), gB l6_3 0 32 → gB l3_3 0 1 → RS D I P F_3 γ el → rStr γ [] F F_3 → ((∀ i : Nat, i < 40 → (i : Int) ≠ l4_2.toInt → F_3 (γ 10 i) = F_2 (γ 10 i))) → ((∀ k : Nat, k < 2048 → rbt (cL (F_3 (γ 9 2))) k = trS γ el F (decide (a2.toInt = 1)) c1 (lvM γ F_2) (γ 2 (γ 14 c1)) k)) → ((∀ k : Nat, k < 2048 → lvS γ F_3 (l4_2.toInt : Int).toNat k = if (k : Int) < 64 * l6_3.toInt then trS γ el F (decide (a2.toInt = 1)) c1 (lvM γ F_2) (γ 2 (γ 14 c1)) k else lvS γ F_2 (l4_2.toInt : Int).toNat k)) → (lvT γ F_1 + (l3_3.toInt : Int).toNat ≤ lvT γ F_3) → (c1 = el (γ 14 q1) (l4_2.toInt : Int).toNat) → (F_3 q0 = F q0) → l6_3.toInt < 32 → l3_3.toInt = 0 → fR (F_3 q0) 0 = (γ 9 0) → x1 = γ 10 l4_2.toInt.toNat → F_3 x1 = .inl (I .long, 32, .inr (.inl x2)) → x3 = x2 l6_3.toNatClampNeg → fR (F_3 q0) 2 = (γ 9 2) → F_3 (γ 9 2) = .inl (I .long, 32, .inr (.inl x4)) → x5 = x4 l6_3.toNatClampNeg → (¬ x3 = x5) → x6 = vp_updL x2 l6_3.toNatClampNeg x5 → (∀ b, b ≠ x1 → x7 b = F_3 b) → x7 x1 = .inl (I .long, 32, .inr (.inl x6)) → x8.toInt = l6_3.toInt + 1 → R x7 x8 (1 : Int32) k e1 e2 → R F_3 l6_3 l3_3 k e1 e2) →
  R s1 s2 s3 k e1 e2
/- tl_RModel_findLive_99: F, l6; out: F -/
def tl_RModel_findLive_99 (D : va_G) (I : FieldType → ClassId) (γ el : Nat → Nat → Nat) (P : List Nat) (F : Nat → va_E) (F_2 : Nat → va_E) (a2 : Int32) (c1 : Nat) (q1 : Nat) (l4_2 : Int32) (q0 : Nat) (s1 : Nat → va_E) (s2 : Int32) (k : Nat) (e1 : Nat → va_E) : Prop := ∀ R : (Nat → va_E) → (Int32) → Nat → (Nat → va_E) → Prop,
  (∀ (F_3 : Nat → va_E) (l6_3 : Int32), gB l6_3 (-1) 999999 → RS D I P F_3 γ el → rStr γ [] F F_3 → rLv γ F_2 F_3 → ((∀ k : Nat, k < 2048 → rbt (cL (F_3 (γ 9 2))) k = trS γ el F (decide (a2.toInt = 1)) c1 (lvM γ F_2) ((((γ 2 (γ 14 c1) : Nat) : Int) - 1 - l6_3.toInt).toNat) k)) → ((l6_3.toInt : Int) < γ 2 (γ 14 c1)) → (c1 = el (γ 14 q1) (l4_2.toInt : Int).toNat) → (F_3 q0 = F q0) → l6_3.toInt < 0 → R F_3 l6_3 128 F_3) →
  (∀ (F_3 : Nat → va_E) (l6_3 : Int32) (x1 : Nat) (x2 : Nat) (x3 : Int32) (x4 : Nat → va_E) (x5 : Int32) (k : Nat) (e1 : Nat → va_E), gB l6_3 (-1) 999999 → RS D I P F_3 γ el → rStr γ [] F F_3 → rLv γ F_2 F_3 → ((∀ k : Nat, k < 2048 → rbt (cL (F_3 (γ 9 2))) k = trS γ el F (decide (a2.toInt = 1)) c1 (lvM γ F_2) ((((γ 2 (γ 14 c1) : Nat) : Int) - 1 - l6_3.toInt).toNat) k)) → ((l6_3.toInt : Int) < γ 2 (γ 14 c1)) → (c1 = el (γ 14 q1) (l4_2.toInt : Int).toNat) → (F_3 q0 = F q0) → 0 ≤ l6_3.toInt → fR (F_3 c1) 0 = x1 → x2 = el x1 l6_3.toInt.toNat → fI (F_3 x1) 2 = x3 → tr_RArrayList_get l6_3 x3 → RS D I P x4 γ el → rStr γ [] F_3 x4 → ((∀ k : Nat, rbt (cL (x4 (γ 9 2))) k = bkS (F_3 x2) (decide (a2.toInt = 1)) (rbt (cL (F_3 (γ 9 2)))) k)) → rLv γ F_3 x4 → (x4 q0 = F_3 q0) → tr_RModel_back2 D I γ el P F_3 q0 x2 a2 x4 → x5.toInt = l6_3.toInt + (-1) → R x4 x5 k e1 → R F_3 l6_3 k e1) →
  R s1 s2 k e1
/- tl_RModel_findLive_58: F, l4, l3; out: l3, F -/
def tl_RModel_findLive_58 (D : va_G) (I : FieldType → ClassId) (γ el : Nat → Nat → Nat) (P : List Nat) (F : Nat → va_E) (q1 : Nat) (a2 : Int32) (F_1 : Nat → va_E) (q0 : Nat) (s1 : Nat → va_E) (s2 : Int32) (s3 : Int32) (k : Nat) (e1 : Int32) (e2 : Nat → va_E) : Prop := ∀ R : (Nat → va_E) → (Int32) → (Int32) → Nat → (Int32) → (Nat → va_E) → Prop,
  (∀ (F_2 : Nat → va_E) (l4_2 : Int32) (l3_2 : Int32), gB l4_2 (-1) 999999 → gB l3_2 0 1 → RS D I P F_2 γ el → rStr γ [] F F_2 → rJv γ el F F_2 q1 (decide (a2.toInt = 1)) (γ 6 (γ 1 q1)) → (lvT γ F_1 + (l3_2.toInt : Int).toNat ≤ lvT γ F_2) → ((l4_2.toInt : Int) < γ 6 (γ 1 q1)) → (F_2 q0 = F q0) → l4_2.toInt < 0 → R F_2 l4_2 l3_2 198 l3_2 F_2) →
  (∀ (F_2 : Nat → va_E) (l4_2 : Int32) (l3_2 : Int32) (x1 : Nat) (x2 : Nat) (x3 : Int32) (x4 : Nat → va_E) (x5 : Nat) (x6 : Nat → va_E) (x7 : Nat) (x8 : Int32) (x9 : Int32) (x10 : Nat → va_E) (x11 : Int32) (x12 : Nat → va_E) (x13 : Int32) (k : Nat) (e1 : Int32) (e2 : Nat → va_E), gB l4_2 (-1) 999999 → gB l3_2 0 1 → RS D I P F_2 γ el → rStr γ [] F F_2 → rJv γ el F F_2 q1 (decide (a2.toInt = 1)) (γ 6 (γ 1 q1)) → (lvT γ F_1 + (l3_2.toInt : Int).toNat ≤ lvT γ F_2) → ((l4_2.toInt : Int) < γ 6 (γ 1 q1)) → (F_2 q0 = F q0) → 0 ≤ l4_2.toInt → fR (F_2 q1) 0 = x1 → x2 = el x1 l4_2.toInt.toNat → fI (F_2 x1) 2 = x3 → tr_RCode_get l4_2 x3 → RS D I P x4 γ el → rStr γ [] F_2 x4 → ((∀ k : Nat, k < 2048 → rbt (cL (x4 (γ 9 2))) k = bhV (fI (F_2 (γ 15 x2)) 0).toInt (fI (F_2 x2) 2).toInt (fI (F_2 x2) 3).toInt (lvS γ F_2) k)) → rLv γ F_2 x4 → (x4 q0 = F_2 q0) → tr_RModel_behind2 D I γ el P F_2 q0 x2 x4 → fR (x4 x2) 1 = x5 → RS D I P x6 γ el → rStr γ [] x4 x6 → ((∀ k : Nat, rbt (cL (x6 (γ 9 2))) k = bkS (x4 x5) (decide (a2.toInt = 1)) (rbt (cL (x4 (γ 9 2)))) k)) → rLv γ x4 x6 → (x6 q0 = x4 q0) → tr_RModel_back2 D I γ el P x4 q0 x5 a2 x6 → fR (x6 x2) 0 = x7 → x8.toInt = (γ 2 x7 : Int) → fI (x6 x7) 2 = x8 → x9.toInt = x8.toInt - 1 → tl_RModel_findLive_99 D I γ el P F F_2 a2 x2 q1 l4_2 q0 x6 x9 128 x10 → tl_RModel_findLive_131 D I γ el P F l4_2 F_2 a2 x2 F_1 q1 q0 x10 (0 : Int32) l3_2 192 x11 x12 → x13.toInt = l4_2.toInt + (-1) → R x12 x13 x11 k e1 e2 → R F_2 l4_2 l3_2 k e1 e2) →
  R s1 s2 s3 k e1 e2
/- tl_RModel_findLive_44: F, l3; out: F -/
def tl_RModel_findLive_44 (D : va_G) (I : FieldType → ClassId) (γ el : Nat → Nat → Nat) (P : List Nat) (F : Nat → va_E) (q1 : Nat) (a2 : Int32) (q0 : Nat) (s1 : Nat → va_E) (s2 : Int32) (k : Nat) (e1 : Nat → va_E) : Prop := ∀ R : (Nat → va_E) → (Int32) → Nat → (Nat → va_E) → Prop,
  (∀ (F_1 : Nat → va_E) (l3_1 : Int32), gB l3_1 0 1 → RS D I P F_1 γ el → rStr γ [] F F_1 → rJv γ el F F_1 q1 (decide (a2.toInt = 1)) (γ 6 (γ 1 q1)) → (F_1 q0 = F q0) → l3_1.toInt = 0 → R F_1 l3_1 201 F_1) →
  (∀ (F_1 : Nat → va_E) (l3_1 : Int32) (x1 : Int32) (x2 : Int32) (x3 : Int32) (x4 : Nat → va_E) (k : Nat) (e1 : Nat → va_E), gB l3_1 0 1 → RS D I P F_1 γ el → rStr γ [] F F_1 → rJv γ el F F_1 q1 (decide (a2.toInt = 1)) (γ 6 (γ 1 q1)) → (F_1 q0 = F q0) → l3_1.toInt ≠ 0 → fI (F_1 q1) 3 = x1 → x2.toInt = x1.toInt - 1 → tl_RModel_findLive_58 D I γ el P F q1 a2 F_1 q0 F_1 x2 (0 : Int32) 198 x3 x4 → R x4 x3 k e1 → R F_1 l3_1 k e1) →
  R s1 s2 k e1
/- tl_RModel_findLive_13: F, l4; out: F -/
def tl_RModel_findLive_13 (D : va_G) (I : FieldType → ClassId) (γ el : Nat → Nat → Nat) (P : List Nat) (F : Nat → va_E) (l3_1 : Int32) (q0 : Nat) (s1 : Nat → va_E) (s2 : Int32) (k : Nat) (e1 : Nat → va_E) : Prop := ∀ R : (Nat → va_E) → (Int32) → Nat → (Nat → va_E) → Prop,
  (∀ (F_2 : Nat → va_E) (l4_2 : Int32), gB l4_2 0 32 → RS D I P F_2 γ el → rStr γ [] F F_2 → ((∀ i : Nat, (i : Int) < l3_1.toInt → ∀ j : Nat, j < 32 → cL (F_2 (γ 10 i)) j = 0)) → ((∀ j : Nat, (j : Int) < l4_2.toInt → cL (F_2 (γ 10 (l3_1.toInt : Int).toNat)) j = 0)) → (F_2 q0 = F q0) → 32 ≤ l4_2.toInt → R F_2 l4_2 36 F_2) →
  (∀ (F_2 : Nat → va_E) (l4_2 : Int32) (x1 : Nat) (x2 : Nat → Int64) (x3 : Nat → Int64) (x4 : Nat → va_E) (x5 : Int32) (k : Nat) (e1 : Nat → va_E), gB l4_2 0 32 → RS D I P F_2 γ el → rStr γ [] F F_2 → ((∀ i : Nat, (i : Int) < l3_1.toInt → ∀ j : Nat, j < 32 → cL (F_2 (γ 10 i)) j = 0)) → ((∀ j : Nat, (j : Int) < l4_2.toInt → cL (F_2 (γ 10 (l3_1.toInt : Int).toNat)) j = 0)) → (F_2 q0 = F q0) → l4_2.toInt < 32 → fR (F_2 q0) 0 = (γ 9 0) → x1 = γ 10 l3_1.toInt.toNat → F_2 x1 = .inl (I .long, 32, .inr (.inl x2)) → x3 = vp_updL x2 l4_2.toNatClampNeg 0 → (∀ b, b ≠ x1 → x4 b = F_2 b) → x4 x1 = .inl (I .long, 32, .inr (.inl x3)) → x5.toInt = l4_2.toInt + 1 → R x4 x5 k e1 → R F_2 l4_2 k e1) →
  R s1 s2 k e1
/- tl_RModel_findLive_2: F, l3; out: F -/
def tl_RModel_findLive_2 (D : va_G) (I : FieldType → ClassId) (γ el : Nat → Nat → Nat) (P : List Nat) (F : Nat → va_E) (q0 : Nat) (q1 : Nat) (s1 : Nat → va_E) (s2 : Int32) (k : Nat) (e1 : Nat → va_E) : Prop := ∀ R : (Nat → va_E) → (Int32) → Nat → (Nat → va_E) → Prop,
  (∀ (F_1 : Nat → va_E) (l3_1 : Int32) (x1 : Int32), gB l3_1 0 1000000 → RS D I P F_1 γ el → rStr γ [] F F_1 → ((∀ i : Nat, (i : Int) < l3_1.toInt → ∀ j : Nat, j < 32 → cL (F_1 (γ 10 i)) j = 0)) → (F_1 q0 = F q0) → fI (F_1 q1) 3 = x1 → x1.toInt ≤ l3_1.toInt → R F_1 l3_1 42 F_1) →
  (∀ (F_1 : Nat → va_E) (l3_1 : Int32) (x1 : Int32) (x2 : Nat → va_E) (x3 : Int32) (k : Nat) (e1 : Nat → va_E), gB l3_1 0 1000000 → RS D I P F_1 γ el → rStr γ [] F F_1 → ((∀ i : Nat, (i : Int) < l3_1.toInt → ∀ j : Nat, j < 32 → cL (F_1 (γ 10 i)) j = 0)) → (F_1 q0 = F q0) → fI (F_1 q1) 3 = x1 → l3_1.toInt < x1.toInt → tl_RModel_findLive_13 D I γ el P F l3_1 q0 F_1 (0 : Int32) 36 x2 → x3.toInt = l3_1.toInt + 1 → R x2 x3 k e1 → R F_1 l3_1 k e1) →
  R s1 s2 k e1
/- tr_RModel_findLive: F -/
def tr_RModel_findLive (D : va_G) (I : FieldType → ClassId) (γ el : Nat → Nat → Nat) (P : List Nat) (F : Nat → va_E) (q0 : Nat) (q1 : Nat) (a2 : Int32) (o1 : Nat → va_E) : Prop := ∀ R : (Nat → va_E) → Prop,
  (∀ (x1 : Nat → va_E) (x2 : Nat → va_E), tl_RModel_findLive_2 D I γ el P F q0 q1 F (0 : Int32) 42 x1 → tl_RModel_findLive_44 D I γ el P F q1 a2 q0 x1 (1 : Int32) 201 x2 → R x2) →
  R o1
abbrev ky_225959_SpillForgeModel_findLive : gKey := (cX17_findLive, 7, "SpillForgeModel", none, [], "findLive", fun _ _ => True)
def pt_225959_SpillForgeModel_findLive (D : va_G) (I : FieldType → ClassId) (γ el : Nat → Nat → Nat) (P225953 : List Nat) (F225954 : Nat → va_E) (q225955 : Nat) (q225956 : Nat) (p225957 : Int32) : Option Value → va_W → Nat → Nat → Prop := fun r w dc ds => ∃ (F277556 : Nat → va_E), r = none ∧ w = va_pl P225953 F277556 ∧ RS D I P225953 F277556 γ el ∧ rStr γ [] F225954 F277556 ∧ dc ≤ 0 ∧ ds ≤ 0 ∧ (F277556 q225955 = F225954 q225955) ∧ tr_RModel_findLive D I γ el P225953 F225954 q225955 q225956 p225957 F277556
set_option maxRecDepth 100000 in
set_option maxHeartbeats 4000000 in
theorem ct_225959_SpillForgeModel_findLive (l : Launch) (hl0 : l.stackTraces = false) (D : va_G) (I : FieldType → ClassId) (γ el : Nat → Nat → Nat) (P225953 : List Nat) (F225954 : Nat → va_E) (q225955 : Nat) (q225956 : Nat) (p225957 : Int32) (hT : RS D I P225953 F225954 γ el) (htq225955 : rKd γ q225955 10) (htq225956 : rKd γ q225956 9) (bp225957 : gB p225957 0 1) (x225958 : 0 < γ 6 (γ 1 q225956)) : CtA (gV D I) l yX17_findLive cX17_findLive 7 none 4 85 0 0 [.ref q225955, .ref q225956, .int p225957] (va_pl P225953 F225954) (pt_225959_SpillForgeModel_findLive D I γ el P225953 F225954 q225955 q225956 p225957) gNA := by
  refine CtA_of hl0 (by decide) (Nat.le_of_ble_eq_true rfl) ?_
  have hm225960 : q225955 ∈ P225953 := RS_m hT htq225955 (by decide)
  obtain ⟨q225962, q225963, p225964, p225965, p225966, p225967, p225968, p225969, p225970, p225971, p225972, p225973, p225974, p225975, p225976, p225977, p225978, he225961, hB226005, ht225979, ht225980, ht225981, ht225982, ht225983, ht225984, ht225985, ht225986, ht225987, ht225988, ht225989, ht225990, ht225991, ht225992, ht225993, ht225994, ht225995, ht225996, ht225997, ht225998, ht225999, ht226000, ht226001, ht226002, hB226006⟩ := show rk_10 γ (F225954 q225955) from RS_o hT htq225955
  have hm226007 : (γ 9 2) ∈ P225953 := RS_m hT ht225983 (by decide)
  obtain ⟨f226009, he226008, wf226009⟩ := show rk_35 I (F225954 (γ 9 2)) from RS_o hT ht225983
  refine G_iconst 0 dr_cX17_findLive_0 (by decide +kernel) ?_
  refine G_istore_n (L' := [(3, .int 0), (0, .ref q225955), (1, .ref q225956), (2, .int p225957)]) dr_cX17_findLive_1 (Nat.le_of_ble_eq_true rfl) rfl ?_
  have hlp2_272396 : ∀ (n2_272396 : Nat) (F272392 : Nat → va_E) (g272391 : Int32), gB g272391 0 1000000 → RS D I P225953 F272392 γ el → rStr γ [] F225954 F272392 → (∀ i : Nat, (i : Int) < g272391.toInt → ∀ j : Nat, j < 32 → cL (F272392 (γ 10 i)) j = 0) → (F272392 q225955 = F225954 q225955) → (∀ (k : Nat) (e1 : Nat → va_E), tl_RModel_findLive_2 D I γ el P225953 F225954 q225955 q225956 F272392 g272391 k e1 → tl_RModel_findLive_2 D I γ el P225953 F225954 q225955 q225956 F225954 (0 : Int32) k e1) → ((1000001 : Int) - g272391.toInt).toNat < n2_272396 → G (gV D I) l (gRm 4 85 0 0) (gMA (gV D I) (pt_225959_SpillForgeModel_findLive D I γ el P225953 F225954 q225955 q225956 p225957) gNA 0 0) ky_225959_SpillForgeModel_findLive 2 [(3, .int g272391), (0, .ref q225955), (1, .ref q225956), (2, .int p225957)] [] (va_pl P225953 F272392) 0 0 := by
    intro n2_272396
    induction n2_272396 with
    | zero => intro F272392 g272391 bg272391 hT272393 hs272394 x272395 x272396 kt2_272397 hm2_272396; exact absurd hm2_272396 (Nat.not_lt_zero _)
    | succ n2_272396 ih2_272396 =>
      intro F272392 g272391 bg272391 hT272393 hs272394 x272395 x272396 kt2_272397 hm2_272396
      have hs272398 : rStr γ [] F225954 F272392 := fun b h0 hb hw => (hs272394 b h0 hb hw).trans ((rStr_rf (γ := γ) (W := []) (F := F225954)) b h0 hb hw).symm
      have hs272399 : rStr γ [] F225954 F272392 := rStr_tr (rStr_rf (γ := γ) (W := []) (F := F225954)) hs272398
      refine G_iload_n 0 dr_cX17_findLive_2 rfl ?_
      refine G_aload_n 2 dr_cX17_findLive_3 rfl ?_
      have hm272400 : q225956 ∈ P225953 := RS_m hT272393 htq225956 (by decide)
      obtain ⟨q272402, q272403, p272404, p272405, he272401, ht272421, ht272406, ht272407, ht272408, ht272409, r272410, r272411, r272412, r272413, r272414, r272415, r272416, r272417, r272418, r272419, r272420⟩ := show rk_9 γ el q225956 (F272392 q225956) from RS_o hT272393 htq225956
      have bp272404 : gB p272404 0 1000000 := ⟨by omega, by omega⟩
      have bp272405 : gB p272405 0 1000000 := ⟨by omega, by omega⟩
      have fq272422 : fI (F272392 q225956) 3 = p272405 := by rw [he272401]; rfl
      refine Gw_callV (As := []) (gV_ok D I) (cp_12780_Code_size l hl0 D I P225953 F272392 q225956 q272402 q272403 p272404 p272405 hm272400 he272401) dr_cX17_findLive_4 ⟨wr_10_160, wr_1_15, wr_9_131, by decide, rfl, (Nat.le_of_ble_eq_true rfl), (Nat.le_of_ble_eq_true rfl)⟩ wr_9_129 wr_9_130 hm272400 he272401 rfl (show 0 + 0 ≤ 0 by first | omega | decide) (show 0 + 0 ≤ 0 by first | omega | decide) (Nat.le_of_ble_eq_true rfl) (fun r272426 w272427 dc272423 ds272424 hp272425 => ?_) (fun _ _ _ _ _ z => z.elim)
      obtain ⟨rfl, rfl, hdc, hds⟩ := hp272425
      change G _ _ _ _ _ _ _ (.int p272405 :: _) _ _ _
      refine G_widen (cs' := 0) (sl' := 0) (by omega) (by omega) ?_
      refine G_icmp_ge 42 dr_cX17_findLive_7 (by decide +kernel) (fun hc272428 => ?_) (fun hc272428 => ?_)
      · have r272429 : p272405.toInt ≤ g272391.toInt := gC_le hc272428
        have hx272430 : tl_RModel_findLive_2 D I γ el P225953 F225954 q225955 q225956 F225954 (0 : Int32) 42 F272392 := kt2_272397 42 F272392 (fun R c1 c2 => c1 F272392 g272391 p272405 bg272391 hT272393 hs272394 x272395 x272396 fq272422 r272429)
        refine G_iconst 1 dr_cX17_findLive_42 (by decide +kernel) ?_
        refine G_istore_n (L' := [(3, .int 1), (0, .ref q225955), (1, .ref q225956), (2, .int p225957)]) dr_cX17_findLive_43 (Nat.le_of_ble_eq_true rfl) rfl ?_
        have hlp44_274905 : ∀ (n44_274905 : Nat) (F274901 : Nat → va_E) (g274900 : Int32), gB g274900 0 1 → RS D I P225953 F274901 γ el → rStr γ [] F225954 F274901 → rJv γ el F225954 F274901 q225956 (decide (p225957.toInt = 1)) (γ 6 (γ 1 q225956)) → (F274901 q225955 = F225954 q225955) → (∀ (k : Nat) (e1 : Nat → va_E), tl_RModel_findLive_44 D I γ el P225953 F225954 q225956 p225957 q225955 F274901 g274900 k e1 → tl_RModel_findLive_44 D I γ el P225953 F225954 q225956 p225957 q225955 F272392 (1 : Int32) k e1) → ((81920 - lvT γ F274901) + (g274900.toInt : Int).toNat) < n44_274905 → G (gV D I) l (gRm 4 85 0 0) (gMA (gV D I) (pt_225959_SpillForgeModel_findLive D I γ el P225953 F225954 q225955 q225956 p225957) gNA 0 0) ky_225959_SpillForgeModel_findLive 44 [(3, .int g274900), (0, .ref q225955), (1, .ref q225956), (2, .int p225957)] [] (va_pl P225953 F274901) 0 0 := by
          intro n44_274905
          induction n44_274905 with
          | zero => intro F274901 g274900 bg274900 hT274902 hs274903 x274904 x274905 kt44_274906 hm44_274905; exact absurd hm44_274905 (Nat.not_lt_zero _)
          | succ n44_274905 ih44_274905 =>
            intro F274901 g274900 bg274900 hT274902 hs274903 x274904 x274905 kt44_274906 hm44_274905
            have hs274907 : rStr γ [] F272392 F274901 := fun b h0 hb hw => (hs274903 b h0 hb hw).trans (hs272394 b h0 hb hw).symm
            have he274908 : F274901 q225956 = .inr (18, [.ref q272402, .ref q272403, .int p272404, .int p272405]) := (hs274907 q225956 (rT0 htq225956 (by decide)) (rT1 htq225956 (by decide)) (rT2 htq225956 (by decide))).trans he272401
            have hs274909 : rStr γ [] F225954 F274901 := rStr_tr hs272394 hs274907
            refine G_iload_n 0 dr_cX17_findLive_44 rfl ?_
            refine G_if_eq 201 dr_cX17_findLive_45 (by decide +kernel) (fun hc274910 => ?_) (fun hc274910 => ?_)
            · have r274911 : g274900.toInt = 0 := gj_eq hc274910 (show Int32.toInt 0 = 0 by decide)
              have bg274900' : gB g274900 0 0 := ⟨by omega, by omega⟩
              have hx274912 : tl_RModel_findLive_44 D I γ el P225953 F225954 q225956 p225957 q225955 F272392 (1 : Int32) 201 F274901 := kt44_274906 201 F274901 (fun R c1 c2 => c1 F274901 g274900 bg274900 hT274902 hs274903 x274904 x274905 r274911)
              exact G_vretA dr_cX17_findLive_201 rfl (Nat.le_of_ble_eq_true rfl) (Nat.le_of_ble_eq_true rfl) ⟨F274901, rfl, rfl, hT274902, hs274903, (Nat.le_of_ble_eq_true rfl), (Nat.le_of_ble_eq_true rfl), x274905, (fun R c1 => c1 F272392 F274901 hx272430 hx274912)⟩
            · have r274913 : g274900.toInt ≠ 0 := gj_neq hc274910 (show Int32.toInt 0 = 0 by decide)
              have bg274900' : gB g274900 1 1 := ⟨by omega, by omega⟩
              refine G_iconst 0 dr_cX17_findLive_48 (by decide +kernel) ?_
              refine G_istore_n (L' := [(3, .int 0), (0, .ref q225955), (1, .ref q225956), (2, .int p225957)]) dr_cX17_findLive_49 (Nat.le_of_ble_eq_true rfl) rfl ?_
              refine G_aload_n 2 dr_cX17_findLive_50 rfl ?_
              have fq274914 : fI (F274901 q225956) 3 = p272405 := by rw [he274908]; rfl
              refine Gw_callV (As := []) (gV_ok D I) (cp_12780_Code_size l hl0 D I P225953 F274901 q225956 q272402 q272403 p272404 p272405 hm272400 he274908) dr_cX17_findLive_51 ⟨wr_10_160, wr_1_15, wr_9_131, by decide, rfl, (Nat.le_of_ble_eq_true rfl), (Nat.le_of_ble_eq_true rfl)⟩ wr_9_129 wr_9_130 hm272400 he274908 rfl (show 0 + 0 ≤ 0 by first | omega | decide) (show 0 + 0 ≤ 0 by first | omega | decide) (Nat.le_of_ble_eq_true rfl) (fun r274918 w274919 dc274915 ds274916 hp274917 => ?_) (fun _ _ _ _ _ z => z.elim)
              obtain ⟨rfl, rfl, hdc, hds⟩ := hp274917
              change G _ _ _ _ _ _ _ (.int p272405 :: _) _ _ _
              refine G_widen (cs' := 0) (sl' := 0) (by omega) (by omega) ?_
              refine G_iconst 1 dr_cX17_findLive_54 (by decide +kernel) ?_
              refine G_isub dr_cX17_findLive_55 (G_nam fun z274920 hz274920 => ?_)
              have ez274920 : z274920.toInt = p272405.toInt - 1 := by rw [gI_sub hz274920 bp272405 (gBl (show Int32.toInt 1 = 1 by decide)) (by decide) (by decide), show Int32.toInt 1 = 1 from by decide]
              have bz274920 : gB z274920 (-1) 999999 := gB_sub (gI_sub hz274920 bp272405 (gBl (show Int32.toInt 1 = 1 by decide)) (by decide) (by decide)) bp272405 (gBl (show Int32.toInt 1 = 1 by decide)) (by decide) (by decide)
              refine G_istore (L' := [(4, .int z274920), (3, .int 0), (0, .ref q225955), (1, .ref q225956), (2, .int p225957)]) dr_cX17_findLive_56 (Nat.le_of_ble_eq_true rfl) rfl ?_
              have hlp58_276153 : ∀ (n58_276153 : Nat) (F276147 : Nat → va_E) (g276145 : Int32) (g276146 : Int32), gB g276145 (-1) 999999 → gB g276146 0 1 → RS D I P225953 F276147 γ el → rStr γ [] F225954 F276147 → rJv γ el F225954 F276147 q225956 (decide (p225957.toInt = 1)) (γ 6 (γ 1 q225956)) → (lvT γ F274901 + (g276146.toInt : Int).toNat ≤ lvT γ F276147) → ((g276145.toInt : Int) < γ 6 (γ 1 q225956)) → (F276147 q225955 = F225954 q225955) → (∀ (k : Nat) (e1 : Int32) (e2 : Nat → va_E), tl_RModel_findLive_58 D I γ el P225953 F225954 q225956 p225957 F274901 q225955 F276147 g276145 g276146 k e1 e2 → tl_RModel_findLive_58 D I γ el P225953 F225954 q225956 p225957 F274901 q225955 F274901 z274920 (0 : Int32) k e1 e2) → ((g276145.toInt : Int) - (-2)).toNat < n58_276153 → G (gV D I) l (gRm 4 85 0 0) (gMA (gV D I) (pt_225959_SpillForgeModel_findLive D I γ el P225953 F225954 q225955 q225956 p225957) gNA 0 0) ky_225959_SpillForgeModel_findLive 58 [(4, .int g276145), (3, .int g276146), (0, .ref q225955), (1, .ref q225956), (2, .int p225957)] [] (va_pl P225953 F276147) 0 0 := by
                intro n58_276153
                induction n58_276153 with
                | zero => intro F276147 g276145 g276146 bg276145 bg276146 hT276148 hs276149 x276150 x276151 x276152 x276153 kt58_276154 hm58_276153; exact absurd hm58_276153 (Nat.not_lt_zero _)
                | succ n58_276153 ih58_276153 =>
                  intro F276147 g276145 g276146 bg276145 bg276146 hT276148 hs276149 x276150 x276151 x276152 x276153 kt58_276154 hm58_276153
                  have hs276155 : rStr γ [] F274901 F276147 := fun b h0 hb hw => (hs276149 b h0 hb hw).trans (hs274903 b h0 hb hw).symm
                  have he276156 : F276147 q225956 = .inr (18, [.ref q272402, .ref q272403, .int p272404, .int p272405]) := (hs276155 q225956 (rT0 htq225956 (by decide)) (rT1 htq225956 (by decide)) (rT2 htq225956 (by decide))).trans he274908
                  have hs276157 : rStr γ [] F225954 F276147 := rStr_tr hs274903 hs276155
                  refine G_iload 0 dr_cX17_findLive_58 rfl ?_
                  refine G_if_lt 198 dr_cX17_findLive_60 (by decide +kernel) (fun hc276158 => ?_) (fun hc276158 => ?_)
                  · have r276159 : g276145.toInt < 0 := gj_lt hc276158 (show Int32.toInt 0 = 0 by decide)
                    have bg276145' : gB g276145 (-1) (-1) := ⟨by omega, by omega⟩
                    have hx276160 : tl_RModel_findLive_58 D I γ el P225953 F225954 q225956 p225957 F274901 q225955 F274901 z274920 (0 : Int32) 198 g276146 F276147 := kt58_276154 198 g276146 F276147 (fun R c1 c2 => c1 F276147 g276145 g276146 bg276145 bg276146 hT276148 hs276149 x276150 x276151 x276152 x276153 r276159)
                    have lt276161 := lvT_le (γ := γ) (F := F276147)
                    have lt276162 := lvT_le (γ := γ) (F := F274901)
                    refine G_goto 44 dr_cX17_findLive_198 (by decide +kernel) ?_
                    refine G_lv (L' := [(3, .int g276146), (0, .ref q225955), (1, .ref q225956), (2, .int p225957)]) [1, 2, 3, 4] rfl ?_
                    exact ih44_274905 F276147 g276146 bg276146 hT276148 hs276149 x276150 x276153 (fun k e1 ht => kt44_274906 k e1 (fun R c1 c2 => c2 F274901 g274900 p272405 z274920 g276146 F276147 k e1 bg274900 hT274902 hs274903 x274904 x274905 r274913 fq274914 ez274920 hx276160 (ht R c1 c2))) (by omega)
                  · have r276163 : 0 ≤ g276145.toInt := gj_nlt hc276158 (show Int32.toInt 0 = 0 by decide)
                    have bg276145' : gB g276145 0 999999 := ⟨by omega, by omega⟩
                    refine G_aload_n 3 dr_cX17_findLive_63 rfl ?_
                    refine G_iload 0 dr_cX17_findLive_64 rfl ?_
                    have hm276164 : q272402 ∈ P225953 := RS_m hT276148 ht272406 (by decide)
                    obtain ⟨⟨p276166, p276167, q276168, he276165, r276169, r276170, r276171, r276173⟩, r276172⟩ := show rk_4 D I γ el F276147 q272402 from RS_o hT276148 ht272406
                    have bp276166 := gB_any p276166
                    have bp276167 : gB p276167 0 1000000 := ⟨by omega, by omega⟩
                    obtain ⟨r276174, r276175, n276182, f276183, r276176, r276177, r276178, r276179, r276180, r276181⟩ := rLC_n r276171 (by omega)
                    have hm276184 : q276168 ∈ P225953 := RS_m hT276148 r276174 (by decide)
                    obtain ⟨q276185, hx276186⟩ : ∃ x, x = el q272402 g276145.toInt.toNat := ⟨_, rfl⟩
                    have fq276190 : fR (F276147 q225956) 0 = q272402 := by rw [he276156]; rfl
                    have hx276187 : f276183 g276145.toNatClampNeg = some q276185 := (r276180 _ (show g276145.toInt.toNat < γ 2 q272402 by omega)).trans (by rw [hx276186])
                    have ht276191 : rKd γ q276185 2 := by rw [hx276186]; exact (r272417 _ (by omega)).resolve_right (fun z => absurd z.1 (by omega))
                    have ht276192 : rFm γ q276185 q272402 := by rw [hx276186]; exact (r276172 _ (show g276145.toInt.toNat < γ 2 q272402 by omega)).2.1
                    have hm276193 : q276185 ∈ P225953 := RS_m hT276148 ht276191 (by decide)
                    obtain ⟨q276195, q276196, p276197, p276198, he276194, ht276205, ht276199, ht276200, ht276201, ht276202, ht276203, bp276197, bp276198, r276204, r276206, r276207⟩ := show rk_2 γ q276185 (F276147 q276185) from RS_o hT276148 ht276191
                    have fq276208 : fI (F276147 q272402) 2 = p276167 := by rw [he276165]; rfl
                    refine Gw_callV (As := [.int g276145]) (gV_ok D I) (cp_7901_Code_get l hl0 D I P225953 F276147 q225956 q272402 q276168 g276145 q272403 p272404 p272405 p276166 p276167 f276183 n276182 q276185 q276195 q276196 p276197 p276198 hm272400 hm276164 hm276184 hm276193 he276156 he276165 r276176 he276194 (gB_w bg276145' (by decide) (by decide)) (gB_w bp276167 (by decide) (by decide)) (by omega) (by omega) (by assumption) (by omega)) dr_cX17_findLive_66 ⟨wr_10_161, wr_1_15, wr_10_141, by decide, rfl, (Nat.le_of_ble_eq_true rfl), (Nat.le_of_ble_eq_true rfl)⟩ wr_10_139 wr_10_140 hm272400 he276156 rfl (show 0 + 0 ≤ 0 by first | omega | decide) (show 0 + 0 ≤ 0 by first | omega | decide) (Nat.le_of_ble_eq_true rfl) (fun r276212 w276213 dc276209 ds276210 hp276211 => ?_) (fun _ _ _ _ _ z => z.elim)
                    obtain ⟨rfl, rfl, hdc, hds, ht276214⟩ := hp276211
                    change G _ _ _ _ _ _ _ (.ref q276185 :: _) _ _ _
                    refine G_widen (cs' := 0) (sl' := 0) (by omega) (by omega) ?_
                    refine G_astore (L' := [(5, .ref q276185), (4, .int g276145), (3, .int g276146), (0, .ref q225955), (1, .ref q225956), (2, .int p225957)]) dr_cX17_findLive_69 (Nat.le_of_ble_eq_true rfl) rfl ?_
                    refine G_aload_n 3 dr_cX17_findLive_71 rfl ?_
                    refine G_aload 0 dr_cX17_findLive_72 rfl ?_
                    have fl276215 : F276147 q276185 = F225954 q276185 := hs276149 q276185 (rT0 ht276191 (by decide)) (rT1 ht276191 (by decide)) (rT2 ht276191 (by decide))
                    have fl276216 : F276147 q276196 = F225954 q276196 := hs276149 q276196 (rT0 ht276201 (by decide)) (rT1 ht276201 (by decide)) (rT2 ht276201 (by decide))
                    have fl276217 : (fI (F225954 q276185) 2).toInt = p276197.toInt := by rw [← fl276215, he276194]; rfl
                    have fl276218 : (fI (F225954 q276185) 3).toInt = p276198.toInt := by rw [← fl276215, he276194]; rfl
                    have fl276219 : γ 2 (γ 14 q276185) = γ 2 q276195 := by rw [ht276205.1]
                    have fl276220 : q276185 = el (γ 14 q225956) (g276145.toInt : Int).toNat := by rw [hx276186, ht272421.1]
                    have hm276226 : q225955 ∈ P225953 := RS_m hT276148 htq225955 (by decide)
                    obtain ⟨q276228, q276229, p276230, p276231, p276232, p276233, p276234, p276235, p276236, p276237, p276238, p276239, p276240, p276241, p276242, p276243, p276244, he276227, hB276271, ht276245, ht276246, ht276247, ht276248, ht276249, ht276250, ht276251, ht276252, ht276253, ht276254, ht276255, ht276256, ht276257, ht276258, ht276259, ht276260, ht276261, ht276262, ht276263, ht276264, ht276265, ht276266, ht276267, ht276268, hB276272⟩ := show rk_10 γ (F276147 q225955) from RS_o hT276148 htq225955
                    refine Gw_callV (As := [.ref q276185]) (gV_ok D I) (ct_222903_SpillForgeModel_behind l hl0 D I γ el P225953 F276147 q225955 q276185 hT276148 htq225955 ht276191) dr_cX17_findLive_74 ⟨wr_10_162, wr_1_14, wr_10_165, by decide, rfl, (Nat.le_of_ble_eq_true rfl), (Nat.le_of_ble_eq_true rfl)⟩ wr_10_164 wr_p_95 hm276226 he276227 rfl (show 0 + 0 ≤ 0 by first | omega | decide) (show 0 + 0 ≤ 0 by first | omega | decide) (Nat.le_of_ble_eq_true rfl) (fun r276224 w276225 dc276221 ds276222 hp276223 => ?_) (fun _ _ _ _ _ z => z.elim)
                    obtain ⟨F276277, rfl, rfl, hT276278, hs276279, hdc, hds, x276273, x276274, x276275, ht276276⟩ := hp276223
                    have he276280 : F276277 q225956 = .inr (18, [.ref q272402, .ref q272403, .int p272404, .int p272405]) := (hs276279 q225956 (rT0 htq225956 (by decide)) (rT1 htq225956 (by decide)) (rT2 htq225956 (by decide))).trans he276156
                    have he276281 : F276277 q272402 = .inr (4, [.int p276166, .ref q276168, .int p276167]) := (hs276279 q272402 (rT0 ht272406 (by decide)) (rT1 ht272406 (by decide)) (rT2 ht272406 (by decide))).trans he276165
                    have he276282 : F276277 q276168 = .inl (I (.object "java/lang/Object"), n276182, .inr (.inr (.inr (.inr f276183)))) := (hs276279 q276168 (rT0 r276174 (by decide)) (rT1 r276174 (by decide)) (rT2 r276174 (by decide))).trans r276176
                    have he276283 : F276277 q276185 = .inr (17, [.ref q276195, .ref q276196, .int p276197, .int p276198]) := (hs276279 q276185 (rT0 ht276191 (by decide)) (rT1 ht276191 (by decide)) (rT2 ht276191 (by decide))).trans he276194
                    have hs276284 : rStr γ [] F225954 F276277 := rStr_tr hs276149 hs276279
                    have kp276285 : F276277 q225955 = F225954 q225955 := (x276275).trans x276153
                    have he276286 : F276277 q225955 = .inr (22, [.ref (γ 9 0), .ref (γ 9 1), .ref (γ 9 2), .ref (γ 9 3), .ref (γ 9 4), .ref (γ 9 5), .ref (γ 9 6), .ref (γ 9 7), .ref (γ 9 8), .int p276230, .int p276231, .int p276232, .int p276233, .int p276234, .int p276235, .ref (γ 9 15), .ref (γ 9 16), .ref (γ 9 17), .ref (γ 9 18), .ref (γ 9 19), .ref (γ 9 20), .ref (γ 9 21), .ref (γ 9 22), .int p276236, .int p276237, .int p276238, .int p276239, .int p276240, .ref q276228, .ref (γ 9 29), .int p276241, .ref (γ 9 31), .int p276242, .int p276243, .int p276244, .ref q276229]) := (x276275).trans he276227
                    change G _ _ _ _ _ _ _ _ _ _ _
                    refine G_widen (cs' := 0) (sl' := 0) (by omega) (by omega) ?_
                    refine G_aload_n 3 dr_cX17_findLive_77 rfl ?_
                    refine G_aload 0 dr_cX17_findLive_78 rfl ?_
                    have fq276287 : fR (F276277 q276185) 1 = q276196 := by rw [he276283]; rfl
                    refine Gp_get 1 hm276193 he276283 dr_cX17_findLive_80 (gk_X12 D I) (Nat.le_of_ble_eq_true rfl) wr_9_223 rfl ?_
                    refine G_iload_n 5 dr_cX17_findLive_83 rfl ?_
                    have fl276288 : F276277 q276196 = F225954 (γ 15 q276185) := by rw [ht276205.2.1]; exact hs276284 q276196 (rT0 ht276201 (by decide)) (rT1 ht276201 (by decide)) (rT2 ht276201 (by decide))
                    refine Gw_callV (As := [.ref q276196, .int p225957]) (gV_ok D I) (ct_222535_SpillForgeModel_back l hl0 D I γ el P225953 F276277 q225955 q276196 p225957 hT276278 htq225955 ht276201 bp225957) dr_cX17_findLive_84 ⟨wr_10_174, wr_1_14, wr_10_177, by decide, rfl, (Nat.le_of_ble_eq_true rfl), (Nat.le_of_ble_eq_true rfl)⟩ wr_10_176 wr_p_96 hm276226 he276286 rfl (show 0 + 0 ≤ 0 by first | omega | decide) (show 0 + 0 ≤ 0 by first | omega | decide) (Nat.le_of_ble_eq_true rfl) (fun r276292 w276293 dc276289 ds276290 hp276291 => ?_) (fun _ _ _ _ _ z => z.elim)
                    obtain ⟨F276298, rfl, rfl, hT276299, hs276300, hdc, hds, x276294, x276295, x276296, ht276297⟩ := hp276291
                    have he276301 : F276298 q225956 = .inr (18, [.ref q272402, .ref q272403, .int p272404, .int p272405]) := (hs276300 q225956 (rT0 htq225956 (by decide)) (rT1 htq225956 (by decide)) (rT2 htq225956 (by decide))).trans he276280
                    have he276302 : F276298 q272402 = .inr (4, [.int p276166, .ref q276168, .int p276167]) := (hs276300 q272402 (rT0 ht272406 (by decide)) (rT1 ht272406 (by decide)) (rT2 ht272406 (by decide))).trans he276281
                    have he276303 : F276298 q276168 = .inl (I (.object "java/lang/Object"), n276182, .inr (.inr (.inr (.inr f276183)))) := (hs276300 q276168 (rT0 r276174 (by decide)) (rT1 r276174 (by decide)) (rT2 r276174 (by decide))).trans he276282
                    have he276304 : F276298 q276185 = .inr (17, [.ref q276195, .ref q276196, .int p276197, .int p276198]) := (hs276300 q276185 (rT0 ht276191 (by decide)) (rT1 ht276191 (by decide)) (rT2 ht276191 (by decide))).trans he276283
                    have hs276305 : rStr γ [] F225954 F276298 := rStr_tr hs276284 hs276300
                    have kp276306 : F276298 q225955 = F225954 q225955 := (x276296).trans kp276285
                    have he276307 : F276298 q225955 = .inr (22, [.ref (γ 9 0), .ref (γ 9 1), .ref (γ 9 2), .ref (γ 9 3), .ref (γ 9 4), .ref (γ 9 5), .ref (γ 9 6), .ref (γ 9 7), .ref (γ 9 8), .int p276230, .int p276231, .int p276232, .int p276233, .int p276234, .int p276235, .ref (γ 9 15), .ref (γ 9 16), .ref (γ 9 17), .ref (γ 9 18), .ref (γ 9 19), .ref (γ 9 20), .ref (γ 9 21), .ref (γ 9 22), .int p276236, .int p276237, .int p276238, .int p276239, .int p276240, .ref q276228, .ref (γ 9 29), .int p276241, .ref (γ 9 31), .int p276242, .int p276243, .int p276244, .ref q276229]) := (x276296).trans he276286
                    change G _ _ _ _ _ _ _ _ _ _ _
                    refine G_widen (cs' := 0) (sl' := 0) (by omega) (by omega) ?_
                    refine G_aload 0 dr_cX17_findLive_87 rfl ?_
                    have fq276308 : fR (F276298 q276185) 0 = q276195 := by rw [he276304]; rfl
                    refine Gp_get 0 hm276193 he276304 dr_cX17_findLive_89 (gk_X12 D I) (Nat.le_of_ble_eq_true rfl) wr_9_220 rfl ?_
                    have hm276309 : q276195 ∈ P225953 := RS_m hT276299 ht276199 (by decide)
                    obtain ⟨⟨p276311, p276312, q276313, he276310, r276314, r276315, r276316, r276318⟩, r276317⟩ := show rk_3 D I γ el F276298 q276195 from RS_o hT276299 ht276199
                    have bp276311 := gB_any p276311
                    have bp276312 : gB p276312 0 1000000 := ⟨by omega, by omega⟩
                    have fq276319 : p276312.toInt = (γ 2 q276195 : Int) := by omega
                    have fq276320 : fI (F276298 q276195) 2 = p276312 := by rw [he276310]; rfl
                    refine Gw_callV (As := []) (gV_ok D I) (cp_7_ArrayList_size l hl0 D I P225953 F276298 q276195 p276311 q276313 p276312 hm276309 he276310 (gB_w bp276312 (by decide) (by decide))) dr_cX17_findLive_92 ⟨wr_10_200, wr_1_18, wr_9_160, by decide, rfl, (Nat.le_of_ble_eq_true rfl), (Nat.le_of_ble_eq_true rfl)⟩ wr_9_158 wr_9_159 hm276309 he276310 rfl (show 0 + 0 ≤ 0 by first | omega | decide) (show 0 + 0 ≤ 0 by first | omega | decide) (Nat.le_of_ble_eq_true rfl) (fun r276324 w276325 dc276321 ds276322 hp276323 => ?_) (fun _ _ _ _ _ z => z.elim)
                    obtain ⟨rfl, rfl, hdc, hds⟩ := hp276323
                    change G _ _ _ _ _ _ _ (.int p276312 :: _) _ _ _
                    refine G_widen (cs' := 0) (sl' := 0) (by omega) (by omega) ?_
                    refine G_iconst 1 dr_cX17_findLive_95 (by decide +kernel) ?_
                    refine G_isub dr_cX17_findLive_96 (G_nam fun z276326 hz276326 => ?_)
                    have ez276326 : z276326.toInt = p276312.toInt - 1 := by rw [gI_sub hz276326 bp276312 (gBl (show Int32.toInt 1 = 1 by decide)) (by decide) (by decide), show Int32.toInt 1 = 1 from by decide]
                    have bz276326 : gB z276326 (-1) 999999 := gB_sub (gI_sub hz276326 bp276312 (gBl (show Int32.toInt 1 = 1 by decide)) (by decide) (by decide)) bp276312 (gBl (show Int32.toInt 1 = 1 by decide)) (by decide) (by decide)
                    refine G_istore (L' := [(6, .int z276326), (5, .ref q276185), (4, .int g276145), (3, .int g276146), (0, .ref q225955), (1, .ref q225956), (2, .int p225957)]) dr_cX17_findLive_97 (Nat.le_of_ble_eq_true rfl) rfl ?_
                    have hlp99_276859 : ∀ (n99_276859 : Nat) (F276852 : Nat → va_E) (g276851 : Int32), gB g276851 (-1) 999999 → RS D I P225953 F276852 γ el → rStr γ [] F225954 F276852 → rLv γ F276147 F276852 → (∀ k : Nat, k < 2048 → rbt (cL (F276852 (γ 9 2))) k = trS γ el F225954 (decide (p225957.toInt = 1)) q276185 (lvM γ F276147) ((((γ 2 (γ 14 q276185) : Nat) : Int) - 1 - g276851.toInt).toNat) k) → ((g276851.toInt : Int) < γ 2 (γ 14 q276185)) → (q276185 = el (γ 14 q225956) (g276145.toInt : Int).toNat) → (F276852 q225955 = F225954 q225955) → (∀ (k : Nat) (e1 : Nat → va_E), tl_RModel_findLive_99 D I γ el P225953 F225954 F276147 p225957 q276185 q225956 g276145 q225955 F276852 g276851 k e1 → tl_RModel_findLive_99 D I γ el P225953 F225954 F276147 p225957 q276185 q225956 g276145 q225955 F276298 z276326 k e1) → ((g276851.toInt : Int) - (-2)).toNat < n99_276859 → G (gV D I) l (gRm 4 85 0 0) (gMA (gV D I) (pt_225959_SpillForgeModel_findLive D I γ el P225953 F225954 q225955 q225956 p225957) gNA 0 0) ky_225959_SpillForgeModel_findLive 99 [(6, .int g276851), (5, .ref q276185), (4, .int g276145), (3, .int g276146), (0, .ref q225955), (1, .ref q225956), (2, .int p225957)] [] (va_pl P225953 F276852) 0 0 := by
                      intro n99_276859
                      induction n99_276859 with
                      | zero => intro F276852 g276851 bg276851 hT276853 hs276854 x276855 x276856 x276857 x276858 x276859 kt99_276860 hm99_276859; exact absurd hm99_276859 (Nat.not_lt_zero _)
                      | succ n99_276859 ih99_276859 =>
                        intro F276852 g276851 bg276851 hT276853 hs276854 x276855 x276856 x276857 x276858 x276859 kt99_276860 hm99_276859
                        have hs276861 : rStr γ [] F276298 F276852 := fun b h0 hb hw => (hs276854 b h0 hb hw).trans (hs276305 b h0 hb hw).symm
                        have he276862 : F276852 q225956 = .inr (18, [.ref q272402, .ref q272403, .int p272404, .int p272405]) := (hs276861 q225956 (rT0 htq225956 (by decide)) (rT1 htq225956 (by decide)) (rT2 htq225956 (by decide))).trans he276301
                        have he276863 : F276852 q272402 = .inr (4, [.int p276166, .ref q276168, .int p276167]) := (hs276861 q272402 (rT0 ht272406 (by decide)) (rT1 ht272406 (by decide)) (rT2 ht272406 (by decide))).trans he276302
                        have he276864 : F276852 q276168 = .inl (I (.object "java/lang/Object"), n276182, .inr (.inr (.inr (.inr f276183)))) := (hs276861 q276168 (rT0 r276174 (by decide)) (rT1 r276174 (by decide)) (rT2 r276174 (by decide))).trans he276303
                        have he276865 : F276852 q276185 = .inr (17, [.ref q276195, .ref q276196, .int p276197, .int p276198]) := (hs276861 q276185 (rT0 ht276191 (by decide)) (rT1 ht276191 (by decide)) (rT2 ht276191 (by decide))).trans he276304
                        have he276866 : F276852 q276195 = .inr (4, [.int p276311, .ref q276313, .int p276312]) := (hs276861 q276195 (rT0 ht276199 (by decide)) (rT1 ht276199 (by decide)) (rT2 ht276199 (by decide))).trans he276310
                        have hs276867 : rStr γ [] F225954 F276852 := rStr_tr hs276305 hs276861
                        refine G_iload 0 dr_cX17_findLive_99 rfl ?_
                        refine G_if_lt 128 dr_cX17_findLive_101 (by decide +kernel) (fun hc276868 => ?_) (fun hc276868 => ?_)
                        · have r276869 : g276851.toInt < 0 := gj_lt hc276868 (show Int32.toInt 0 = 0 by decide)
                          have bg276851' : gB g276851 (-1) (-1) := ⟨by omega, by omega⟩
                          have hx276870 : tl_RModel_findLive_99 D I γ el P225953 F225954 F276147 p225957 q276185 q225956 g276145 q225955 F276298 z276326 128 F276852 := kt99_276860 128 F276852 (fun R c1 c2 => c1 F276852 g276851 bg276851 hT276853 hs276854 x276855 x276856 x276857 x276858 x276859 r276869)
                          refine G_iconst 0 dr_cX17_findLive_128 (by decide +kernel) ?_
                          refine G_istore (L' := [(6, .int 0), (5, .ref q276185), (4, .int g276145), (3, .int g276146), (0, .ref q225955), (1, .ref q225956), (2, .int p225957)]) dr_cX17_findLive_129 (Nat.le_of_ble_eq_true rfl) rfl ?_
                          have hlp131_277074 : ∀ (n131_277074 : Nat) (F277066 : Nat → va_E) (g277064 : Int32) (g277065 : Int32), gB g277064 0 32 → gB g277065 0 1 → RS D I P225953 F277066 γ el → rStr γ [] F225954 F277066 → (∀ i : Nat, i < 40 → (i : Int) ≠ g276145.toInt → F277066 (γ 10 i) = F276147 (γ 10 i)) → (∀ k : Nat, k < 2048 → rbt (cL (F277066 (γ 9 2))) k = trS γ el F225954 (decide (p225957.toInt = 1)) q276185 (lvM γ F276147) (γ 2 (γ 14 q276185)) k) → (∀ k : Nat, k < 2048 → lvS γ F277066 (g276145.toInt : Int).toNat k = if (k : Int) < 64 * g277064.toInt then trS γ el F225954 (decide (p225957.toInt = 1)) q276185 (lvM γ F276147) (γ 2 (γ 14 q276185)) k else lvS γ F276147 (g276145.toInt : Int).toNat k) → (lvT γ F274901 + (g277065.toInt : Int).toNat ≤ lvT γ F277066) → (q276185 = el (γ 14 q225956) (g276145.toInt : Int).toNat) → (F277066 q225955 = F225954 q225955) → (∀ (k : Nat) (e1 : Int32) (e2 : Nat → va_E), tl_RModel_findLive_131 D I γ el P225953 F225954 g276145 F276147 p225957 q276185 F274901 q225956 q225955 F277066 g277064 g277065 k e1 e2 → tl_RModel_findLive_131 D I γ el P225953 F225954 g276145 F276147 p225957 q276185 F274901 q225956 q225955 F276852 (0 : Int32) g276146 k e1 e2) → ((33 : Int) - g277064.toInt).toNat < n131_277074 → G (gV D I) l (gRm 4 85 0 0) (gMA (gV D I) (pt_225959_SpillForgeModel_findLive D I γ el P225953 F225954 q225955 q225956 p225957) gNA 0 0) ky_225959_SpillForgeModel_findLive 131 [(6, .int g277064), (5, .ref q276185), (4, .int g276145), (3, .int g277065), (0, .ref q225955), (1, .ref q225956), (2, .int p225957)] [] (va_pl P225953 F277066) 0 0 := by
                            intro n131_277074
                            induction n131_277074 with
                            | zero => intro F277066 g277064 g277065 bg277064 bg277065 hT277067 hs277068 x277069 x277070 x277071 x277072 x277073 x277074 kt131_277075 hm131_277074; exact absurd hm131_277074 (Nat.not_lt_zero _)
                            | succ n131_277074 ih131_277074 =>
                              intro F277066 g277064 g277065 bg277064 bg277065 hT277067 hs277068 x277069 x277070 x277071 x277072 x277073 x277074 kt131_277075 hm131_277074
                              have hs277076 : rStr γ [] F276852 F277066 := fun b h0 hb hw => (hs277068 b h0 hb hw).trans (hs276854 b h0 hb hw).symm
                              have he277077 : F277066 q225956 = .inr (18, [.ref q272402, .ref q272403, .int p272404, .int p272405]) := (hs277076 q225956 (rT0 htq225956 (by decide)) (rT1 htq225956 (by decide)) (rT2 htq225956 (by decide))).trans he276862
                              have he277078 : F277066 q272402 = .inr (4, [.int p276166, .ref q276168, .int p276167]) := (hs277076 q272402 (rT0 ht272406 (by decide)) (rT1 ht272406 (by decide)) (rT2 ht272406 (by decide))).trans he276863
                              have he277079 : F277066 q276168 = .inl (I (.object "java/lang/Object"), n276182, .inr (.inr (.inr (.inr f276183)))) := (hs277076 q276168 (rT0 r276174 (by decide)) (rT1 r276174 (by decide)) (rT2 r276174 (by decide))).trans he276864
                              have he277080 : F277066 q276185 = .inr (17, [.ref q276195, .ref q276196, .int p276197, .int p276198]) := (hs277076 q276185 (rT0 ht276191 (by decide)) (rT1 ht276191 (by decide)) (rT2 ht276191 (by decide))).trans he276865
                              have hs277081 : rStr γ [] F225954 F277066 := rStr_tr hs276854 hs277076
                              refine G_iload 0 dr_cX17_findLive_131 rfl ?_
                              refine G_bipush 32 dr_cX17_findLive_133 (by decide +kernel) ?_
                              refine G_icmp_ge 192 dr_cX17_findLive_135 (by decide +kernel) (fun hc277082 => ?_) (fun hc277082 => ?_)
                              · have r277083 : 32 ≤ g277064.toInt := gj_leL hc277082 (show Int32.toInt 32 = 32 by decide)
                                have bg277064' : gB g277064 32 32 := ⟨by omega, by omega⟩
                                have hx277084 : tl_RModel_findLive_131 D I γ el P225953 F225954 g276145 F276147 p225957 q276185 F274901 q225956 q225955 F276852 (0 : Int32) g276146 192 g277065 F277066 := kt131_277075 192 g277065 F277066 (fun R c1 c2 c3 c4 => c1 F277066 g277064 g277065 bg277064 bg277065 hT277067 hs277068 x277069 x277070 x277071 x277072 x277073 x277074 r277083)
                                obtain ⟨z277085, hz277085⟩ : ∃ z : Int32, z = g276145 + Int32.ofInt (-1) := ⟨_, rfl⟩
                                have ez277085 : z277085.toInt = g276145.toInt + (-1) := gI_inc hz277085 (by decide) bg276145' (by decide) (by decide)
                                have bz277085 : gB z277085 (-1) 999998 := ⟨by omega, by omega⟩
                                refine G_iinc (L' := [(4, .int z277085), (6, .int g277064), (5, .ref q276185), (3, .int g277065), (0, .ref q225955), (1, .ref q225956), (2, .int p225957)]) z277085 2 dr_cX17_findLive_192 rfl hz277085.symm (Nat.le_of_ble_eq_true rfl) rfl ?_
                                refine G_goto 58 dr_cX17_findLive_195 (by decide +kernel) ?_
                                refine G_lv (L' := [(4, .int z277085), (3, .int g277065), (0, .ref q225955), (1, .ref q225956), (2, .int p225957)]) [0, 3, 4, 5, 6] rfl ?_
                                exact ih58_276153 F277066 z277085 g277065 (gB_w bz277085 (by decide) (by decide)) bg277065 hT277067 hs277068 (rJv_s x276150 (i0 := g276145.toInt.toNat) (by omega) (by omega) (fun i hi hne => x277069 i hi (by omega)) (fun k hk => by have q := x277071 k hk; rw [if_pos (by omega)] at q; rw [q, ← x277073])) (by have q := x277072; omega) (by omega) x277074 (fun k e1 e2 ht => kt58_276154 k e1 e2 (fun R c1 c2 => c2 F276147 g276145 g276146 q272402 q276185 p276167 F276277 q276196 F276298 q276195 p276312 z276326 F276852 g277065 F277066 z277085 k e1 e2 bg276145 bg276146 hT276148 hs276149 x276150 x276151 x276152 x276153 r276163 fq276190 hx276186 fq276208 ht276214 hT276278 hs276279 x276273 x276274 x276275 ht276276 fq276287 hT276299 hs276300 x276294 x276295 x276296 ht276297 fq276308 fq276319 fq276320 ez276326 hx276870 hx277084 ez277085 (ht R c1 c2))) (by omega)
                              · have r277086 : g277064.toInt < 32 := gj_nleL hc277082 (show Int32.toInt 32 = 32 by decide)
                                have bg277064' : gB g277064 0 31 := ⟨by omega, by omega⟩
                                refine G_iload_n 3 dr_cX17_findLive_138 rfl ?_
                                refine G_if_ne 163 dr_cX17_findLive_139 (by decide +kernel) (fun hc277087 => ?_) (fun hc277087 => ?_)
                                · have r277088 : g277065.toInt ≠ 0 := gj_neq hc277087 (show Int32.toInt 0 = 0 by decide)
                                  have bg277065' : gB g277065 1 1 := ⟨by omega, by omega⟩
                                  refine G_iconst 1 dr_cX17_findLive_163 (by decide +kernel) ?_
                                  refine G_goto 168 dr_cX17_findLive_164 (by decide +kernel) ?_
                                  refine G_istore_n (L' := [(3, .int 1), (6, .int g277064), (5, .ref q276185), (4, .int g276145), (0, .ref q225955), (1, .ref q225956), (2, .int p225957)]) dr_cX17_findLive_168 (Nat.le_of_ble_eq_true rfl) rfl ?_
                                  refine G_aload_n 4 dr_cX17_findLive_169 rfl ?_
                                  have hm277089 : q225955 ∈ P225953 := RS_m hT277067 htq225955 (by decide)
                                  obtain ⟨q277091, q277092, p277093, p277094, p277095, p277096, p277097, p277098, p277099, p277100, p277101, p277102, p277103, p277104, p277105, p277106, p277107, he277090, hB277134, ht277108, ht277109, ht277110, ht277111, ht277112, ht277113, ht277114, ht277115, ht277116, ht277117, ht277118, ht277119, ht277120, ht277121, ht277122, ht277123, ht277124, ht277125, ht277126, ht277127, ht277128, ht277129, ht277130, ht277131, hB277135⟩ := show rk_10 γ (F277066 q225955) from RS_o hT277067 htq225955
                                  have fq277136 : fR (F277066 q225955) 0 = (γ 9 0) := by rw [he277090]; rfl
                                  refine Gp_get 0 hm277089 he277090 dr_cX17_findLive_170 (gk_X17 D I) (Nat.le_of_ble_eq_true rfl) wr_7_74 rfl ?_
                                  refine G_iload 3 dr_cX17_findLive_173 rfl ?_
                                  have hm277137 : (γ 9 0) ∈ P225953 := RS_m hT277067 ht277110 (by decide)
                                  obtain ⟨f277139, he277138, hg277140⟩ := show rk_12 I γ (F277066 (γ 9 0)) from RS_o hT277067 ht277110
                                  obtain ⟨q277141, hx277143⟩ : ∃ x, x = γ 10 g276145.toInt.toNat := ⟨_, rfl⟩
                                  have ht277142 : rKd γ q277141 11 := by rw [hx277143]; exact (hg277140 _ (show g276145.toInt.toNat < 40 by omega)).2.1
                                  refine Gp_aald 5 hm277137 he277138 dr_cX17_findLive_175 rfl rfl (gB_inr (by omega) (by omega)) ?_
                                  rw [show f277139 g276145.toNatClampNeg = some q277141 from (hg277140 _ (show g276145.toInt.toNat < 40 by omega)).1.trans (by rw [hx277143])]
                                  change G _ _ _ _ _ _ _ (.ref q277141 :: _) _ _ _
                                  refine G_iload 1 dr_cX17_findLive_176 rfl ?_
                                  refine G_aload_n 4 dr_cX17_findLive_178 rfl ?_
                                  have fq277144 : fR (F277066 q225955) 2 = (γ 9 2) := by rw [he277090]; rfl
                                  refine Gp_get 2 hm277089 he277090 dr_cX17_findLive_179 (gk_X17 D I) (Nat.le_of_ble_eq_true rfl) wr_7_76 rfl ?_
                                  refine G_iload 1 dr_cX17_findLive_182 rfl ?_
                                  have hm277145 : (γ 9 2) ∈ P225953 := RS_m hT277067 ht277112 (by decide)
                                  obtain ⟨f277147, he277146, wf277147⟩ := show rk_35 I (F277066 (γ 9 2)) from RS_o hT277067 ht277112
                                  refine Gp_lald 2 hm277145 he277146 dr_cX17_findLive_184 rfl (gB_in bg277064' (by decide) (by decide)) (G_namL fun u277148 hu277148 => ?_)
                                  have qu277148 : lb_Q u277148 (2000 - 64 * g277064.toInt) := lb_Wld hu277148 wf277147 (by omega) (by omega) (lb_Mod0 (by omega) (by omega))
                                  have hm277149 : q277141 ∈ P225953 := RS_m hT277067 ht277142 (by decide)
                                  obtain ⟨f277151, he277150, wf277151⟩ := show rk_11 I (F277066 q277141) from RS_o hT277067 ht277142
                                  refine Gp_last 2 hm277149 he277150 dr_cX17_findLive_185 rfl (gB_in bg277064' (by decide) (by decide)) (fun F277152 e277153 n277154 => ?_)
                                  obtain ⟨f277155, hf277155⟩ : ∃ z, z = vp_updL f277151 g277064.toNatClampNeg u277148 := ⟨_, rfl⟩
                                  rw [← hf277155] at e277153
                                  have he277156 : F277152 q225956 = .inr (18, [.ref q272402, .ref q272403, .int p272404, .int p272405]) := (n277154 q225956 (rn_oa he277077 he277150)).trans he277077
                                  have he277157 : F277152 q272402 = .inr (4, [.int p276166, .ref q276168, .int p276167]) := (n277154 q272402 (rn_oa he277078 he277150)).trans he277078
                                  have he277158 : F277152 q276168 = .inl (I (.object "java/lang/Object"), n276182, .inr (.inr (.inr (.inr f276183)))) := (n277154 q276168 (rn_ref_long he277079 he277150)).trans he277079
                                  have he277159 : F277152 q276185 = .inr (17, [.ref q276195, .ref q276196, .int p276197, .int p276198]) := (n277154 q276185 (rn_oa he277080 he277150)).trans he277080
                                  have he277160 : F277152 q225955 = .inr (22, [.ref (γ 9 0), .ref (γ 9 1), .ref (γ 9 2), .ref (γ 9 3), .ref (γ 9 4), .ref (γ 9 5), .ref (γ 9 6), .ref (γ 9 7), .ref (γ 9 8), .int p277093, .int p277094, .int p277095, .int p277096, .int p277097, .int p277098, .ref (γ 9 15), .ref (γ 9 16), .ref (γ 9 17), .ref (γ 9 18), .ref (γ 9 19), .ref (γ 9 20), .ref (γ 9 21), .ref (γ 9 22), .int p277099, .int p277100, .int p277101, .int p277102, .int p277103, .ref q277091, .ref (γ 9 29), .int p277104, .ref (γ 9 31), .int p277105, .int p277106, .int p277107, .ref q277092]) := (n277154 q225955 (rn_oa he277090 he277150)).trans he277090
                                  have he277161 : F277152 (γ 9 0) = .inl (I (.array .long), 40, .inr (.inr (.inr (.inr f277139)))) := (n277154 (γ 9 0) (rn_ref_long he277138 he277150)).trans he277138
                                  have he277162 : F277152 (γ 9 2) = .inl (I .long, 32, .inr (.inl f277147)) := (n277154 (γ 9 2) (rn_ty ht277112 ht277142 (by decide))).trans he277146
                                  have he277163 : F277152 q277141 = .inl (I .long, 32, .inr (.inl f277155)) := e277153
                                  have hs277164 : rStr γ [] F225954 F277152 := rStr_put hs277068 n277154 ht277142 (by decide)
                                  have kp277165 : F277152 q225955 = F225954 q225955 := (n277154 q225955 (rn_ty htq225955 ht277142 (by decide))).trans x277074
                                  have wf277155 : lb_W f277155 (32) (32) (2000) := lb_Wst hf277155 wf277151 (by omega) (lb_Mod0 (by omega) (by omega)) qu277148
                                  obtain ⟨z277166, hz277166⟩ : ∃ z : Int32, z = g277064 + Int32.ofInt 1 := ⟨_, rfl⟩
                                  have ez277166 : z277166.toInt = g277064.toInt + 1 := gI_inc hz277166 (by decide) bg277064' (by decide) (by decide)
                                  have bz277166 : gB z277166 1 32 := ⟨by omega, by omega⟩
                                  refine G_iinc (L' := [(6, .int z277166), (3, .int 1), (5, .ref q276185), (4, .int g276145), (0, .ref q225955), (1, .ref q225956), (2, .int p225957)]) z277166 1 dr_cX17_findLive_186 rfl hz277166.symm (Nat.le_of_ble_eq_true rfl) rfl ?_
                                  refine G_goto 131 dr_cX17_findLive_189 (by decide +kernel) ?_
                                  have hT277167 : RS D I P225953 F277152 γ el := RS_set hT277067 n277154 ht277142 (by decide) ⟨f277155, he277163, wf277155⟩
                                  refine G_lv (L' := [(6, .int z277166), (5, .ref q276185), (4, .int g276145), (3, .int 1), (0, .ref q225955), (1, .ref q225956), (2, .int p225957)]) [0, 2, 3, 1, 4, 5, 6] rfl ?_
                                  exact ih131_277074 F277152 z277166 1 (gB_w bz277166 (by decide) (by decide)) (gB_w (gBl (show Int32.toInt 1 = 1 by decide)) (by decide) (by decide)) hT277167 hs277164 (fun i hi hne => (n277154 _ (by rw [hx277143]; exact RS_lne hT277167 ht277110 hi (by omega) (by omega))).trans (x277069 i hi hne)) (fun k hk => by rw [n277154 (γ 9 2) (rn_ty ht277112 ht277142 (by decide))]; exact x277070 k hk) (fun k hk => by unfold lvS; rw [← hx277143, cL_of he277163]; exact cp_st hu277148 hf277155 bg277064'.1 ez277166 (fun k hk => by have q := x277071 k hk; unfold lvS at q; rw [← hx277143, cL_of he277150] at q; exact q) (fun k hk => by have q := x277070 k hk; rw [cL_of he277146] at q; exact q) k hk) (by have gz : (g277064.toNatClampNeg : Int) = g277064.toInt := g_nn bg277064'.1; have hU := lvT_u (γ := γ) (F := F277066) (i := g276145.toInt.toNat) (z := g277064.toNatClampNeg) (by omega) (cl32 bg277064'.1 (by omega)) (fun i hi hne => n277154 _ (by rw [hx277143]; exact RS_lne hT277167 ht277110 hi (by omega) hne)) (by rw [← hx277143]; exact cL_of he277150) (by rw [← hx277143]; exact cL_of he277163) hf277155; have hS := rpop_sub (lv_w (f := f277151) (g := f277147) (A := trS γ el F225954 (decide (p225957.toInt = 1)) q276185 (lvM γ F276147) (γ 2 (γ 14 q276185))) (z := g277064.toNatClampNeg) (cl32 bg277064'.1 (by omega)) (fun k' h1 h2 h3 => by have q := x277071 k' h1; unfold lvS at q; rw [← hx277143, cL_of he277150, if_neg (by omega)] at q; rw [q] at h3; rw [x277073]; exact x276150 _ (by omega) k' ((lvM_e (by omega) h1).trans (by unfold lvS; rw [← hx277143]; exact h3))) (fun k hk => by have q := x277070 k hk; rw [cL_of he277146] at q; exact q)); rw [← hu277148] at hS; have q := x277072; have qb0 : Int32.toInt 0 = 0 := (by decide); have qb1 : Int32.toInt 1 = 1 := (by decide); omega) x277073 kp277165 (fun k e1 e2 ht => kt131_277075 k e1 e2 (fun R c1 c2 c3 c4 => c2 F277066 g277064 g277065 q277141 f277147 u277148 f277151 f277155 F277152 z277166 k e1 e2 bg277064 bg277065 hT277067 hs277068 x277069 x277070 x277071 x277072 x277073 x277074 r277086 r277088 fq277136 hx277143 fq277144 he277146 hu277148 he277150 hf277155 n277154 he277163 ez277166 (ht R c1 c2 c3 c4))) (by have qa0 : Int32.toInt 1 = 1 := (by decide); omega)
                                · have r277168 : g277065.toInt = 0 := gj_eq hc277087 (show Int32.toInt 0 = 0 by decide)
                                  have bg277065' : gB g277065 0 0 := ⟨by omega, by omega⟩
                                  refine G_aload_n 4 dr_cX17_findLive_142 rfl ?_
                                  have hm277169 : q225955 ∈ P225953 := RS_m hT277067 htq225955 (by decide)
                                  obtain ⟨q277171, q277172, p277173, p277174, p277175, p277176, p277177, p277178, p277179, p277180, p277181, p277182, p277183, p277184, p277185, p277186, p277187, he277170, hB277214, ht277188, ht277189, ht277190, ht277191, ht277192, ht277193, ht277194, ht277195, ht277196, ht277197, ht277198, ht277199, ht277200, ht277201, ht277202, ht277203, ht277204, ht277205, ht277206, ht277207, ht277208, ht277209, ht277210, ht277211, hB277215⟩ := show rk_10 γ (F277066 q225955) from RS_o hT277067 htq225955
                                  have fq277216 : fR (F277066 q225955) 0 = (γ 9 0) := by rw [he277170]; rfl
                                  refine Gp_get 0 hm277169 he277170 dr_cX17_findLive_143 (gk_X17 D I) (Nat.le_of_ble_eq_true rfl) wr_7_74 rfl ?_
                                  refine G_iload 2 dr_cX17_findLive_146 rfl ?_
                                  have hm277217 : (γ 9 0) ∈ P225953 := RS_m hT277067 ht277190 (by decide)
                                  obtain ⟨f277219, he277218, hg277220⟩ := show rk_12 I γ (F277066 (γ 9 0)) from RS_o hT277067 ht277190
                                  obtain ⟨q277221, hx277223⟩ : ∃ x, x = γ 10 g276145.toInt.toNat := ⟨_, rfl⟩
                                  have ht277222 : rKd γ q277221 11 := by rw [hx277223]; exact (hg277220 _ (show g276145.toInt.toNat < 40 by omega)).2.1
                                  refine Gp_aald 5 hm277217 he277218 dr_cX17_findLive_148 rfl rfl (gB_inr (by omega) (by omega)) ?_
                                  rw [show f277219 g276145.toNatClampNeg = some q277221 from (hg277220 _ (show g276145.toInt.toNat < 40 by omega)).1.trans (by rw [hx277223])]
                                  change G _ _ _ _ _ _ _ (.ref q277221 :: _) _ _ _
                                  refine G_iload 0 dr_cX17_findLive_149 rfl ?_
                                  have hm277224 : q277221 ∈ P225953 := RS_m hT277067 ht277222 (by decide)
                                  obtain ⟨f277226, he277225, wf277226⟩ := show rk_11 I (F277066 q277221) from RS_o hT277067 ht277222
                                  refine Gp_lald 2 hm277224 he277225 dr_cX17_findLive_151 rfl (gB_in bg277064' (by decide) (by decide)) (G_namL fun u277227 hu277227 => ?_)
                                  have qu277227 : lb_Q u277227 (2000 - 64 * g277064.toInt) := lb_Wld hu277227 wf277226 (by omega) (by omega) (lb_Mod0 (by omega) (by omega))
                                  refine G_aload_n 4 dr_cX17_findLive_152 rfl ?_
                                  have fq277228 : fR (F277066 q225955) 2 = (γ 9 2) := by rw [he277170]; rfl
                                  refine Gp_get 2 hm277169 he277170 dr_cX17_findLive_153 (gk_X17 D I) (Nat.le_of_ble_eq_true rfl) wr_7_76 rfl ?_
                                  refine G_iload 0 dr_cX17_findLive_156 rfl ?_
                                  have hm277229 : (γ 9 2) ∈ P225953 := RS_m hT277067 ht277192 (by decide)
                                  obtain ⟨f277231, he277230, wf277231⟩ := show rk_35 I (F277066 (γ 9 2)) from RS_o hT277067 ht277192
                                  refine Gp_lald 2 hm277229 he277230 dr_cX17_findLive_158 rfl (gB_in bg277064' (by decide) (by decide)) (G_namL fun u277232 hu277232 => ?_)
                                  have qu277232 : lb_Q u277232 (2000 - 64 * g277064.toInt) := lb_Wld hu277232 wf277231 (by omega) (by omega) (lb_Mod0 (by omega) (by omega))
                                  refine G_lcmp dr_cX17_findLive_159 (G_nam fun z277233 hz277233 => ?_)
                                  have bz277233 : gB z277233 (-1) 1 := gB_cmp hz277233
                                  refine G_if_eq 167 dr_cX17_findLive_160 (by decide +kernel) (fun hc277234 => ?_) (fun hc277234 => ?_)
                                  · have r277235 : z277233.toInt = 0 := gj_eq hc277234 (show Int32.toInt 0 = 0 by decide)
                                    have bz277233' : gB z277233 0 0 := ⟨by omega, by omega⟩
                                    have lhc277234 := gC_cmpE hz277233 hc277234
                                    refine G_iconst 0 dr_cX17_findLive_167 (by decide +kernel) ?_
                                    refine G_istore_n (L' := [(3, .int 0), (6, .int g277064), (5, .ref q276185), (4, .int g276145), (0, .ref q225955), (1, .ref q225956), (2, .int p225957)]) dr_cX17_findLive_168 (Nat.le_of_ble_eq_true rfl) rfl ?_
                                    refine G_aload_n 4 dr_cX17_findLive_169 rfl ?_
                                    refine Gp_get 0 hm277169 he277170 dr_cX17_findLive_170 (gk_X17 D I) (Nat.le_of_ble_eq_true rfl) wr_7_74 rfl ?_
                                    refine G_iload 3 dr_cX17_findLive_173 rfl ?_
                                    refine Gp_aald 5 hm277217 he277218 dr_cX17_findLive_175 rfl rfl (gB_inr (by omega) (by omega)) ?_
                                    rw [show f277219 g276145.toNatClampNeg = some q277221 from (hg277220 _ (show g276145.toInt.toNat < 40 by omega)).1.trans (by rw [hx277223])]
                                    change G _ _ _ _ _ _ _ (.ref q277221 :: _) _ _ _
                                    refine G_iload 1 dr_cX17_findLive_176 rfl ?_
                                    refine G_aload_n 4 dr_cX17_findLive_178 rfl ?_
                                    refine Gp_get 2 hm277169 he277170 dr_cX17_findLive_179 (gk_X17 D I) (Nat.le_of_ble_eq_true rfl) wr_7_76 rfl ?_
                                    refine G_iload 1 dr_cX17_findLive_182 rfl ?_
                                    refine Gp_lald 2 hm277229 he277230 dr_cX17_findLive_184 rfl (gB_in bg277064' (by decide) (by decide)) (G_eql (y := u277232) hu277232.symm ?_)
                                    refine Gp_last 2 hm277224 he277225 dr_cX17_findLive_185 rfl (gB_in bg277064' (by decide) (by decide)) (fun F277236 e277237 n277238 => ?_)
                                    obtain ⟨f277239, hf277239⟩ : ∃ z, z = vp_updL f277226 g277064.toNatClampNeg u277232 := ⟨_, rfl⟩
                                    rw [← hf277239] at e277237
                                    have he277240 : F277236 q225956 = .inr (18, [.ref q272402, .ref q272403, .int p272404, .int p272405]) := (n277238 q225956 (rn_oa he277077 he277225)).trans he277077
                                    have he277241 : F277236 q272402 = .inr (4, [.int p276166, .ref q276168, .int p276167]) := (n277238 q272402 (rn_oa he277078 he277225)).trans he277078
                                    have he277242 : F277236 q276168 = .inl (I (.object "java/lang/Object"), n276182, .inr (.inr (.inr (.inr f276183)))) := (n277238 q276168 (rn_ref_long he277079 he277225)).trans he277079
                                    have he277243 : F277236 q276185 = .inr (17, [.ref q276195, .ref q276196, .int p276197, .int p276198]) := (n277238 q276185 (rn_oa he277080 he277225)).trans he277080
                                    have he277244 : F277236 q225955 = .inr (22, [.ref (γ 9 0), .ref (γ 9 1), .ref (γ 9 2), .ref (γ 9 3), .ref (γ 9 4), .ref (γ 9 5), .ref (γ 9 6), .ref (γ 9 7), .ref (γ 9 8), .int p277173, .int p277174, .int p277175, .int p277176, .int p277177, .int p277178, .ref (γ 9 15), .ref (γ 9 16), .ref (γ 9 17), .ref (γ 9 18), .ref (γ 9 19), .ref (γ 9 20), .ref (γ 9 21), .ref (γ 9 22), .int p277179, .int p277180, .int p277181, .int p277182, .int p277183, .ref q277171, .ref (γ 9 29), .int p277184, .ref (γ 9 31), .int p277185, .int p277186, .int p277187, .ref q277172]) := (n277238 q225955 (rn_oa he277170 he277225)).trans he277170
                                    have he277245 : F277236 (γ 9 0) = .inl (I (.array .long), 40, .inr (.inr (.inr (.inr f277219)))) := (n277238 (γ 9 0) (rn_ref_long he277218 he277225)).trans he277218
                                    have he277246 : F277236 (γ 9 2) = .inl (I .long, 32, .inr (.inl f277231)) := (n277238 (γ 9 2) (rn_ty ht277192 ht277222 (by decide))).trans he277230
                                    have he277247 : F277236 q277221 = .inl (I .long, 32, .inr (.inl f277239)) := e277237
                                    have hs277248 : rStr γ [] F225954 F277236 := rStr_put hs277068 n277238 ht277222 (by decide)
                                    have kp277249 : F277236 q225955 = F225954 q225955 := (n277238 q225955 (rn_ty htq225955 ht277222 (by decide))).trans x277074
                                    have wf277239 : lb_W f277239 (32) (32) (2000) := lb_Wst hf277239 wf277226 (by omega) (lb_Mod0 (by omega) (by omega)) qu277232
                                    obtain ⟨z277250, hz277250⟩ : ∃ z : Int32, z = g277064 + Int32.ofInt 1 := ⟨_, rfl⟩
                                    have ez277250 : z277250.toInt = g277064.toInt + 1 := gI_inc hz277250 (by decide) bg277064' (by decide) (by decide)
                                    have bz277250 : gB z277250 1 32 := ⟨by omega, by omega⟩
                                    refine G_iinc (L' := [(6, .int z277250), (3, .int 0), (5, .ref q276185), (4, .int g276145), (0, .ref q225955), (1, .ref q225956), (2, .int p225957)]) z277250 1 dr_cX17_findLive_186 rfl hz277250.symm (Nat.le_of_ble_eq_true rfl) rfl ?_
                                    refine G_goto 131 dr_cX17_findLive_189 (by decide +kernel) ?_
                                    have hT277251 : RS D I P225953 F277236 γ el := RS_set hT277067 n277238 ht277222 (by decide) ⟨f277239, he277247, wf277239⟩
                                    refine G_lv (L' := [(6, .int z277250), (5, .ref q276185), (4, .int g276145), (3, .int 0), (0, .ref q225955), (1, .ref q225956), (2, .int p225957)]) [0, 2, 3, 1, 4, 5, 6] rfl ?_
                                    exact ih131_277074 F277236 z277250 0 (gB_w bz277250 (by decide) (by decide)) (gB_w (gBl (show Int32.toInt 0 = 0 by decide)) (by decide) (by decide)) hT277251 hs277248 (fun i hi hne => (n277238 _ (by rw [hx277223]; exact RS_lne hT277251 ht277190 hi (by omega) (by omega))).trans (x277069 i hi hne)) (fun k hk => by rw [n277238 (γ 9 2) (rn_ty ht277192 ht277222 (by decide))]; exact x277070 k hk) (fun k hk => by unfold lvS; rw [← hx277223, cL_of he277247]; exact cp_st hu277232 hf277239 bg277064'.1 ez277250 (fun k hk => by have q := x277071 k hk; unfold lvS at q; rw [← hx277223, cL_of he277225] at q; exact q) (fun k hk => by have q := x277070 k hk; rw [cL_of he277230] at q; exact q) k hk) (by have gz : (g277064.toNatClampNeg : Int) = g277064.toInt := g_nn bg277064'.1; have hU := lvT_u (γ := γ) (F := F277066) (i := g276145.toInt.toNat) (z := g277064.toNatClampNeg) (by omega) (cl32 bg277064'.1 (by omega)) (fun i hi hne => n277238 _ (by rw [hx277223]; exact RS_lne hT277251 ht277190 hi (by omega) hne)) (by rw [← hx277223]; exact cL_of he277225) (by rw [← hx277223]; exact cL_of he277247) hf277239; have hS := rpop_sub (lv_w (f := f277226) (g := f277231) (A := trS γ el F225954 (decide (p225957.toInt = 1)) q276185 (lvM γ F276147) (γ 2 (γ 14 q276185))) (z := g277064.toNatClampNeg) (cl32 bg277064'.1 (by omega)) (fun k' h1 h2 h3 => by have q := x277071 k' h1; unfold lvS at q; rw [← hx277223, cL_of he277225, if_neg (by omega)] at q; rw [q] at h3; rw [x277073]; exact x276150 _ (by omega) k' ((lvM_e (by omega) h1).trans (by unfold lvS; rw [← hx277223]; exact h3))) (fun k hk => by have q := x277070 k hk; rw [cL_of he277230] at q; exact q)); rw [← hu277232] at hS; have q := x277072; have qb0 : Int32.toInt 0 = 0 := (by decide); have qb1 : Int32.toInt 1 = 1 := (by decide); omega) x277073 kp277249 (fun k e1 e2 ht => kt131_277075 k e1 e2 (fun R c1 c2 c3 c4 => c3 F277066 g277064 g277065 q277221 f277226 u277227 f277231 u277232 f277239 F277236 z277250 k e1 e2 bg277064 bg277065 hT277067 hs277068 x277069 x277070 x277071 x277072 x277073 x277074 r277086 r277168 fq277216 hx277223 he277225 hu277227 fq277228 he277230 hu277232 lhc277234 hf277239 n277238 he277247 ez277250 (ht R c1 c2 c3 c4))) (by have qa0 : Int32.toInt 0 = 0 := (by decide); omega)
                                  · have r277252 : z277233.toInt ≠ 0 := gj_neq hc277234 (show Int32.toInt 0 = 0 by decide)
                                    have lhc277234 := gC_cmpN hz277233 hc277234
                                    refine G_iconst 1 dr_cX17_findLive_163 (by decide +kernel) ?_
                                    refine G_goto 168 dr_cX17_findLive_164 (by decide +kernel) ?_
                                    refine G_istore_n (L' := [(3, .int 1), (6, .int g277064), (5, .ref q276185), (4, .int g276145), (0, .ref q225955), (1, .ref q225956), (2, .int p225957)]) dr_cX17_findLive_168 (Nat.le_of_ble_eq_true rfl) rfl ?_
                                    refine G_aload_n 4 dr_cX17_findLive_169 rfl ?_
                                    refine Gp_get 0 hm277169 he277170 dr_cX17_findLive_170 (gk_X17 D I) (Nat.le_of_ble_eq_true rfl) wr_7_74 rfl ?_
                                    refine G_iload 3 dr_cX17_findLive_173 rfl ?_
                                    refine Gp_aald 5 hm277217 he277218 dr_cX17_findLive_175 rfl rfl (gB_inr (by omega) (by omega)) ?_
                                    rw [show f277219 g276145.toNatClampNeg = some q277221 from (hg277220 _ (show g276145.toInt.toNat < 40 by omega)).1.trans (by rw [hx277223])]
                                    change G _ _ _ _ _ _ _ (.ref q277221 :: _) _ _ _
                                    refine G_iload 1 dr_cX17_findLive_176 rfl ?_
                                    refine G_aload_n 4 dr_cX17_findLive_178 rfl ?_
                                    refine Gp_get 2 hm277169 he277170 dr_cX17_findLive_179 (gk_X17 D I) (Nat.le_of_ble_eq_true rfl) wr_7_76 rfl ?_
                                    refine G_iload 1 dr_cX17_findLive_182 rfl ?_
                                    refine Gp_lald 2 hm277229 he277230 dr_cX17_findLive_184 rfl (gB_in bg277064' (by decide) (by decide)) (G_eql (y := u277232) hu277232.symm ?_)
                                    refine Gp_last 2 hm277224 he277225 dr_cX17_findLive_185 rfl (gB_in bg277064' (by decide) (by decide)) (fun F277253 e277254 n277255 => ?_)
                                    obtain ⟨f277256, hf277256⟩ : ∃ z, z = vp_updL f277226 g277064.toNatClampNeg u277232 := ⟨_, rfl⟩
                                    rw [← hf277256] at e277254
                                    have he277257 : F277253 q225956 = .inr (18, [.ref q272402, .ref q272403, .int p272404, .int p272405]) := (n277255 q225956 (rn_oa he277077 he277225)).trans he277077
                                    have he277258 : F277253 q272402 = .inr (4, [.int p276166, .ref q276168, .int p276167]) := (n277255 q272402 (rn_oa he277078 he277225)).trans he277078
                                    have he277259 : F277253 q276168 = .inl (I (.object "java/lang/Object"), n276182, .inr (.inr (.inr (.inr f276183)))) := (n277255 q276168 (rn_ref_long he277079 he277225)).trans he277079
                                    have he277260 : F277253 q276185 = .inr (17, [.ref q276195, .ref q276196, .int p276197, .int p276198]) := (n277255 q276185 (rn_oa he277080 he277225)).trans he277080
                                    have he277261 : F277253 q225955 = .inr (22, [.ref (γ 9 0), .ref (γ 9 1), .ref (γ 9 2), .ref (γ 9 3), .ref (γ 9 4), .ref (γ 9 5), .ref (γ 9 6), .ref (γ 9 7), .ref (γ 9 8), .int p277173, .int p277174, .int p277175, .int p277176, .int p277177, .int p277178, .ref (γ 9 15), .ref (γ 9 16), .ref (γ 9 17), .ref (γ 9 18), .ref (γ 9 19), .ref (γ 9 20), .ref (γ 9 21), .ref (γ 9 22), .int p277179, .int p277180, .int p277181, .int p277182, .int p277183, .ref q277171, .ref (γ 9 29), .int p277184, .ref (γ 9 31), .int p277185, .int p277186, .int p277187, .ref q277172]) := (n277255 q225955 (rn_oa he277170 he277225)).trans he277170
                                    have he277262 : F277253 (γ 9 0) = .inl (I (.array .long), 40, .inr (.inr (.inr (.inr f277219)))) := (n277255 (γ 9 0) (rn_ref_long he277218 he277225)).trans he277218
                                    have he277263 : F277253 (γ 9 2) = .inl (I .long, 32, .inr (.inl f277231)) := (n277255 (γ 9 2) (rn_ty ht277192 ht277222 (by decide))).trans he277230
                                    have he277264 : F277253 q277221 = .inl (I .long, 32, .inr (.inl f277256)) := e277254
                                    have hs277265 : rStr γ [] F225954 F277253 := rStr_put hs277068 n277255 ht277222 (by decide)
                                    have kp277266 : F277253 q225955 = F225954 q225955 := (n277255 q225955 (rn_ty htq225955 ht277222 (by decide))).trans x277074
                                    have wf277256 : lb_W f277256 (32) (32) (2000) := lb_Wst hf277256 wf277226 (by omega) (lb_Mod0 (by omega) (by omega)) qu277232
                                    obtain ⟨z277267, hz277267⟩ : ∃ z : Int32, z = g277064 + Int32.ofInt 1 := ⟨_, rfl⟩
                                    have ez277267 : z277267.toInt = g277064.toInt + 1 := gI_inc hz277267 (by decide) bg277064' (by decide) (by decide)
                                    have bz277267 : gB z277267 1 32 := ⟨by omega, by omega⟩
                                    refine G_iinc (L' := [(6, .int z277267), (3, .int 1), (5, .ref q276185), (4, .int g276145), (0, .ref q225955), (1, .ref q225956), (2, .int p225957)]) z277267 1 dr_cX17_findLive_186 rfl hz277267.symm (Nat.le_of_ble_eq_true rfl) rfl ?_
                                    refine G_goto 131 dr_cX17_findLive_189 (by decide +kernel) ?_
                                    have hT277268 : RS D I P225953 F277253 γ el := RS_set hT277067 n277255 ht277222 (by decide) ⟨f277256, he277264, wf277256⟩
                                    refine G_lv (L' := [(6, .int z277267), (5, .ref q276185), (4, .int g276145), (3, .int 1), (0, .ref q225955), (1, .ref q225956), (2, .int p225957)]) [0, 2, 3, 1, 4, 5, 6] rfl ?_
                                    exact ih131_277074 F277253 z277267 1 (gB_w bz277267 (by decide) (by decide)) (gB_w (gBl (show Int32.toInt 1 = 1 by decide)) (by decide) (by decide)) hT277268 hs277265 (fun i hi hne => (n277255 _ (by rw [hx277223]; exact RS_lne hT277268 ht277190 hi (by omega) (by omega))).trans (x277069 i hi hne)) (fun k hk => by rw [n277255 (γ 9 2) (rn_ty ht277192 ht277222 (by decide))]; exact x277070 k hk) (fun k hk => by unfold lvS; rw [← hx277223, cL_of he277264]; exact cp_st hu277232 hf277256 bg277064'.1 ez277267 (fun k hk => by have q := x277071 k hk; unfold lvS at q; rw [← hx277223, cL_of he277225] at q; exact q) (fun k hk => by have q := x277070 k hk; rw [cL_of he277230] at q; exact q) k hk) (by have gz : (g277064.toNatClampNeg : Int) = g277064.toInt := g_nn bg277064'.1; have hU := lvT_u (γ := γ) (F := F277066) (i := g276145.toInt.toNat) (z := g277064.toNatClampNeg) (by omega) (cl32 bg277064'.1 (by omega)) (fun i hi hne => n277255 _ (by rw [hx277223]; exact RS_lne hT277268 ht277190 hi (by omega) hne)) (by rw [← hx277223]; exact cL_of he277225) (by rw [← hx277223]; exact cL_of he277264) hf277256; have hS := rpop_slt (lv_w (f := f277226) (g := f277231) (A := trS γ el F225954 (decide (p225957.toInt = 1)) q276185 (lvM γ F276147) (γ 2 (γ 14 q276185))) (z := g277064.toNatClampNeg) (cl32 bg277064'.1 (by omega)) (fun k' h1 h2 h3 => by have q := x277071 k' h1; unfold lvS at q; rw [← hx277223, cL_of he277225, if_neg (by omega)] at q; rw [q] at h3; rw [x277073]; exact x276150 _ (by omega) k' ((lvM_e (by omega) h1).trans (by unfold lvS; rw [← hx277223]; exact h3))) (fun k hk => by have q := x277070 k hk; rw [cL_of he277230] at q; exact q)) (fun e => lc_ne hz277233 (by omega) (hu277227.trans (e.trans hu277232.symm))); rw [← hu277232] at hS; have q := x277072; have qb0 : Int32.toInt 0 = 0 := (by decide); have qb1 : Int32.toInt 1 = 1 := (by decide); omega) x277073 kp277266 (fun k e1 e2 ht => kt131_277075 k e1 e2 (fun R c1 c2 c3 c4 => c4 F277066 g277064 g277065 q277221 f277226 u277227 f277231 u277232 f277256 F277253 z277267 k e1 e2 bg277064 bg277065 hT277067 hs277068 x277069 x277070 x277071 x277072 x277073 x277074 r277086 r277168 fq277216 hx277223 he277225 hu277227 fq277228 he277230 hu277232 lhc277234 hf277256 n277255 he277264 ez277267 (ht R c1 c2 c3 c4))) (by have qa0 : Int32.toInt 1 = 1 := (by decide); omega)
                          exact hlp131_277074 (((33 : Int) - 0).toNat + 1) F276852 0 g276146 (gB_w (gBl (show Int32.toInt 0 = 0 by decide)) (by decide) (by decide)) bg276146 hT276853 hs276854 (fun i hi _ => x276855 i hi) (fun k hk => by have q := x276856 k hk; rw [show ((((γ 2 (γ 14 q276185) : Nat) : Int) - 1 - g276851.toInt).toNat) = γ 2 (γ 14 q276185) by omega] at q; exact q) (fun k hk => by rw [if_neg (by have qa : Int32.toInt 0 = 0 := (by decide); omega)]; exact lvS_l x276855 (by omega)) (by have q := lvT_l x276855; have q2 := x276151; omega) x276858 x276859 (fun k e1 e2 ht => ht) (Nat.lt_succ_self _)
                        · have r277269 : 0 ≤ g276851.toInt := gj_nlt hc276868 (show Int32.toInt 0 = 0 by decide)
                          have bg276851' : gB g276851 0 999999 := ⟨by omega, by omega⟩
                          refine G_aload_n 4 dr_cX17_findLive_104 rfl ?_
                          refine G_aload 1 dr_cX17_findLive_105 rfl ?_
                          have fq277270 : fR (F276852 q276185) 0 = q276195 := by rw [he276865]; rfl
                          refine Gp_get 0 hm276193 he276865 dr_cX17_findLive_107 (gk_X12 D I) (Nat.le_of_ble_eq_true rfl) wr_9_220 rfl ?_
                          refine G_iload 0 dr_cX17_findLive_110 rfl ?_
                          have hm277271 : q276195 ∈ P225953 := RS_m hT276853 ht276199 (by decide)
                          obtain ⟨⟨p277273, p277274, q277275, he277272, r277276, r277277, r277278, r277280⟩, r277279⟩ := show rk_3 D I γ el F276852 q276195 from RS_o hT276853 ht276199
                          have bp277273 := gB_any p277273
                          have bp277274 : gB p277274 0 1000000 := ⟨by omega, by omega⟩
                          obtain ⟨r277281, r277282, n277289, f277290, r277283, r277284, r277285, r277286, r277287, r277288⟩ := rLC_n r277278 (by omega)
                          have hm277291 : q277275 ∈ P225953 := RS_m hT276853 r277281 (by decide)
                          obtain ⟨q277292, hx277293⟩ : ∃ x, x = el q276195 g276851.toInt.toNat := ⟨_, rfl⟩
                          have hx277294 : f277290 g276851.toNatClampNeg = some q277292 := (r277287 _ (show g276851.toInt.toNat < γ 2 q276195 by omega)).trans (by rw [hx277293])
                          have ht277295 : rKd γ q277292 1 := by rw [hx277293]; exact (r277279 _ (show g276851.toInt.toNat < γ 2 q276195 by omega)).1
                          have ht277296 : rFm γ q277292 q276195 := by rw [hx277293]; exact (r277279 _ (show g276851.toInt.toNat < γ 2 q276195 by omega)).2.1
                          have fq277297 : fI (F276852 q276195) 2 = p277274 := by rw [he277272]; rfl
                          refine Gw_callV (As := [.int g276851]) (gV_ok D I) (cp_22_ArrayList_get l hl0 D I P225953 F276852 q276195 q277275 g276851 p277273 p277274 f277290 n277289 q277292 hm277271 hm277291 he277272 r277283 (gB_w bg276851' (by decide) (by decide)) (gB_w bp277274 (by decide) (by decide)) (by omega) (by omega) (by assumption) (by omega)) dr_cX17_findLive_112 ⟨wr_10_201, wr_1_18, wr_10_65, by decide, rfl, (Nat.le_of_ble_eq_true rfl), (Nat.le_of_ble_eq_true rfl)⟩ wr_10_63 wr_10_64 hm277271 he277272 rfl (show 0 + 0 ≤ 0 by first | omega | decide) (show 0 + 0 ≤ 0 by first | omega | decide) (Nat.le_of_ble_eq_true rfl) (fun r277301 w277302 dc277298 ds277299 hp277300 => ?_) (fun _ _ _ _ _ z => z.elim)
                          obtain ⟨rfl, rfl, hdc, hds, ht277303⟩ := hp277300
                          change G _ _ _ _ _ _ _ (.ref q277292 :: _) _ _ _
                          refine G_widen (cs' := 0) (sl' := 0) (by omega) (by omega) ?_
                          have hm277304 : q277292 ∈ P225953 := RS_m hT276853 ht277295 (by decide)
                          obtain ⟨p277306, p277307, p277308, p277309, p277310, p277311, p277312, he277305, bp277306, bp277307, bp277310, bp277311, bp277312, r277313, r277314, r277315, r277316, r277317⟩ := show rk_1 γ q277292 (F276852 q277292) from RS_o hT276853 ht277295
                          have bp277308 := gB_any p277308
                          have bp277309 := gB_any p277309
                          refine Gp_cast hm277304 he277305 rfl dr_cX17_findLive_115 wr_10_202 (gr_cast 1 rfl) ?_
                          refine G_iload_n 6 dr_cX17_findLive_118 rfl ?_
                          have fl277318 : F276852 q277292 = F225954 (el (γ 14 q276185) (γ 2 (γ 14 q276185) - 1 - ((((γ 2 (γ 14 q276185) : Nat) : Int) - 1 - g276851.toInt).toNat))) := by rw [show γ 2 (γ 14 q276185) - 1 - ((((γ 2 (γ 14 q276185) : Nat) : Int) - 1 - g276851.toInt).toNat) = g276851.toInt.toNat by omega, ht276205.1, ← hx277293]; exact hs276854 q277292 (rT0 ht277295 (by decide)) (rT1 ht277295 (by decide)) (rT2 ht277295 (by decide))
                          have hm277324 : q225955 ∈ P225953 := RS_m hT276853 htq225955 (by decide)
                          obtain ⟨q277326, q277327, p277328, p277329, p277330, p277331, p277332, p277333, p277334, p277335, p277336, p277337, p277338, p277339, p277340, p277341, p277342, he277325, hB277369, ht277343, ht277344, ht277345, ht277346, ht277347, ht277348, ht277349, ht277350, ht277351, ht277352, ht277353, ht277354, ht277355, ht277356, ht277357, ht277358, ht277359, ht277360, ht277361, ht277362, ht277363, ht277364, ht277365, ht277366, hB277370⟩ := show rk_10 γ (F276852 q225955) from RS_o hT276853 htq225955
                          refine Gw_callV (As := [.ref q277292, .int p225957]) (gV_ok D I) (ct_222535_SpillForgeModel_back l hl0 D I γ el P225953 F276852 q225955 q277292 p225957 hT276853 htq225955 ht277295 bp225957) dr_cX17_findLive_119 ⟨wr_10_174, wr_1_14, wr_10_177, by decide, rfl, (Nat.le_of_ble_eq_true rfl), (Nat.le_of_ble_eq_true rfl)⟩ wr_10_176 wr_p_96 hm277324 he277325 rfl (show 0 + 0 ≤ 0 by first | omega | decide) (show 0 + 0 ≤ 0 by first | omega | decide) (Nat.le_of_ble_eq_true rfl) (fun r277322 w277323 dc277319 ds277320 hp277321 => ?_) (fun _ _ _ _ _ z => z.elim)
                          obtain ⟨F277375, rfl, rfl, hT277376, hs277377, hdc, hds, x277371, x277372, x277373, ht277374⟩ := hp277321
                          have he277378 : F277375 q225956 = .inr (18, [.ref q272402, .ref q272403, .int p272404, .int p272405]) := (hs277377 q225956 (rT0 htq225956 (by decide)) (rT1 htq225956 (by decide)) (rT2 htq225956 (by decide))).trans he276862
                          have he277379 : F277375 q272402 = .inr (4, [.int p276166, .ref q276168, .int p276167]) := (hs277377 q272402 (rT0 ht272406 (by decide)) (rT1 ht272406 (by decide)) (rT2 ht272406 (by decide))).trans he276863
                          have he277380 : F277375 q276168 = .inl (I (.object "java/lang/Object"), n276182, .inr (.inr (.inr (.inr f276183)))) := (hs277377 q276168 (rT0 r276174 (by decide)) (rT1 r276174 (by decide)) (rT2 r276174 (by decide))).trans he276864
                          have he277381 : F277375 q276185 = .inr (17, [.ref q276195, .ref q276196, .int p276197, .int p276198]) := (hs277377 q276185 (rT0 ht276191 (by decide)) (rT1 ht276191 (by decide)) (rT2 ht276191 (by decide))).trans he276865
                          have he277382 : F277375 q276195 = .inr (4, [.int p277273, .ref q277275, .int p277274]) := (hs277377 q276195 (rT0 ht276199 (by decide)) (rT1 ht276199 (by decide)) (rT2 ht276199 (by decide))).trans he277272
                          have he277383 : F277375 q277275 = .inl (I (.object "java/lang/Object"), n277289, .inr (.inr (.inr (.inr f277290)))) := (hs277377 q277275 (rT0 r277281 (by decide)) (rT1 r277281 (by decide)) (rT2 r277281 (by decide))).trans r277283
                          have he277384 : F277375 q277292 = .inr (20, [.int p277306, .int p277307, .int p277308, .int p277309, .int p277310, .int p277311, .int p277312]) := (hs277377 q277292 (rT0 ht277295 (by decide)) (rT1 ht277295 (by decide)) (rT2 ht277295 (by decide))).trans he277305
                          have hs277385 : rStr γ [] F225954 F277375 := rStr_tr hs276854 hs277377
                          have kp277386 : F277375 q225955 = F225954 q225955 := (x277373).trans x276859
                          have he277387 : F277375 q225955 = .inr (22, [.ref (γ 9 0), .ref (γ 9 1), .ref (γ 9 2), .ref (γ 9 3), .ref (γ 9 4), .ref (γ 9 5), .ref (γ 9 6), .ref (γ 9 7), .ref (γ 9 8), .int p277328, .int p277329, .int p277330, .int p277331, .int p277332, .int p277333, .ref (γ 9 15), .ref (γ 9 16), .ref (γ 9 17), .ref (γ 9 18), .ref (γ 9 19), .ref (γ 9 20), .ref (γ 9 21), .ref (γ 9 22), .int p277334, .int p277335, .int p277336, .int p277337, .int p277338, .ref q277326, .ref (γ 9 29), .int p277339, .ref (γ 9 31), .int p277340, .int p277341, .int p277342, .ref q277327]) := (x277373).trans he277325
                          change G _ _ _ _ _ _ _ _ _ _ _
                          refine G_widen (cs' := 0) (sl' := 0) (by omega) (by omega) ?_
                          obtain ⟨z277388, hz277388⟩ : ∃ z : Int32, z = g276851 + Int32.ofInt (-1) := ⟨_, rfl⟩
                          have ez277388 : z277388.toInt = g276851.toInt + (-1) := gI_inc hz277388 (by decide) bg276851' (by decide) (by decide)
                          have bz277388 : gB z277388 (-1) 999998 := ⟨by omega, by omega⟩
                          refine G_iinc (L' := [(6, .int z277388), (5, .ref q276185), (4, .int g276145), (3, .int g276146), (0, .ref q225955), (1, .ref q225956), (2, .int p225957)]) z277388 0 dr_cX17_findLive_122 rfl hz277388.symm (Nat.le_of_ble_eq_true rfl) rfl ?_
                          refine G_goto 99 dr_cX17_findLive_125 (by decide +kernel) ?_
                          exact ih99_276859 F277375 z277388 (gB_w bz277388 (by decide) (by decide)) hT277376 hs277385 (rLv_tr x276855 x277372) (by rw [show ((((γ 2 (γ 14 q276185) : Nat) : Int) - 1 - z277388.toInt).toNat) = ((((γ 2 (γ 14 q276185) : Nat) : Int) - 1 - g276851.toInt).toNat) + 1 by omega]; exact tr_b x276856 fl277318 x277371) (by omega) x276858 kp277386 (fun k e1 ht => kt99_276860 k e1 (fun R c1 c2 => c2 F276852 g276851 q276195 q277292 p277274 F277375 z277388 k e1 bg276851 hT276853 hs276854 x276855 x276856 x276857 x276858 x276859 r277269 fq277270 hx277293 fq277297 ht277303 hT277376 hs277377 x277371 x277372 x277373 ht277374 ez277388 (ht R c1 c2))) (by omega)
                    exact hlp99_276859 (((z276326.toInt : Int) - (-2)).toNat + 1) F276298 z276326 bz276326 hT276299 hs276305 (rLv_tr x276274 x276295) (by rw [show ((((γ 2 (γ 14 q276185) : Nat) : Int) - 1 - z276326.toInt).toNat) = 0 by omega]; exact tr_0 (fun k hk => by have q := x276273 k hk; rw [ht276205.2.1, fl276216, fl276215] at q; rw [q, ht276205.2.1]; exact bhV_c ⟨by omega, by omega⟩ ⟨by omega, by omega⟩ (fun i hi => (lvM_e hi hk).symm)) fl276288 x276294) (by omega) fl276220 kp276306 (fun k e1 ht => ht) (Nat.lt_succ_self _)
              exact hlp58_276153 (((z274920.toInt : Int) - (-2)).toNat + 1) F274901 z274920 0 bz274920 (gB_w (gBl (show Int32.toInt 0 = 0 by decide)) (by decide) (by decide)) hT274902 hs274903 x274904 (by have qa : Int32.toInt 0 = 0 := (by decide); rw [qa]; exact Nat.le_refl _) (by have qa0 : Int32.toInt 0 = 0 := (by decide); omega) x274905 (fun k e1 e2 ht => ht) (Nat.lt_succ_self _)
        exact hlp44_274905 (((81920 - lvT γ F272392) + (1 : Int).toNat) + 1) F272392 1 (gB_w (gBl (show Int32.toInt 1 = 1 by decide)) (by decide) (by decide)) hT272393 hs272394 (rJv_0 (fun i hi j hj => x272395 i (by omega) j hj)) x272396 (fun k e1 ht => ht) (Nat.lt_succ_self _)
      · have r277389 : g272391.toInt < p272405.toInt := gC_nle hc272428
        have bg272391' : gB g272391 0 999999 := ⟨by omega, by omega⟩
        have bp272405' : gB p272405 1 1000000 := ⟨by omega, by omega⟩
        refine G_iconst 0 dr_cX17_findLive_10 (by decide +kernel) ?_
        refine G_istore (L' := [(4, .int 0), (3, .int g272391), (0, .ref q225955), (1, .ref q225956), (2, .int p225957)]) dr_cX17_findLive_11 (Nat.le_of_ble_eq_true rfl) rfl ?_
        have hlp13_277476 : ∀ (n13_277476 : Nat) (F277471 : Nat → va_E) (g277470 : Int32), gB g277470 0 32 → RS D I P225953 F277471 γ el → rStr γ [] F225954 F277471 → (∀ i : Nat, (i : Int) < g272391.toInt → ∀ j : Nat, j < 32 → cL (F277471 (γ 10 i)) j = 0) → (∀ j : Nat, (j : Int) < g277470.toInt → cL (F277471 (γ 10 (g272391.toInt : Int).toNat)) j = 0) → (F277471 q225955 = F225954 q225955) → (∀ (k : Nat) (e1 : Nat → va_E), tl_RModel_findLive_13 D I γ el P225953 F225954 g272391 q225955 F277471 g277470 k e1 → tl_RModel_findLive_13 D I γ el P225953 F225954 g272391 q225955 F272392 (0 : Int32) k e1) → ((33 : Int) - g277470.toInt).toNat < n13_277476 → G (gV D I) l (gRm 4 85 0 0) (gMA (gV D I) (pt_225959_SpillForgeModel_findLive D I γ el P225953 F225954 q225955 q225956 p225957) gNA 0 0) ky_225959_SpillForgeModel_findLive 13 [(4, .int g277470), (3, .int g272391), (0, .ref q225955), (1, .ref q225956), (2, .int p225957)] [] (va_pl P225953 F277471) 0 0 := by
          intro n13_277476
          induction n13_277476 with
          | zero => intro F277471 g277470 bg277470 hT277472 hs277473 x277474 x277475 x277476 kt13_277477 hm13_277476; exact absurd hm13_277476 (Nat.not_lt_zero _)
          | succ n13_277476 ih13_277476 =>
            intro F277471 g277470 bg277470 hT277472 hs277473 x277474 x277475 x277476 kt13_277477 hm13_277476
            have hs277478 : rStr γ [] F272392 F277471 := fun b h0 hb hw => (hs277473 b h0 hb hw).trans (hs272394 b h0 hb hw).symm
            have he277479 : F277471 q225956 = .inr (18, [.ref q272402, .ref q272403, .int p272404, .int p272405]) := (hs277478 q225956 (rT0 htq225956 (by decide)) (rT1 htq225956 (by decide)) (rT2 htq225956 (by decide))).trans he272401
            have hs277480 : rStr γ [] F225954 F277471 := rStr_tr hs272394 hs277478
            refine G_iload 0 dr_cX17_findLive_13 rfl ?_
            refine G_bipush 32 dr_cX17_findLive_15 (by decide +kernel) ?_
            refine G_icmp_ge 36 dr_cX17_findLive_17 (by decide +kernel) (fun hc277481 => ?_) (fun hc277481 => ?_)
            · have r277482 : 32 ≤ g277470.toInt := gj_leL hc277481 (show Int32.toInt 32 = 32 by decide)
              have bg277470' : gB g277470 32 32 := ⟨by omega, by omega⟩
              have hx277483 : tl_RModel_findLive_13 D I γ el P225953 F225954 g272391 q225955 F272392 (0 : Int32) 36 F277471 := kt13_277477 36 F277471 (fun R c1 c2 => c1 F277471 g277470 bg277470 hT277472 hs277473 x277474 x277475 x277476 r277482)
              obtain ⟨z277484, hz277484⟩ : ∃ z : Int32, z = g272391 + Int32.ofInt 1 := ⟨_, rfl⟩
              have ez277484 : z277484.toInt = g272391.toInt + 1 := gI_inc hz277484 (by decide) bg272391' (by decide) (by decide)
              have bz277484 : gB z277484 1 1000000 := ⟨by omega, by omega⟩
              refine G_iinc (L' := [(3, .int z277484), (4, .int g277470), (0, .ref q225955), (1, .ref q225956), (2, .int p225957)]) z277484 1 dr_cX17_findLive_36 rfl hz277484.symm (Nat.le_of_ble_eq_true rfl) rfl ?_
              refine G_goto 2 dr_cX17_findLive_39 (by decide +kernel) ?_
              refine G_lv (L' := [(3, .int z277484), (0, .ref q225955), (1, .ref q225956), (2, .int p225957)]) [0, 2, 3, 4] rfl ?_
              exact ih2_272396 F277471 z277484 (gB_w bz277484 (by decide) (by decide)) hT277472 hs277473 (zl_s x277474 x277475 (by omega) ez277484 bg272391'.1) x277476 (fun k e1 ht => kt2_272397 k e1 (fun R c1 c2 => c2 F272392 g272391 p272405 F277471 z277484 k e1 bg272391 hT272393 hs272394 x272395 x272396 fq272422 r277389 hx277483 ez277484 (ht R c1 c2))) (by omega)
            · have r277485 : g277470.toInt < 32 := gj_nleL hc277481 (show Int32.toInt 32 = 32 by decide)
              have bg277470' : gB g277470 0 31 := ⟨by omega, by omega⟩
              refine G_aload_n 2 dr_cX17_findLive_20 rfl ?_
              have hm277486 : q225955 ∈ P225953 := RS_m hT277472 htq225955 (by decide)
              obtain ⟨q277488, q277489, p277490, p277491, p277492, p277493, p277494, p277495, p277496, p277497, p277498, p277499, p277500, p277501, p277502, p277503, p277504, he277487, hB277531, ht277505, ht277506, ht277507, ht277508, ht277509, ht277510, ht277511, ht277512, ht277513, ht277514, ht277515, ht277516, ht277517, ht277518, ht277519, ht277520, ht277521, ht277522, ht277523, ht277524, ht277525, ht277526, ht277527, ht277528, hB277532⟩ := show rk_10 γ (F277471 q225955) from RS_o hT277472 htq225955
              have fq277533 : fR (F277471 q225955) 0 = (γ 9 0) := by rw [he277487]; rfl
              refine Gp_get 0 hm277486 he277487 dr_cX17_findLive_21 (gk_X17 D I) (Nat.le_of_ble_eq_true rfl) wr_7_74 rfl ?_
              refine G_iload_n 1 dr_cX17_findLive_24 rfl ?_
              have hm277534 : (γ 9 0) ∈ P225953 := RS_m hT277472 ht277507 (by decide)
              obtain ⟨f277536, he277535, hg277537⟩ := show rk_12 I γ (F277471 (γ 9 0)) from RS_o hT277472 ht277507
              obtain ⟨q277538, hx277540⟩ : ∃ x, x = γ 10 g272391.toInt.toNat := ⟨_, rfl⟩
              have ht277539 : rKd γ q277538 11 := by rw [hx277540]; exact (hg277537 _ (show g272391.toInt.toNat < 40 by omega)).2.1
              refine Gp_aald 5 hm277534 he277535 dr_cX17_findLive_25 rfl rfl (gB_inr (by omega) (by omega)) ?_
              rw [show f277536 g272391.toNatClampNeg = some q277538 from (hg277537 _ (show g272391.toInt.toNat < 40 by omega)).1.trans (by rw [hx277540])]
              change G _ _ _ _ _ _ _ (.ref q277538 :: _) _ _ _
              refine G_iload 0 dr_cX17_findLive_26 rfl ?_
              refine G_lconst 0 dr_cX17_findLive_28 rfl ?_
              have hm277541 : q277538 ∈ P225953 := RS_m hT277472 ht277539 (by decide)
              obtain ⟨f277543, he277542, wf277543⟩ := show rk_11 I (F277471 q277538) from RS_o hT277472 ht277539
              refine Gp_last 2 hm277541 he277542 dr_cX17_findLive_29 rfl (gB_in bg277470' (by decide) (by decide)) (fun F277544 e277545 n277546 => ?_)
              obtain ⟨f277547, hf277547⟩ : ∃ z, z = vp_updL f277543 g277470.toNatClampNeg 0 := ⟨_, rfl⟩
              rw [← hf277547] at e277545
              have he277548 : F277544 q225956 = .inr (18, [.ref q272402, .ref q272403, .int p272404, .int p272405]) := (n277546 q225956 (rn_oa he277479 he277542)).trans he277479
              have he277549 : F277544 q225955 = .inr (22, [.ref (γ 9 0), .ref (γ 9 1), .ref (γ 9 2), .ref (γ 9 3), .ref (γ 9 4), .ref (γ 9 5), .ref (γ 9 6), .ref (γ 9 7), .ref (γ 9 8), .int p277490, .int p277491, .int p277492, .int p277493, .int p277494, .int p277495, .ref (γ 9 15), .ref (γ 9 16), .ref (γ 9 17), .ref (γ 9 18), .ref (γ 9 19), .ref (γ 9 20), .ref (γ 9 21), .ref (γ 9 22), .int p277496, .int p277497, .int p277498, .int p277499, .int p277500, .ref q277488, .ref (γ 9 29), .int p277501, .ref (γ 9 31), .int p277502, .int p277503, .int p277504, .ref q277489]) := (n277546 q225955 (rn_oa he277487 he277542)).trans he277487
              have he277550 : F277544 (γ 9 0) = .inl (I (.array .long), 40, .inr (.inr (.inr (.inr f277536)))) := (n277546 (γ 9 0) (rn_ref_long he277535 he277542)).trans he277535
              have he277551 : F277544 q277538 = .inl (I .long, 32, .inr (.inl f277547)) := e277545
              have hs277552 : rStr γ [] F225954 F277544 := rStr_put hs277473 n277546 ht277539 (by decide)
              have kp277553 : F277544 q225955 = F225954 q225955 := (n277546 q225955 (rn_ty htq225955 ht277539 (by decide))).trans x277476
              have wf277547 : lb_W f277547 (32) (32) (2000) := lb_Wst hf277547 wf277543 (by omega) (lb_Mod0 (by omega) (by omega)) lb_Q0
              obtain ⟨z277554, hz277554⟩ : ∃ z : Int32, z = g277470 + Int32.ofInt 1 := ⟨_, rfl⟩
              have ez277554 : z277554.toInt = g277470.toInt + 1 := gI_inc hz277554 (by decide) bg277470' (by decide) (by decide)
              have bz277554 : gB z277554 1 32 := ⟨by omega, by omega⟩
              refine G_iinc (L' := [(4, .int z277554), (3, .int g272391), (0, .ref q225955), (1, .ref q225956), (2, .int p225957)]) z277554 0 dr_cX17_findLive_30 rfl hz277554.symm (Nat.le_of_ble_eq_true rfl) rfl ?_
              refine G_goto 13 dr_cX17_findLive_33 (by decide +kernel) ?_
              have hT277555 : RS D I P225953 F277544 γ el := RS_set hT277472 n277546 ht277539 (by decide) ⟨f277547, he277551, wf277547⟩
              exact ih13_277476 F277544 z277554 (gB_w bz277554 (by decide) (by decide)) hT277555 hs277552 (zl_r x277474 (fun i hi => n277546 _ (by rw [hx277540]; exact RS_lne hT277555 ht277507 (by omega) (by omega) (by omega)))) (by rw [← hx277540, cL_of he277551]; exact zr_st hf277547 (by have q := x277475; rw [← hx277540, cL_of he277542] at q; exact q) ez277554 bg277470'.1) kp277553 (fun k e1 ht => kt13_277477 k e1 (fun R c1 c2 => c2 F277471 g277470 q277538 f277543 f277547 F277544 z277554 k e1 bg277470 hT277472 hs277473 x277474 x277475 x277476 r277485 fq277533 hx277540 he277542 hf277547 n277546 he277551 ez277554 (ht R c1 c2))) (by omega)
        exact hlp13_277476 (((33 : Int) - 0).toNat + 1) F272392 0 (gB_w (gBl (show Int32.toInt 0 = 0 by decide)) (by decide) (by decide)) hT272393 hs272394 x272395 (fun j hj => absurd hj (by have qa : Int32.toInt 0 = 0 := (by decide); omega)) x272396 (fun k e1 ht => ht) (Nat.lt_succ_self _)
  exact hlp2_272396 (((1000001 : Int) - 0).toNat + 1) F225954 0 (gB_w (gBl (show Int32.toInt 0 = 0 by decide)) (by decide) (by decide)) hT (rStr_rf (γ := γ) (W := []) (F := F225954)) (fun i hi => absurd hi (by have qa : Int32.toInt 0 = 0 := (by decide); omega)) rfl (fun k e1 ht => ht) (Nat.lt_succ_self _)
/- tl_RModel_behind3_33: F, l3; out: F -/
def tl_RModel_behind3_33 (D : va_G) (I : FieldType → ClassId) (γ el : Nat → Nat → Nat) (P : List Nat) (F : Nat → va_E) (q0 : Nat) (q1 : Nat) (l2_1 : Int32) (s1 : Nat → va_E) (s2 : Int32) (k : Nat) (e1 : Nat → va_E) : Prop := ∀ R : (Nat → va_E) → (Int32) → Nat → (Nat → va_E) → Prop,
  (∀ (F_2 : Nat → va_E) (l3_2 : Int32), gB l3_2 0 32 → RS D I P F_2 γ el → rStr γ [] F F_2 → (F_2 q0 = F q0) → (F_2 (γ 9 3) = F (γ 9 3)) → 32 ≤ l3_2.toInt → R F_2 l3_2 66 F_2) →
  (∀ (F_2 : Nat → va_E) (l3_2 : Int32) (x1 : Nat → Int64) (x2 : Int64) (x3 : Int32) (x4 : Int32) (x5 : Int32) (x6 : Nat) (x7 : Nat → Int64) (x8 : Int64) (x9 : Int64) (x10 : Nat → Int64) (x11 : Nat → va_E) (x12 : Int32) (k : Nat) (e1 : Nat → va_E), gB l3_2 0 32 → RS D I P F_2 γ el → rStr γ [] F F_2 → (F_2 q0 = F q0) → (F_2 (γ 9 3) = F (γ 9 3)) → l3_2.toInt < 32 → fR (F_2 q0) 2 = (γ 9 2) → F_2 (γ 9 2) = .inl (I .long, 32, .inr (.inl x1)) → x2 = x1 l3_2.toNatClampNeg → fR (F_2 q0) 0 = (γ 9 0) → fI (F_2 q1) 2 = x3 → fI (F_2 q1) 3 = x4 → gB x5 0 39 → tr_RBlock_way2 l2_1 x3 x4 x5 → x6 = γ 10 x5.toInt.toNat → F_2 x6 = .inl (I .long, 32, .inr (.inl x7)) → x8 = x7 l3_2.toNatClampNeg → x9 = x2 ||| x8 → x10 = vp_updL x1 l3_2.toNatClampNeg x9 → (∀ b, b ≠ (γ 9 2) → x11 b = F_2 b) → x11 (γ 9 2) = .inl (I .long, 32, .inr (.inl x10)) → x12.toInt = l3_2.toInt + 1 → R x11 x12 k e1 → R F_2 l3_2 k e1) →
  R s1 s2 k e1
/- tl_RModel_behind3_23: F, l2; out: F -/
def tl_RModel_behind3_23 (D : va_G) (I : FieldType → ClassId) (γ el : Nat → Nat → Nat) (P : List Nat) (F : Nat → va_E) (q0 : Nat) (q1 : Nat) (s1 : Nat → va_E) (s2 : Int32) (k : Nat) (e1 : Nat → va_E) : Prop := ∀ R : (Nat → va_E) → (Int32) → Nat → (Nat → va_E) → Prop,
  (∀ (F_1 : Nat → va_E) (l2_1 : Int32) (x1 : Int32) (x2 : Int32) (x3 : Nat) (x4 : Int32) (x5 : Int32), gB l2_1 0 2 → RS D I P F_1 γ el → rStr γ [] F F_1 → (F_1 q0 = F q0) → (F_1 (γ 9 3) = F (γ 9 3)) → fI (F_1 q1) 2 = x1 → fI (F_1 q1) 3 = x2 → fR (F_1 q1) 1 = x3 → fI (F_1 x3) 0 = x4 → gB x5 0 2 → tr_RBlock_ways x1 x2 x4 x5 → x5.toInt ≤ l2_1.toInt → R F_1 l2_1 72 F_1) →
  (∀ (F_1 : Nat → va_E) (l2_1 : Int32) (x1 : Int32) (x2 : Int32) (x3 : Nat) (x4 : Int32) (x5 : Int32) (x6 : Nat → va_E) (x7 : Int32) (k : Nat) (e1 : Nat → va_E), gB l2_1 0 2 → RS D I P F_1 γ el → rStr γ [] F F_1 → (F_1 q0 = F q0) → (F_1 (γ 9 3) = F (γ 9 3)) → fI (F_1 q1) 2 = x1 → fI (F_1 q1) 3 = x2 → fR (F_1 q1) 1 = x3 → fI (F_1 x3) 0 = x4 → gB x5 0 2 → tr_RBlock_ways x1 x2 x4 x5 → l2_1.toInt < x5.toInt → tl_RModel_behind3_33 D I γ el P F q0 q1 l2_1 F_1 (0 : Int32) 66 x6 → x7.toInt = l2_1.toInt + 1 → R x6 x7 k e1 → R F_1 l2_1 k e1) →
  R s1 s2 k e1
/- tl_RModel_behind3_2: F, l2; out: F -/
def tl_RModel_behind3_2 (D : va_G) (I : FieldType → ClassId) (γ el : Nat → Nat → Nat) (P : List Nat) (F : Nat → va_E) (q0 : Nat) (s1 : Nat → va_E) (s2 : Int32) (k : Nat) (e1 : Nat → va_E) : Prop := ∀ R : (Nat → va_E) → (Int32) → Nat → (Nat → va_E) → Prop,
  (∀ (F_1 : Nat → va_E) (l2_1 : Int32), gB l2_1 0 32 → RS D I P F_1 γ el → rStr γ [] F F_1 → (F_1 q0 = F q0) → (F_1 (γ 9 3) = F (γ 9 3)) → 32 ≤ l2_1.toInt → R F_1 l2_1 21 F_1) →
  (∀ (F_1 : Nat → va_E) (l2_1 : Int32) (x1 : Nat → Int64) (x2 : Nat → Int64) (x3 : Nat → va_E) (x4 : Int32) (k : Nat) (e1 : Nat → va_E), gB l2_1 0 32 → RS D I P F_1 γ el → rStr γ [] F F_1 → (F_1 q0 = F q0) → (F_1 (γ 9 3) = F (γ 9 3)) → l2_1.toInt < 32 → fR (F_1 q0) 2 = (γ 9 2) → F_1 (γ 9 2) = .inl (I .long, 32, .inr (.inl x1)) → x2 = vp_updL x1 l2_1.toNatClampNeg 0 → (∀ b, b ≠ (γ 9 2) → x3 b = F_1 b) → x3 (γ 9 2) = .inl (I .long, 32, .inr (.inl x2)) → x4.toInt = l2_1.toInt + 1 → R x3 x4 k e1 → R F_1 l2_1 k e1) →
  R s1 s2 k e1
/- tr_RModel_behind3: F -/
def tr_RModel_behind3 (D : va_G) (I : FieldType → ClassId) (γ el : Nat → Nat → Nat) (P : List Nat) (F : Nat → va_E) (q0 : Nat) (q1 : Nat) (o1 : Nat → va_E) : Prop := ∀ R : (Nat → va_E) → Prop,
  (∀ (x1 : Nat → va_E) (x2 : Nat → va_E), tl_RModel_behind3_2 D I γ el P F q0 F (0 : Int32) 21 x1 → tl_RModel_behind3_23 D I γ el P F q0 q1 x1 (0 : Int32) 72 x2 → R x2) →
  R o1
