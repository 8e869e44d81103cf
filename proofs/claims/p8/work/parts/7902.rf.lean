theorem dr_cX17_findLive_0 : decode cX17_findLive 0 = .ok (.iconst 0, 1) := by decide +kernel
theorem dr_cX17_findLive_1 : decode cX17_findLive 1 = .ok (.istore_n 3, 1) := by decide +kernel
theorem dr_cX17_findLive_2 : decode cX17_findLive 2 = .ok (.iload_n 3, 1) := by decide +kernel
theorem dr_cX17_findLive_3 : decode cX17_findLive 3 = .ok (.aload_n 1, 1) := by decide +kernel
theorem dr_cX17_findLive_4 : decode cX17_findLive 4 = .ok (.invokevirtual 96, 3) := by decide +kernel
theorem dr_cX17_findLive_7 : decode cX17_findLive 7 = .ok (.if_icmp .ge 35, 3) := by decide +kernel
theorem dr_cX17_findLive_42 : decode cX17_findLive 42 = .ok (.iconst 1, 1) := by decide +kernel
theorem dr_cX17_findLive_43 : decode cX17_findLive 43 = .ok (.istore_n 3, 1) := by decide +kernel
theorem dr_cX17_findLive_44 : decode cX17_findLive 44 = .ok (.iload_n 3, 1) := by decide +kernel
theorem dr_cX17_findLive_45 : decode cX17_findLive 45 = .ok (.ifCond .eq 156, 3) := by decide +kernel
theorem dr_cX17_findLive_201 : decode cX17_findLive 201 = .ok (.return_, 1) := by decide +kernel
theorem dr_cX17_findLive_48 : decode cX17_findLive 48 = .ok (.iconst 0, 1) := by decide +kernel
theorem dr_cX17_findLive_49 : decode cX17_findLive 49 = .ok (.istore_n 3, 1) := by decide +kernel
theorem dr_cX17_findLive_50 : decode cX17_findLive 50 = .ok (.aload_n 1, 1) := by decide +kernel
theorem dr_cX17_findLive_51 : decode cX17_findLive 51 = .ok (.invokevirtual 96, 3) := by decide +kernel
theorem dr_cX17_findLive_54 : decode cX17_findLive 54 = .ok (.iconst 1, 1) := by decide +kernel
theorem dr_cX17_findLive_55 : decode cX17_findLive 55 = .ok (.isub, 1) := by decide +kernel
theorem dr_cX17_findLive_56 : decode cX17_findLive 56 = .ok (.istore 4, 2) := by decide +kernel
theorem dr_cX17_findLive_58 : decode cX17_findLive 58 = .ok (.iload 4, 2) := by decide +kernel
theorem dr_cX17_findLive_60 : decode cX17_findLive 60 = .ok (.ifCond .lt 138, 3) := by decide +kernel
theorem dr_cX17_findLive_198 : decode cX17_findLive 198 = .ok (.goto (-154), 3) := by decide +kernel
theorem dr_cX17_findLive_63 : decode cX17_findLive 63 = .ok (.aload_n 1, 1) := by decide +kernel
theorem dr_cX17_findLive_64 : decode cX17_findLive 64 = .ok (.iload 4, 2) := by decide +kernel
theorem dr_cX17_findLive_66 : decode cX17_findLive 66 = .ok (.invokevirtual 101, 3) := by decide +kernel
theorem dr_cX17_findLive_69 : decode cX17_findLive 69 = .ok (.astore 5, 2) := by decide +kernel
theorem dr_cX17_findLive_71 : decode cX17_findLive 71 = .ok (.aload_n 0, 1) := by decide +kernel
theorem dr_cX17_findLive_72 : decode cX17_findLive 72 = .ok (.aload 5, 2) := by decide +kernel
theorem dr_cX17_findLive_74 : decode cX17_findLive 74 = .ok (.invokevirtual 105, 3) := by decide +kernel
theorem wr_10_162 : (Jvm.Cond.methodLink "SpillForgeModel" (105 : Nat) ({ cls := "SpillForgeModel", name := "behind", desc := "(LSpillForgeModel$Block;)V" } : Jvm.MethodName)) ∈ gw := gw_10 162 rfl rfl
theorem wr_10_165 : (Jvm.Cond.code ({ cls := "SpillForgeModel", name := "behind", desc := "(LSpillForgeModel$Block;)V" } : Jvm.MethodName) prog_14_method_8_code (4 : Nat) (Option.none : Option Jvm.ClassFile.FieldType)) ∈ gw := gw_10 165 rfl rfl
theorem wr_10_164 : (Jvm.Cond.instanceMethod ({ cls := "SpillForgeModel", name := "behind", desc := "(LSpillForgeModel$Block;)V" } : Jvm.MethodName)) ∈ gw := gw_10 164 rfl rfl
theorem wr_p_95 : Cond.selects "SpillForgeModel" ⟨"SpillForgeModel", "behind", "(LSpillForgeModel$Block;)V"⟩ ⟨"SpillForgeModel", "behind", "(LSpillForgeModel$Block;)V"⟩ ∈ gw := gw_p _ 95 rfl rfl rfl
theorem dr_cX17_findLive_77 : decode cX17_findLive 77 = .ok (.aload_n 0, 1) := by decide +kernel
theorem dr_cX17_findLive_78 : decode cX17_findLive 78 = .ok (.aload 5, 2) := by decide +kernel
theorem dr_cX17_findLive_80 : decode cX17_findLive 80 = .ok (.getfield 109, 3) := by decide +kernel
theorem dr_cX17_findLive_83 : decode cX17_findLive 83 = .ok (.iload_n 2, 1) := by decide +kernel
theorem dr_cX17_findLive_84 : decode cX17_findLive 84 = .ok (.invokevirtual 113, 3) := by decide +kernel
theorem wr_10_174 : (Jvm.Cond.methodLink "SpillForgeModel" (113 : Nat) ({ cls := "SpillForgeModel", name := "back", desc := "(LSpillForgeModel$Row;Z)V" } : Jvm.MethodName)) ∈ gw := gw_10 174 rfl rfl
theorem wr_10_177 : (Jvm.Cond.code ({ cls := "SpillForgeModel", name := "back", desc := "(LSpillForgeModel$Row;Z)V" } : Jvm.MethodName) prog_14_method_7_code (4 : Nat) (Option.none : Option Jvm.ClassFile.FieldType)) ∈ gw := gw_10 177 rfl rfl
theorem wr_10_176 : (Jvm.Cond.instanceMethod ({ cls := "SpillForgeModel", name := "back", desc := "(LSpillForgeModel$Row;Z)V" } : Jvm.MethodName)) ∈ gw := gw_10 176 rfl rfl
theorem wr_p_96 : Cond.selects "SpillForgeModel" ⟨"SpillForgeModel", "back", "(LSpillForgeModel$Row;Z)V"⟩ ⟨"SpillForgeModel", "back", "(LSpillForgeModel$Row;Z)V"⟩ ∈ gw := gw_p _ 96 rfl rfl rfl
theorem dr_cX17_findLive_87 : decode cX17_findLive 87 = .ok (.aload 5, 2) := by decide +kernel
theorem dr_cX17_findLive_89 : decode cX17_findLive 89 = .ok (.getfield 117, 3) := by decide +kernel
theorem dr_cX17_findLive_92 : decode cX17_findLive 92 = .ok (.invokevirtual 121, 3) := by decide +kernel
theorem dr_cX17_findLive_95 : decode cX17_findLive 95 = .ok (.iconst 1, 1) := by decide +kernel
theorem dr_cX17_findLive_96 : decode cX17_findLive 96 = .ok (.isub, 1) := by decide +kernel
theorem dr_cX17_findLive_97 : decode cX17_findLive 97 = .ok (.istore 6, 2) := by decide +kernel
theorem dr_cX17_findLive_99 : decode cX17_findLive 99 = .ok (.iload 6, 2) := by decide +kernel
theorem dr_cX17_findLive_101 : decode cX17_findLive 101 = .ok (.ifCond .lt 27, 3) := by decide +kernel
theorem dr_cX17_findLive_128 : decode cX17_findLive 128 = .ok (.iconst 0, 1) := by decide +kernel
theorem dr_cX17_findLive_129 : decode cX17_findLive 129 = .ok (.istore 6, 2) := by decide +kernel
theorem dr_cX17_findLive_131 : decode cX17_findLive 131 = .ok (.iload 6, 2) := by decide +kernel
theorem dr_cX17_findLive_133 : decode cX17_findLive 133 = .ok (.bipush 32, 2) := by decide +kernel
theorem dr_cX17_findLive_135 : decode cX17_findLive 135 = .ok (.if_icmp .ge 57, 3) := by decide +kernel
theorem dr_cX17_findLive_192 : decode cX17_findLive 192 = .ok (.iinc 4 (-1), 3) := by decide +kernel
theorem dr_cX17_findLive_195 : decode cX17_findLive 195 = .ok (.goto (-137), 3) := by decide +kernel
theorem dr_cX17_findLive_138 : decode cX17_findLive 138 = .ok (.iload_n 3, 1) := by decide +kernel
theorem dr_cX17_findLive_139 : decode cX17_findLive 139 = .ok (.ifCond .ne 24, 3) := by decide +kernel
theorem dr_cX17_findLive_163 : decode cX17_findLive 163 = .ok (.iconst 1, 1) := by decide +kernel
theorem dr_cX17_findLive_164 : decode cX17_findLive 164 = .ok (.goto 4, 3) := by decide +kernel
theorem dr_cX17_findLive_168 : decode cX17_findLive 168 = .ok (.istore_n 3, 1) := by decide +kernel
theorem dr_cX17_findLive_169 : decode cX17_findLive 169 = .ok (.aload_n 0, 1) := by decide +kernel
theorem dr_cX17_findLive_170 : decode cX17_findLive 170 = .ok (.getfield 88, 3) := by decide +kernel
theorem dr_cX17_findLive_173 : decode cX17_findLive 173 = .ok (.iload 4, 2) := by decide +kernel
theorem dr_cX17_findLive_175 : decode cX17_findLive 175 = .ok (.aaload, 1) := by decide +kernel
theorem dr_cX17_findLive_176 : decode cX17_findLive 176 = .ok (.iload 6, 2) := by decide +kernel
theorem dr_cX17_findLive_178 : decode cX17_findLive 178 = .ok (.aload_n 0, 1) := by decide +kernel
theorem dr_cX17_findLive_179 : decode cX17_findLive 179 = .ok (.getfield 59, 3) := by decide +kernel
theorem dr_cX17_findLive_182 : decode cX17_findLive 182 = .ok (.iload 6, 2) := by decide +kernel
theorem dr_cX17_findLive_184 : decode cX17_findLive 184 = .ok (.laload, 1) := by decide +kernel
theorem dr_cX17_findLive_185 : decode cX17_findLive 185 = .ok (.lastore, 1) := by decide +kernel
theorem dr_cX17_findLive_186 : decode cX17_findLive 186 = .ok (.iinc 6 1, 3) := by decide +kernel
theorem dr_cX17_findLive_189 : decode cX17_findLive 189 = .ok (.goto (-58), 3) := by decide +kernel
theorem dr_cX17_findLive_142 : decode cX17_findLive 142 = .ok (.aload_n 0, 1) := by decide +kernel
theorem dr_cX17_findLive_143 : decode cX17_findLive 143 = .ok (.getfield 88, 3) := by decide +kernel
theorem dr_cX17_findLive_146 : decode cX17_findLive 146 = .ok (.iload 4, 2) := by decide +kernel
theorem dr_cX17_findLive_148 : decode cX17_findLive 148 = .ok (.aaload, 1) := by decide +kernel
theorem dr_cX17_findLive_149 : decode cX17_findLive 149 = .ok (.iload 6, 2) := by decide +kernel
theorem dr_cX17_findLive_151 : decode cX17_findLive 151 = .ok (.laload, 1) := by decide +kernel
theorem dr_cX17_findLive_152 : decode cX17_findLive 152 = .ok (.aload_n 0, 1) := by decide +kernel
theorem dr_cX17_findLive_153 : decode cX17_findLive 153 = .ok (.getfield 59, 3) := by decide +kernel
theorem dr_cX17_findLive_156 : decode cX17_findLive 156 = .ok (.iload 6, 2) := by decide +kernel
theorem dr_cX17_findLive_158 : decode cX17_findLive 158 = .ok (.laload, 1) := by decide +kernel
theorem dr_cX17_findLive_159 : decode cX17_findLive 159 = .ok (.lcmp, 1) := by decide +kernel
theorem dr_cX17_findLive_160 : decode cX17_findLive 160 = .ok (.ifCond .eq 7, 3) := by decide +kernel
theorem dr_cX17_findLive_167 : decode cX17_findLive 167 = .ok (.iconst 0, 1) := by decide +kernel
theorem dr_cX17_findLive_104 : decode cX17_findLive 104 = .ok (.aload_n 0, 1) := by decide +kernel
theorem dr_cX17_findLive_105 : decode cX17_findLive 105 = .ok (.aload 5, 2) := by decide +kernel
theorem dr_cX17_findLive_107 : decode cX17_findLive 107 = .ok (.getfield 117, 3) := by decide +kernel
theorem dr_cX17_findLive_110 : decode cX17_findLive 110 = .ok (.iload 6, 2) := by decide +kernel
theorem dr_cX17_findLive_112 : decode cX17_findLive 112 = .ok (.invokevirtual 124, 3) := by decide +kernel
theorem dr_cX17_findLive_115 : decode cX17_findLive 115 = .ok (.checkcast 40, 3) := by decide +kernel
theorem dr_cX17_findLive_118 : decode cX17_findLive 118 = .ok (.iload_n 2, 1) := by decide +kernel
theorem dr_cX17_findLive_119 : decode cX17_findLive 119 = .ok (.invokevirtual 113, 3) := by decide +kernel
theorem dr_cX17_findLive_122 : decode cX17_findLive 122 = .ok (.iinc 6 (-1), 3) := by decide +kernel
theorem dr_cX17_findLive_125 : decode cX17_findLive 125 = .ok (.goto (-26), 3) := by decide +kernel
theorem dr_cX17_findLive_10 : decode cX17_findLive 10 = .ok (.iconst 0, 1) := by decide +kernel
theorem dr_cX17_findLive_11 : decode cX17_findLive 11 = .ok (.istore 4, 2) := by decide +kernel
theorem dr_cX17_findLive_13 : decode cX17_findLive 13 = .ok (.iload 4, 2) := by decide +kernel
theorem dr_cX17_findLive_15 : decode cX17_findLive 15 = .ok (.bipush 32, 2) := by decide +kernel
theorem dr_cX17_findLive_17 : decode cX17_findLive 17 = .ok (.if_icmp .ge 19, 3) := by decide +kernel
theorem dr_cX17_findLive_36 : decode cX17_findLive 36 = .ok (.iinc 3 1, 3) := by decide +kernel
theorem dr_cX17_findLive_39 : decode cX17_findLive 39 = .ok (.goto (-37), 3) := by decide +kernel
theorem dr_cX17_findLive_20 : decode cX17_findLive 20 = .ok (.aload_n 0, 1) := by decide +kernel
theorem dr_cX17_findLive_21 : decode cX17_findLive 21 = .ok (.getfield 88, 3) := by decide +kernel
theorem dr_cX17_findLive_24 : decode cX17_findLive 24 = .ok (.iload_n 3, 1) := by decide +kernel
theorem dr_cX17_findLive_25 : decode cX17_findLive 25 = .ok (.aaload, 1) := by decide +kernel
theorem dr_cX17_findLive_26 : decode cX17_findLive 26 = .ok (.iload 4, 2) := by decide +kernel
theorem dr_cX17_findLive_28 : decode cX17_findLive 28 = .ok (.lconst 0, 1) := by decide +kernel
theorem dr_cX17_findLive_29 : decode cX17_findLive 29 = .ok (.lastore, 1) := by decide +kernel
theorem dr_cX17_findLive_30 : decode cX17_findLive 30 = .ok (.iinc 4 1, 3) := by decide +kernel
theorem dr_cX17_findLive_33 : decode cX17_findLive 33 = .ok (.goto (-20), 3) := by decide +kernel
abbrev ky_222267_Block_ways : gKey := (cX12_ways, 1, "SpillForgeModel$Block", (some FieldType.int), [], "ways", fun _ _ => True)
def pp_222267_Block_ways (D : va_G) (I : FieldType → ClassId) (P222253 : List Nat) (F222254 : Nat → va_E) (q222255 : Nat) (q222256 : Nat) (qo222257 : Nat) (p222258 : Int32) (p222259 : Int32) (p222260 : Int32) (p222261 : Int32) (p222262 : Int32) (p222263 : Int32) (p222264 : Int32) (p222265 : Int32) (p222266 : Int32) : Option Value → va_W → Nat → Nat → Prop := fun r w dc ds => ∃ (o222277 : Int32), r = some (.int o222277) ∧ w = va_pl P222253 F222254 ∧ dc ≤ 0 ∧ ds ≤ 0 ∧ gB o222277 0 2 ∧ ((o222277.toInt = 0 ∧ p222260.toInt = 32) ∨ (o222277.toInt = 1 ∧ p222260.toInt ≠ 32 ∧ (p222260.toInt = 30 ∨ p222258.toInt = p222259.toInt)) ∨ (o222277.toInt = 2 ∧ p222260.toInt ≠ 32 ∧ p222260.toInt ≠ 30 ∧ p222258.toInt ≠ p222259.toInt)) ∧ tr_RBlock_ways2 p222258 p222259 p222260 o222277
set_option maxRecDepth 100000 in
set_option maxHeartbeats 4000000 in
theorem cp_222267_Block_ways (l : Launch) (hl0 : l.stackTraces = false) (D : va_G) (I : FieldType → ClassId) (P222253 : List Nat) (F222254 : Nat → va_E) (q222255 : Nat) (q222256 : Nat) (qo222257 : Nat) (p222258 : Int32) (p222259 : Int32) (p222260 : Int32) (p222261 : Int32) (p222262 : Int32) (p222263 : Int32) (p222264 : Int32) (p222265 : Int32) (p222266 : Int32) (hmq222255 : q222255 ∈ P222253) (hmq222256 : q222256 ∈ P222253) (heq222255 : F222254 q222255 = .inr (17, [.ref qo222257, .ref q222256, .int p222258, .int p222259])) (heq222256 : F222254 q222256 = .inr (20, [.int p222260, .int p222261, .int p222262, .int p222263, .int p222264, .int p222265, .int p222266])) (bp222258 : gB p222258 0 39) (bp222259 : gB p222259 0 39) (bp222260 : gB p222260 0 32) (bp222261 : gB p222261 0 1999) (bp222264 : gB p222264 0 1999) (bp222265 : gB p222265 0 1) (bp222266 : gB p222266 0 1) : CtA (gV D I) l yX12_ways cX12_ways 1 (some FieldType.int) 0 0 0 0 [.ref q222255] (va_pl P222253 F222254) (pp_222267_Block_ways D I P222253 F222254 q222255 q222256 qo222257 p222258 p222259 p222260 p222261 p222262 p222263 p222264 p222265 p222266) gNA := by
  refine CtA_of hl0 (by decide) (Nat.le_of_ble_eq_true rfl) ?_
  have bp222262 := gB_any p222262
  have bp222263 := gB_any p222263
  refine G_aload_n 0 dr_cX12_ways_0 rfl ?_
  refine Gp_get 1 hmq222255 heq222255 dr_cX12_ways_1 (gk_X12 D I) (Nat.le_of_ble_eq_true rfl) wr_9_222 rfl ?_
  refine Gp_get 0 hmq222256 heq222256 dr_cX12_ways_4 (gk_X15 D I) (Nat.le_of_ble_eq_true rfl) wr_9_176 rfl ?_
  refine G_bipush 32 dr_cX12_ways_7 (by decide +kernel) ?_
  refine G_icmp_ne 16 dr_cX12_ways_9 (by decide +kernel) (fun hc222268 => ?_) (fun hc222268 => ?_)
  · have r222269 : p222260.toInt ≠ 32 := gj_neq hc222268 (show Int32.toInt 32 = 32 by decide)
    have bp222260' : gB p222260 0 31 := ⟨by omega, by omega⟩
    refine G_aload_n 0 dr_cX12_ways_16 rfl ?_
    refine Gp_get 1 hmq222255 heq222255 dr_cX12_ways_17 (gk_X12 D I) (Nat.le_of_ble_eq_true rfl) wr_9_222 rfl ?_
    refine Gp_get 0 hmq222256 heq222256 dr_cX12_ways_20 (gk_X15 D I) (Nat.le_of_ble_eq_true rfl) wr_9_176 rfl ?_
    refine G_bipush 30 dr_cX12_ways_23 (by decide +kernel) ?_
    refine G_icmp_eq 39 dr_cX12_ways_25 (by decide +kernel) (fun hc222270 => ?_) (fun hc222270 => ?_)
    · have r222271 : p222260.toInt = 30 := gj_eq hc222270 (show Int32.toInt 30 = 30 by decide)
      have bp222260'' : gB p222260 30 30 := ⟨by omega, by omega⟩
      refine G_iconst 1 dr_cX12_ways_39 (by decide +kernel) ?_
      refine G_goto 44 dr_cX12_ways_40 (by decide +kernel) ?_
      exact G_iretA dr_cX12_ways_44 rfl (Nat.le_of_ble_eq_true rfl) (Nat.le_of_ble_eq_true rfl) ⟨1, rfl, rfl, (Nat.le_of_ble_eq_true rfl), (Nat.le_of_ble_eq_true rfl), (gB_w (gBl (show Int32.toInt 1 = 1 by decide)) (by decide) (by decide)), (by have qa0 : Int32.toInt 1 = 1 := (by decide); omega), (fun R c1 c2 c3 c4 => c1 r222269 r222271)⟩
    · have r222272 : p222260.toInt ≠ 30 := gj_neq hc222270 (show Int32.toInt 30 = 30 by decide)
      refine G_aload_n 0 dr_cX12_ways_28 rfl ?_
      refine Gp_get 2 hmq222255 heq222255 dr_cX12_ways_29 (gk_X12 D I) (Nat.le_of_ble_eq_true rfl) wr_9_226 rfl ?_
      refine G_aload_n 0 dr_cX12_ways_32 rfl ?_
      refine Gp_get 3 hmq222255 heq222255 dr_cX12_ways_33 (gk_X12 D I) (Nat.le_of_ble_eq_true rfl) wr_9_230 rfl ?_
      refine G_icmp_ne 43 dr_cX12_ways_36 (by decide +kernel) (fun hc222273 => ?_) (fun hc222273 => ?_)
      · have r222274 : p222258.toInt ≠ p222259.toInt := gC_ne hc222273
        refine G_iconst 2 dr_cX12_ways_43 (by decide +kernel) ?_
        exact G_iretA dr_cX12_ways_44 rfl (Nat.le_of_ble_eq_true rfl) (Nat.le_of_ble_eq_true rfl) ⟨2, rfl, rfl, (Nat.le_of_ble_eq_true rfl), (Nat.le_of_ble_eq_true rfl), (gB_w (gBl (show Int32.toInt 2 = 2 by decide)) (by decide) (by decide)), (by have qa0 : Int32.toInt 2 = 2 := (by decide); omega), (fun R c1 c2 c3 c4 => c2 r222269 r222272 r222274)⟩
      · have r222275 : p222258.toInt = p222259.toInt := gC_eq hc222273
        refine G_iconst 1 dr_cX12_ways_39 (by decide +kernel) ?_
        refine G_goto 44 dr_cX12_ways_40 (by decide +kernel) ?_
        exact G_iretA dr_cX12_ways_44 rfl (Nat.le_of_ble_eq_true rfl) (Nat.le_of_ble_eq_true rfl) ⟨1, rfl, rfl, (Nat.le_of_ble_eq_true rfl), (Nat.le_of_ble_eq_true rfl), (gB_w (gBl (show Int32.toInt 1 = 1 by decide)) (by decide) (by decide)), (by have qa0 : Int32.toInt 1 = 1 := (by decide); omega), (fun R c1 c2 c3 c4 => c3 r222269 r222272 r222275)⟩
  · have r222276 : p222260.toInt = 32 := gj_eq hc222268 (show Int32.toInt 32 = 32 by decide)
    have bp222260' : gB p222260 32 32 := ⟨by omega, by omega⟩
    refine G_iconst 0 dr_cX12_ways_12 (by decide +kernel) ?_
    refine G_goto 44 dr_cX12_ways_13 (by decide +kernel) ?_
    exact G_iretA dr_cX12_ways_44 rfl (Nat.le_of_ble_eq_true rfl) (Nat.le_of_ble_eq_true rfl) ⟨0, rfl, rfl, (Nat.le_of_ble_eq_true rfl), (Nat.le_of_ble_eq_true rfl), (gB_w (gBl (show Int32.toInt 0 = 0 by decide)) (by decide) (by decide)), (by have qa0 : Int32.toInt 0 = 0 := (by decide); omega), (fun R c1 c2 c3 c4 => c4 r222276)⟩
/- tr_RBlock_way3: result -/
def tr_RBlock_way3 (a1 : Int32) (a0_first : Int32) (a0_second : Int32) (o1 : Int32) : Prop := ∀ R : (Int32) → Prop,
  (a1.toInt ≠ 0 → R a0_second) →
  (a1.toInt = 0 → R a0_first) →
  R o1
abbrev ky_222402_Block_way : gKey := (cX12_way, 2, "SpillForgeModel$Block", (some FieldType.int), [], "way", fun _ _ => True)
def pp_222402_Block_way (D : va_G) (I : FieldType → ClassId) (P222387 : List Nat) (F222388 : Nat → va_E) (q222389 : Nat) (q222390 : Nat) (p222391 : Int32) (qo222392 : Nat) (p222393 : Int32) (p222394 : Int32) (p222395 : Int32) (p222396 : Int32) (p222397 : Int32) (p222398 : Int32) (p222399 : Int32) (p222400 : Int32) (p222401 : Int32) : Option Value → va_W → Nat → Nat → Prop := fun r w dc ds => ∃ (o222406 : Int32), r = some (.int o222406) ∧ w = va_pl P222387 F222388 ∧ dc ≤ 0 ∧ ds ≤ 0 ∧ gB o222406 0 39 ∧ ((p222391.toInt = 0 ∧ o222406.toInt = p222393.toInt) ∨ (p222391.toInt ≠ 0 ∧ o222406.toInt = p222394.toInt)) ∧ tr_RBlock_way3 p222391 p222393 p222394 o222406
set_option maxRecDepth 100000 in
set_option maxHeartbeats 4000000 in
theorem cp_222402_Block_way (l : Launch) (hl0 : l.stackTraces = false) (D : va_G) (I : FieldType → ClassId) (P222387 : List Nat) (F222388 : Nat → va_E) (q222389 : Nat) (q222390 : Nat) (p222391 : Int32) (qo222392 : Nat) (p222393 : Int32) (p222394 : Int32) (p222395 : Int32) (p222396 : Int32) (p222397 : Int32) (p222398 : Int32) (p222399 : Int32) (p222400 : Int32) (p222401 : Int32) (hmq222389 : q222389 ∈ P222387) (hmq222390 : q222390 ∈ P222387) (heq222389 : F222388 q222389 = .inr (17, [.ref qo222392, .ref q222390, .int p222393, .int p222394])) (heq222390 : F222388 q222390 = .inr (20, [.int p222395, .int p222396, .int p222397, .int p222398, .int p222399, .int p222400, .int p222401])) (bp222393 : gB p222393 0 39) (bp222394 : gB p222394 0 39) (bp222395 : gB p222395 0 32) (bp222396 : gB p222396 0 1999) (bp222399 : gB p222399 0 1999) (bp222400 : gB p222400 0 1) (bp222401 : gB p222401 0 1) : CtA (gV D I) l yX12_way cX12_way 2 (some FieldType.int) 0 0 0 0 [.ref q222389, .int p222391] (va_pl P222387 F222388) (pp_222402_Block_way D I P222387 F222388 q222389 q222390 p222391 qo222392 p222393 p222394 p222395 p222396 p222397 p222398 p222399 p222400 p222401) gNA := by
  refine CtA_of hl0 (by decide) (Nat.le_of_ble_eq_true rfl) ?_
  have bp222391 := gB_any p222391
  have bp222397 := gB_any p222397
  have bp222398 := gB_any p222398
  refine G_iload_n 1 dr_cX12_way_0 rfl ?_
  refine G_if_ne 11 dr_cX12_way_1 (by decide +kernel) (fun hc222403 => ?_) (fun hc222403 => ?_)
  · have r222404 : p222391.toInt ≠ 0 := gj_neq hc222403 (show Int32.toInt 0 = 0 by decide)
    refine G_aload_n 0 dr_cX12_way_11 rfl ?_
    refine Gp_get 3 hmq222389 heq222389 dr_cX12_way_12 (gk_X12 D I) (Nat.le_of_ble_eq_true rfl) wr_9_230 rfl ?_
    exact G_iretA dr_cX12_way_15 rfl (Nat.le_of_ble_eq_true rfl) (Nat.le_of_ble_eq_true rfl) ⟨p222394, rfl, rfl, (Nat.le_of_ble_eq_true rfl), (Nat.le_of_ble_eq_true rfl), bp222394, (by omega), (fun R c1 c2 => c1 r222404)⟩
  · have r222405 : p222391.toInt = 0 := gj_eq hc222403 (show Int32.toInt 0 = 0 by decide)
    have bp222391' : gB p222391 0 0 := ⟨by omega, by omega⟩
    refine G_aload_n 0 dr_cX12_way_4 rfl ?_
    refine Gp_get 2 hmq222389 heq222389 dr_cX12_way_5 (gk_X12 D I) (Nat.le_of_ble_eq_true rfl) wr_9_226 rfl ?_
    refine G_goto 15 dr_cX12_way_8 (by decide +kernel) ?_
    exact G_iretA dr_cX12_way_15 rfl (Nat.le_of_ble_eq_true rfl) (Nat.le_of_ble_eq_true rfl) ⟨p222393, rfl, rfl, (Nat.le_of_ble_eq_true rfl), (Nat.le_of_ble_eq_true rfl), bp222393, (by omega), (fun R c1 c2 => c2 r222405)⟩
/- tl_RModel_behind2_33: F, l3; out: F -/
def tl_RModel_behind2_33 (D : va_G) (I : FieldType → ClassId) (γ el : Nat → Nat → Nat) (P : List Nat) (F : Nat → va_E) (l2_1 : Int32) (q1 : Nat) (q0 : Nat) (s1 : Nat → va_E) (s2 : Int32) (k : Nat) (e1 : Nat → va_E) : Prop := ∀ R : (Nat → va_E) → (Int32) → Nat → (Nat → va_E) → Prop,
  (∀ (F_2 : Nat → va_E) (l3_2 : Int32), gB l3_2 0 32 → RS D I P F_2 γ el → rStr γ [] F F_2 → ((∀ k : Nat, k < 2048 → rbt (cL (F_2 (γ 9 2))) k = if (k : Int) < 64 * l3_2.toInt then wyV (l2_1.toInt + 1) (fI (F q1) 2).toInt (fI (F q1) 3).toInt (lvS γ F) k else wyV l2_1.toInt (fI (F q1) 2).toInt (fI (F q1) 3).toInt (lvS γ F) k)) → rLv γ F F_2 → (((l2_1.toInt = 0 ∧ (fI (F (γ 15 q1)) 0).toInt ≠ 32) ∨ (l2_1.toInt = 1 ∧ (fI (F (γ 15 q1)) 0).toInt ≠ 32 ∧ (fI (F (γ 15 q1)) 0).toInt ≠ 30 ∧ (fI (F q1) 2).toInt ≠ (fI (F q1) 3).toInt))) → (F_2 q0 = F q0) → 32 ≤ l3_2.toInt → R F_2 l3_2 66 F_2) →
  (∀ (F_2 : Nat → va_E) (l3_2 : Int32) (x1 : Nat → Int64) (x2 : Int64) (x3 : Int32) (x4 : Int32) (x5 : Int32) (x6 : Nat) (x7 : Nat → Int64) (x8 : Int64) (x9 : Int64) (x10 : Nat → Int64) (x11 : Nat → va_E) (x12 : Int32) (k : Nat) (e1 : Nat → va_E), gB l3_2 0 32 → RS D I P F_2 γ el → rStr γ [] F F_2 → ((∀ k : Nat, k < 2048 → rbt (cL (F_2 (γ 9 2))) k = if (k : Int) < 64 * l3_2.toInt then wyV (l2_1.toInt + 1) (fI (F q1) 2).toInt (fI (F q1) 3).toInt (lvS γ F) k else wyV l2_1.toInt (fI (F q1) 2).toInt (fI (F q1) 3).toInt (lvS γ F) k)) → rLv γ F F_2 → (((l2_1.toInt = 0 ∧ (fI (F (γ 15 q1)) 0).toInt ≠ 32) ∨ (l2_1.toInt = 1 ∧ (fI (F (γ 15 q1)) 0).toInt ≠ 32 ∧ (fI (F (γ 15 q1)) 0).toInt ≠ 30 ∧ (fI (F q1) 2).toInt ≠ (fI (F q1) 3).toInt))) → (F_2 q0 = F q0) → l3_2.toInt < 32 → fR (F_2 q0) 2 = (γ 9 2) → F_2 (γ 9 2) = .inl (I .long, 32, .inr (.inl x1)) → x2 = x1 l3_2.toNatClampNeg → fR (F_2 q0) 0 = (γ 9 0) → fI (F_2 q1) 2 = x3 → fI (F_2 q1) 3 = x4 → gB x5 0 39 → tr_RBlock_way3 l2_1 x3 x4 x5 → x6 = γ 10 x5.toInt.toNat → F_2 x6 = .inl (I .long, 32, .inr (.inl x7)) → x8 = x7 l3_2.toNatClampNeg → x9 = x2 ||| x8 → x10 = vp_updL x1 l3_2.toNatClampNeg x9 → (∀ b, b ≠ (γ 9 2) → x11 b = F_2 b) → x11 (γ 9 2) = .inl (I .long, 32, .inr (.inl x10)) → x12.toInt = l3_2.toInt + 1 → R x11 x12 k e1 → R F_2 l3_2 k e1) →
  R s1 s2 k e1
/- tl_RModel_behind2_23: F, l2; out: F -/
def tl_RModel_behind2_23 (D : va_G) (I : FieldType → ClassId) (γ el : Nat → Nat → Nat) (P : List Nat) (F : Nat → va_E) (q1 : Nat) (q0 : Nat) (s1 : Nat → va_E) (s2 : Int32) (k : Nat) (e1 : Nat → va_E) : Prop := ∀ R : (Nat → va_E) → (Int32) → Nat → (Nat → va_E) → Prop,
  (∀ (F_1 : Nat → va_E) (l2_1 : Int32) (x1 : Int32) (x2 : Int32) (x3 : Nat) (x4 : Int32) (x5 : Int32), gB l2_1 0 2 → RS D I P F_1 γ el → rStr γ [] F F_1 → ((∀ k : Nat, k < 2048 → rbt (cL (F_1 (γ 9 2))) k = wyV l2_1.toInt (fI (F q1) 2).toInt (fI (F q1) 3).toInt (lvS γ F) k)) → rLv γ F F_1 → ((l2_1.toInt = 0 ∨ ((fI (F (γ 15 q1)) 0).toInt ≠ 32 ∧ (l2_1.toInt = 1 ∨ (l2_1.toInt = 2 ∧ (fI (F (γ 15 q1)) 0).toInt ≠ 30 ∧ (fI (F q1) 2).toInt ≠ (fI (F q1) 3).toInt))))) → (F_1 q0 = F q0) → fI (F_1 q1) 2 = x1 → fI (F_1 q1) 3 = x2 → fR (F_1 q1) 1 = x3 → fI (F_1 x3) 0 = x4 → gB x5 0 2 → tr_RBlock_ways2 x1 x2 x4 x5 → x5.toInt ≤ l2_1.toInt → R F_1 l2_1 72 F_1) →
  (∀ (F_1 : Nat → va_E) (l2_1 : Int32) (x1 : Int32) (x2 : Int32) (x3 : Nat) (x4 : Int32) (x5 : Int32) (x6 : Nat → va_E) (x7 : Int32) (k : Nat) (e1 : Nat → va_E), gB l2_1 0 2 → RS D I P F_1 γ el → rStr γ [] F F_1 → ((∀ k : Nat, k < 2048 → rbt (cL (F_1 (γ 9 2))) k = wyV l2_1.toInt (fI (F q1) 2).toInt (fI (F q1) 3).toInt (lvS γ F) k)) → rLv γ F F_1 → ((l2_1.toInt = 0 ∨ ((fI (F (γ 15 q1)) 0).toInt ≠ 32 ∧ (l2_1.toInt = 1 ∨ (l2_1.toInt = 2 ∧ (fI (F (γ 15 q1)) 0).toInt ≠ 30 ∧ (fI (F q1) 2).toInt ≠ (fI (F q1) 3).toInt))))) → (F_1 q0 = F q0) → fI (F_1 q1) 2 = x1 → fI (F_1 q1) 3 = x2 → fR (F_1 q1) 1 = x3 → fI (F_1 x3) 0 = x4 → gB x5 0 2 → tr_RBlock_ways2 x1 x2 x4 x5 → l2_1.toInt < x5.toInt → tl_RModel_behind2_33 D I γ el P F l2_1 q1 q0 F_1 (0 : Int32) 66 x6 → x7.toInt = l2_1.toInt + 1 → R x6 x7 k e1 → R F_1 l2_1 k e1) →
  R s1 s2 k e1
/- tl_RModel_behind2_2: F, l2; out: F -/
def tl_RModel_behind2_2 (D : va_G) (I : FieldType → ClassId) (γ el : Nat → Nat → Nat) (P : List Nat) (F : Nat → va_E) (q0 : Nat) (s1 : Nat → va_E) (s2 : Int32) (k : Nat) (e1 : Nat → va_E) : Prop := ∀ R : (Nat → va_E) → (Int32) → Nat → (Nat → va_E) → Prop,
  (∀ (F_1 : Nat → va_E) (l2_1 : Int32), gB l2_1 0 32 → RS D I P F_1 γ el → rStr γ [] F F_1 → ((∀ j : Nat, (j : Int) < l2_1.toInt → cL (F_1 (γ 9 2)) j = 0)) → rLv γ F F_1 → (F_1 q0 = F q0) → 32 ≤ l2_1.toInt → R F_1 l2_1 21 F_1) →
  (∀ (F_1 : Nat → va_E) (l2_1 : Int32) (x1 : Nat → Int64) (x2 : Nat → Int64) (x3 : Nat → va_E) (x4 : Int32) (k : Nat) (e1 : Nat → va_E), gB l2_1 0 32 → RS D I P F_1 γ el → rStr γ [] F F_1 → ((∀ j : Nat, (j : Int) < l2_1.toInt → cL (F_1 (γ 9 2)) j = 0)) → rLv γ F F_1 → (F_1 q0 = F q0) → l2_1.toInt < 32 → fR (F_1 q0) 2 = (γ 9 2) → F_1 (γ 9 2) = .inl (I .long, 32, .inr (.inl x1)) → x2 = vp_updL x1 l2_1.toNatClampNeg 0 → (∀ b, b ≠ (γ 9 2) → x3 b = F_1 b) → x3 (γ 9 2) = .inl (I .long, 32, .inr (.inl x2)) → x4.toInt = l2_1.toInt + 1 → R x3 x4 k e1 → R F_1 l2_1 k e1) →
  R s1 s2 k e1
/- tr_RModel_behind2: F -/
def tr_RModel_behind2 (D : va_G) (I : FieldType → ClassId) (γ el : Nat → Nat → Nat) (P : List Nat) (F : Nat → va_E) (q0 : Nat) (q1 : Nat) (o1 : Nat → va_E) : Prop := ∀ R : (Nat → va_E) → Prop,
  (∀ (x1 : Nat → va_E) (x2 : Nat → va_E), tl_RModel_behind2_2 D I γ el P F q0 F (0 : Int32) 21 x1 → tl_RModel_behind2_23 D I γ el P F q1 q0 x1 (0 : Int32) 72 x2 → R x2) →
  R o1
abbrev ky_222009_SpillForgeModel_behind : gKey := (cX17_behind, 4, "SpillForgeModel", none, [], "behind", fun _ _ => True)
def pt_222009_SpillForgeModel_behind (D : va_G) (I : FieldType → ClassId) (γ el : Nat → Nat → Nat) (P222005 : List Nat) (F222006 : Nat → va_E) (q222007 : Nat) (q222008 : Nat) : Option Value → va_W → Nat → Nat → Prop := fun r w dc ds => ∃ (F225058 : Nat → va_E), r = none ∧ w = va_pl P222005 F225058 ∧ RS D I P222005 F225058 γ el ∧ rStr γ [] F222006 F225058 ∧ dc ≤ 0 ∧ ds ≤ 0 ∧ (∀ k : Nat, k < 2048 → rbt (cL (F225058 (γ 9 2))) k = bhV (fI (F222006 (γ 15 q222008)) 0).toInt (fI (F222006 q222008) 2).toInt (fI (F222006 q222008) 3).toInt (lvS γ F222006) k) ∧ rLv γ F222006 F225058 ∧ (F225058 q222007 = F222006 q222007) ∧ tr_RModel_behind2 D I γ el P222005 F222006 q222007 q222008 F225058
set_option maxRecDepth 100000 in
set_option maxHeartbeats 4000000 in
theorem ct_222009_SpillForgeModel_behind (l : Launch) (hl0 : l.stackTraces = false) (D : va_G) (I : FieldType → ClassId) (γ el : Nat → Nat → Nat) (P222005 : List Nat) (F222006 : Nat → va_E) (q222007 : Nat) (q222008 : Nat) (hT : RS D I P222005 F222006 γ el) (htq222007 : rKd γ q222007 10) (htq222008 : rKd γ q222008 2) : CtA (gV D I) l yX17_behind cX17_behind 4 none 1 21 0 0 [.ref q222007, .ref q222008] (va_pl P222005 F222006) (pt_222009_SpillForgeModel_behind D I γ el P222005 F222006 q222007 q222008) gNA := by
  refine CtA_of hl0 (by decide) (Nat.le_of_ble_eq_true rfl) ?_
  have hm222010 : q222007 ∈ P222005 := RS_m hT htq222007 (by decide)
  obtain ⟨q222012, q222013, p222014, p222015, p222016, p222017, p222018, p222019, p222020, p222021, p222022, p222023, p222024, p222025, p222026, p222027, p222028, he222011, hB222055, ht222029, ht222030, ht222031, ht222032, ht222033, ht222034, ht222035, ht222036, ht222037, ht222038, ht222039, ht222040, ht222041, ht222042, ht222043, ht222044, ht222045, ht222046, ht222047, ht222048, ht222049, ht222050, ht222051, ht222052, hB222056⟩ := show rk_10 γ (F222006 q222007) from RS_o hT htq222007
  have hm222057 : (γ 9 2) ∈ P222005 := RS_m hT ht222033 (by decide)
  obtain ⟨f222059, he222058, wf222059⟩ := show rk_35 I (F222006 (γ 9 2)) from RS_o hT ht222033
  have hm222060 : q222008 ∈ P222005 := RS_m hT htq222008 (by decide)
  obtain ⟨q222062, q222063, p222064, p222065, he222061, ht222072, ht222066, ht222067, ht222068, ht222069, ht222070, bp222064, bp222065, r222071, r222073, r222074⟩ := show rk_2 γ q222008 (F222006 q222008) from RS_o hT htq222008
  have hm222075 : q222063 ∈ P222005 := RS_m hT ht222068 (by decide)
  obtain ⟨p222077, p222078, p222079, p222080, p222081, p222082, p222083, he222076, bp222077, bp222078, bp222081, bp222082, bp222083, r222084, r222085, r222086, r222087, r222088⟩ := show rk_1 γ q222063 (F222006 q222063) from RS_o hT ht222068
  have bp222079 := gB_any p222079
  have bp222080 := gB_any p222080
  have fe1 : (fI (F222006 q222008) 2).toInt = p222064.toInt := by rw [he222061]; rfl
  have fe2 : (fI (F222006 q222008) 3).toInt = p222065.toInt := by rw [he222061]; rfl
  have fe3 : (fI (F222006 (γ 15 q222008)) 0).toInt = p222077.toInt := by rw [ht222072.2.1, he222076]; rfl
  refine G_iconst 0 dr_cX17_behind_0 (by decide +kernel) ?_
  refine G_istore_n (L' := [(2, .int 0), (0, .ref q222007), (1, .ref q222008)]) dr_cX17_behind_1 (Nat.le_of_ble_eq_true rfl) rfl ?_
  have hlp2_224430 : ∀ (n2_224430 : Nat) (F224425 : Nat → va_E) (g224424 : Int32), gB g224424 0 32 → RS D I P222005 F224425 γ el → rStr γ [] F222006 F224425 → (∀ j : Nat, (j : Int) < g224424.toInt → cL (F224425 (γ 9 2)) j = 0) → rLv γ F222006 F224425 → (F224425 q222007 = F222006 q222007) → (∀ (k : Nat) (e1 : Nat → va_E), tl_RModel_behind2_2 D I γ el P222005 F222006 q222007 F224425 g224424 k e1 → tl_RModel_behind2_2 D I γ el P222005 F222006 q222007 F222006 (0 : Int32) k e1) → ((33 : Int) - g224424.toInt).toNat < n2_224430 → G (gV D I) l (gRm 1 21 0 0) (gMA (gV D I) (pt_222009_SpillForgeModel_behind D I γ el P222005 F222006 q222007 q222008) gNA 0 0) ky_222009_SpillForgeModel_behind 2 [(2, .int g224424), (0, .ref q222007), (1, .ref q222008)] [] (va_pl P222005 F224425) 0 0 := by
    intro n2_224430
    induction n2_224430 with
    | zero => intro F224425 g224424 bg224424 hT224426 hs224427 x224428 x224429 x224430 kt2_224431 hm2_224430; exact absurd hm2_224430 (Nat.not_lt_zero _)
    | succ n2_224430 ih2_224430 =>
      intro F224425 g224424 bg224424 hT224426 hs224427 x224428 x224429 x224430 kt2_224431 hm2_224430
      have hs224432 : rStr γ [] F222006 F224425 := fun b h0 hb hw => (hs224427 b h0 hb hw).trans ((rStr_rf (γ := γ) (W := []) (F := F222006)) b h0 hb hw).symm
      have he224433 : F224425 q222008 = .inr (17, [.ref q222062, .ref q222063, .int p222064, .int p222065]) := (hs224432 q222008 (rT0 htq222008 (by decide)) (rT1 htq222008 (by decide)) (rT2 htq222008 (by decide))).trans he222061
      have he224434 : F224425 q222063 = .inr (20, [.int p222077, .int p222078, .int p222079, .int p222080, .int p222081, .int p222082, .int p222083]) := (hs224432 q222063 (rT0 ht222068 (by decide)) (rT1 ht222068 (by decide)) (rT2 ht222068 (by decide))).trans he222076
      have hs224435 : rStr γ [] F222006 F224425 := rStr_tr (rStr_rf (γ := γ) (W := []) (F := F222006)) hs224432
      refine G_iload_n 0 dr_cX17_behind_2 rfl ?_
      refine G_bipush 32 dr_cX17_behind_3 (by decide +kernel) ?_
      refine G_icmp_ge 21 dr_cX17_behind_5 (by decide +kernel) (fun hc224436 => ?_) (fun hc224436 => ?_)
      · have r224437 : 32 ≤ g224424.toInt := gj_leL hc224436 (show Int32.toInt 32 = 32 by decide)
        have bg224424' : gB g224424 32 32 := ⟨by omega, by omega⟩
        have hx224438 : tl_RModel_behind2_2 D I γ el P222005 F222006 q222007 F222006 (0 : Int32) 21 F224425 := kt2_224431 21 F224425 (fun R c1 c2 => c1 F224425 g224424 bg224424 hT224426 hs224427 x224428 x224429 x224430 r224437)
        refine G_iconst 0 dr_cX17_behind_21 (by decide +kernel) ?_
        refine G_istore_n (L' := [(2, .int 0), (0, .ref q222007), (1, .ref q222008)]) dr_cX17_behind_22 (Nat.le_of_ble_eq_true rfl) rfl ?_
        have hlp23_224715 : ∀ (n23_224715 : Nat) (F224709 : Nat → va_E) (g224708 : Int32), gB g224708 0 2 → RS D I P222005 F224709 γ el → rStr γ [] F222006 F224709 → (∀ k : Nat, k < 2048 → rbt (cL (F224709 (γ 9 2))) k = wyV g224708.toInt (fI (F222006 q222008) 2).toInt (fI (F222006 q222008) 3).toInt (lvS γ F222006) k) → rLv γ F222006 F224709 → (g224708.toInt = 0 ∨ ((fI (F222006 (γ 15 q222008)) 0).toInt ≠ 32 ∧ (g224708.toInt = 1 ∨ (g224708.toInt = 2 ∧ (fI (F222006 (γ 15 q222008)) 0).toInt ≠ 30 ∧ (fI (F222006 q222008) 2).toInt ≠ (fI (F222006 q222008) 3).toInt)))) → (F224709 q222007 = F222006 q222007) → (∀ (k : Nat) (e1 : Nat → va_E), tl_RModel_behind2_23 D I γ el P222005 F222006 q222008 q222007 F224709 g224708 k e1 → tl_RModel_behind2_23 D I γ el P222005 F222006 q222008 q222007 F224425 (0 : Int32) k e1) → ((3 : Int) - g224708.toInt).toNat < n23_224715 → G (gV D I) l (gRm 1 21 0 0) (gMA (gV D I) (pt_222009_SpillForgeModel_behind D I γ el P222005 F222006 q222007 q222008) gNA 0 0) ky_222009_SpillForgeModel_behind 23 [(2, .int g224708), (0, .ref q222007), (1, .ref q222008)] [] (va_pl P222005 F224709) 0 0 := by
          intro n23_224715
          induction n23_224715 with
          | zero => intro F224709 g224708 bg224708 hT224710 hs224711 x224712 x224713 x224714 x224715 kt23_224716 hm23_224715; exact absurd hm23_224715 (Nat.not_lt_zero _)
          | succ n23_224715 ih23_224715 =>
            intro F224709 g224708 bg224708 hT224710 hs224711 x224712 x224713 x224714 x224715 kt23_224716 hm23_224715
            have hs224717 : rStr γ [] F224425 F224709 := fun b h0 hb hw => (hs224711 b h0 hb hw).trans (hs224427 b h0 hb hw).symm
            have he224718 : F224709 q222008 = .inr (17, [.ref q222062, .ref q222063, .int p222064, .int p222065]) := (hs224717 q222008 (rT0 htq222008 (by decide)) (rT1 htq222008 (by decide)) (rT2 htq222008 (by decide))).trans he224433
            have he224719 : F224709 q222063 = .inr (20, [.int p222077, .int p222078, .int p222079, .int p222080, .int p222081, .int p222082, .int p222083]) := (hs224717 q222063 (rT0 ht222068 (by decide)) (rT1 ht222068 (by decide)) (rT2 ht222068 (by decide))).trans he224434
            have hs224720 : rStr γ [] F222006 F224709 := rStr_tr hs224427 hs224717
            refine G_iload_n 0 dr_cX17_behind_23 rfl ?_
            refine G_aload_n 2 dr_cX17_behind_24 rfl ?_
            have fq224721 : fI (F224709 q222008) 2 = p222064 := by rw [he224718]; rfl
            have fq224722 : fI (F224709 q222008) 3 = p222065 := by rw [he224718]; rfl
            have fq224723 : fR (F224709 q222008) 1 = q222063 := by rw [he224718]; rfl
            have fq224724 : fI (F224709 q222063) 0 = p222077 := by rw [he224719]; rfl
            refine Gw_callV (As := []) (gV_ok D I) (cp_222267_Block_ways l hl0 D I P222005 F224709 q222008 q222063 q222062 p222064 p222065 p222077 p222078 p222079 p222080 p222081 p222082 p222083 hm222060 hm222075 he224718 he224719 bp222064 bp222065 bp222077 bp222078 bp222081 bp222082 bp222083) dr_cX17_behind_25 ⟨wr_10_166, wr_1_38, wr_10_169, by decide, rfl, (Nat.le_of_ble_eq_true rfl), (Nat.le_of_ble_eq_true rfl)⟩ wr_10_167 wr_10_168 hm222060 he224718 rfl (show 0 + 0 ≤ 0 by first | omega | decide) (show 0 + 0 ≤ 0 by first | omega | decide) (Nat.le_of_ble_eq_true rfl) (fun r224728 w224729 dc224725 ds224726 hp224727 => ?_) (fun _ _ _ _ _ z => z.elim)
            obtain ⟨o224730, rfl, rfl, hdc, hds, bo224730, x224731, ht224732⟩ := hp224727
            change G _ _ _ _ _ _ _ (.int o224730 :: _) _ _ _
            refine G_widen (cs' := 0) (sl' := 0) (by omega) (by omega) ?_
            refine G_icmp_ge 72 dr_cX17_behind_28 (by decide +kernel) (fun hc224733 => ?_) (fun hc224733 => ?_)
            · have r224734 : o224730.toInt ≤ g224708.toInt := gC_le hc224733
              have hx224735 : tl_RModel_behind2_23 D I γ el P222005 F222006 q222008 q222007 F224425 (0 : Int32) 72 F224709 := kt23_224716 72 F224709 (fun R c1 c2 => c1 F224709 g224708 p222064 p222065 q222063 p222077 o224730 bg224708 hT224710 hs224711 x224712 x224713 x224714 x224715 fq224721 fq224722 fq224723 fq224724 bo224730 ht224732 r224734)
              have hm224736 : q222007 ∈ P222005 := RS_m hT224710 htq222007 (by decide)
              obtain ⟨q224738, q224739, p224740, p224741, p224742, p224743, p224744, p224745, p224746, p224747, p224748, p224749, p224750, p224751, p224752, p224753, p224754, he224737, hB224781, ht224755, ht224756, ht224757, ht224758, ht224759, ht224760, ht224761, ht224762, ht224763, ht224764, ht224765, ht224766, ht224767, ht224768, ht224769, ht224770, ht224771, ht224772, ht224773, ht224774, ht224775, ht224776, ht224777, ht224778, hB224782⟩ := show rk_10 γ (F224709 q222007) from RS_o hT224710 htq222007
              exact G_vretA dr_cX17_behind_72 rfl (Nat.le_of_ble_eq_true rfl) (Nat.le_of_ble_eq_true rfl) ⟨F224709, rfl, rfl, hT224710, hs224711, (Nat.le_of_ble_eq_true rfl), (Nat.le_of_ble_eq_true rfl), (fun k hk => (x224712 k hk).trans (bh_of (by omega))), x224713, x224715, (fun R c1 => c1 F224425 F224709 hx224438 hx224735)⟩
            · have r224783 : g224708.toInt < o224730.toInt := gC_nle hc224733
              have bg224708' : gB g224708 0 1 := ⟨by omega, by omega⟩
              have bo224730' : gB o224730 1 2 := ⟨by omega, by omega⟩
              refine G_iconst 0 dr_cX17_behind_31 (by decide +kernel) ?_
              refine G_istore_n (L' := [(3, .int 0), (2, .int g224708), (0, .ref q222007), (1, .ref q222008)]) dr_cX17_behind_32 (Nat.le_of_ble_eq_true rfl) rfl ?_
              have hlp33_224890 : ∀ (n33_224890 : Nat) (F224884 : Nat → va_E) (g224883 : Int32), gB g224883 0 32 → RS D I P222005 F224884 γ el → rStr γ [] F222006 F224884 → (∀ k : Nat, k < 2048 → rbt (cL (F224884 (γ 9 2))) k = if (k : Int) < 64 * g224883.toInt then wyV (g224708.toInt + 1) (fI (F222006 q222008) 2).toInt (fI (F222006 q222008) 3).toInt (lvS γ F222006) k else wyV g224708.toInt (fI (F222006 q222008) 2).toInt (fI (F222006 q222008) 3).toInt (lvS γ F222006) k) → rLv γ F222006 F224884 → ((g224708.toInt = 0 ∧ (fI (F222006 (γ 15 q222008)) 0).toInt ≠ 32) ∨ (g224708.toInt = 1 ∧ (fI (F222006 (γ 15 q222008)) 0).toInt ≠ 32 ∧ (fI (F222006 (γ 15 q222008)) 0).toInt ≠ 30 ∧ (fI (F222006 q222008) 2).toInt ≠ (fI (F222006 q222008) 3).toInt)) → (F224884 q222007 = F222006 q222007) → (∀ (k : Nat) (e1 : Nat → va_E), tl_RModel_behind2_33 D I γ el P222005 F222006 g224708 q222008 q222007 F224884 g224883 k e1 → tl_RModel_behind2_33 D I γ el P222005 F222006 g224708 q222008 q222007 F224709 (0 : Int32) k e1) → ((33 : Int) - g224883.toInt).toNat < n33_224890 → G (gV D I) l (gRm 1 21 0 0) (gMA (gV D I) (pt_222009_SpillForgeModel_behind D I γ el P222005 F222006 q222007 q222008) gNA 0 0) ky_222009_SpillForgeModel_behind 33 [(3, .int g224883), (2, .int g224708), (0, .ref q222007), (1, .ref q222008)] [] (va_pl P222005 F224884) 0 0 := by
                intro n33_224890
                induction n33_224890 with
                | zero => intro F224884 g224883 bg224883 hT224885 hs224886 x224887 x224888 x224889 x224890 kt33_224891 hm33_224890; exact absurd hm33_224890 (Nat.not_lt_zero _)
                | succ n33_224890 ih33_224890 =>
                  intro F224884 g224883 bg224883 hT224885 hs224886 x224887 x224888 x224889 x224890 kt33_224891 hm33_224890
                  have hs224892 : rStr γ [] F224709 F224884 := fun b h0 hb hw => (hs224886 b h0 hb hw).trans (hs224711 b h0 hb hw).symm
                  have he224893 : F224884 q222008 = .inr (17, [.ref q222062, .ref q222063, .int p222064, .int p222065]) := (hs224892 q222008 (rT0 htq222008 (by decide)) (rT1 htq222008 (by decide)) (rT2 htq222008 (by decide))).trans he224718
                  have he224894 : F224884 q222063 = .inr (20, [.int p222077, .int p222078, .int p222079, .int p222080, .int p222081, .int p222082, .int p222083]) := (hs224892 q222063 (rT0 ht222068 (by decide)) (rT1 ht222068 (by decide)) (rT2 ht222068 (by decide))).trans he224719
                  have hs224895 : rStr γ [] F222006 F224884 := rStr_tr hs224711 hs224892
                  refine G_iload_n 0 dr_cX17_behind_33 rfl ?_
                  refine G_bipush 32 dr_cX17_behind_34 (by decide +kernel) ?_
                  refine G_icmp_ge 66 dr_cX17_behind_36 (by decide +kernel) (fun hc224896 => ?_) (fun hc224896 => ?_)
                  · have r224897 : 32 ≤ g224883.toInt := gj_leL hc224896 (show Int32.toInt 32 = 32 by decide)
                    have bg224883' : gB g224883 32 32 := ⟨by omega, by omega⟩
                    have hx224898 : tl_RModel_behind2_33 D I γ el P222005 F222006 g224708 q222008 q222007 F224709 (0 : Int32) 66 F224884 := kt33_224891 66 F224884 (fun R c1 c2 => c1 F224884 g224883 bg224883 hT224885 hs224886 x224887 x224888 x224889 x224890 r224897)
                    obtain ⟨z224899, hz224899⟩ : ∃ z : Int32, z = g224708 + Int32.ofInt 1 := ⟨_, rfl⟩
                    have ez224899 : z224899.toInt = g224708.toInt + 1 := gI_inc hz224899 (by decide) bg224708' (by decide) (by decide)
                    have bz224899 : gB z224899 1 2 := ⟨by omega, by omega⟩
                    refine G_iinc (L' := [(2, .int z224899), (3, .int g224883), (0, .ref q222007), (1, .ref q222008)]) z224899 1 dr_cX17_behind_66 rfl hz224899.symm (Nat.le_of_ble_eq_true rfl) rfl ?_
                    refine G_goto 23 dr_cX17_behind_69 (by decide +kernel) ?_
                    refine G_lv (L' := [(2, .int z224899), (0, .ref q222007), (1, .ref q222008)]) [0, 2, 3] rfl ?_
                    exact ih23_224715 F224884 z224899 (gB_w bz224899 (by decide) (by decide)) hT224885 hs224886 (fun k hk => by have q := x224887 k hk; rw [if_pos (by omega)] at q; rw [ez224899]; exact q) x224888 (by rw [show fI (F222006 q222008) 2 = p222064 from by rw [he222061]; rfl, show fI (F222006 q222008) 3 = p222065 from by rw [he222061]; rfl] <;> (omega)) x224890 (fun k e1 ht => kt23_224716 k e1 (fun R c1 c2 => c2 F224709 g224708 p222064 p222065 q222063 p222077 o224730 F224884 z224899 k e1 bg224708 hT224710 hs224711 x224712 x224713 x224714 x224715 fq224721 fq224722 fq224723 fq224724 bo224730 ht224732 r224783 hx224898 ez224899 (ht R c1 c2))) (by omega)
                  · have r224900 : g224883.toInt < 32 := gj_nleL hc224896 (show Int32.toInt 32 = 32 by decide)
                    have bg224883' : gB g224883 0 31 := ⟨by omega, by omega⟩
                    refine G_aload_n 2 dr_cX17_behind_39 rfl ?_
                    have hm224901 : q222007 ∈ P222005 := RS_m hT224885 htq222007 (by decide)
                    obtain ⟨q224903, q224904, p224905, p224906, p224907, p224908, p224909, p224910, p224911, p224912, p224913, p224914, p224915, p224916, p224917, p224918, p224919, he224902, hB224946, ht224920, ht224921, ht224922, ht224923, ht224924, ht224925, ht224926, ht224927, ht224928, ht224929, ht224930, ht224931, ht224932, ht224933, ht224934, ht224935, ht224936, ht224937, ht224938, ht224939, ht224940, ht224941, ht224942, ht224943, hB224947⟩ := show rk_10 γ (F224884 q222007) from RS_o hT224885 htq222007
                    have fq224948 : fR (F224884 q222007) 2 = (γ 9 2) := by rw [he224902]; rfl
                    refine Gp_get 2 hm224901 he224902 dr_cX17_behind_40 (gk_X17 D I) (Nat.le_of_ble_eq_true rfl) wr_7_76 rfl ?_
                    refine G_iload_n 0 dr_cX17_behind_43 rfl ?_
                    refine G_dup2_11 dr_cX17_behind_44 rfl rfl ?_
                    have hm224949 : (γ 9 2) ∈ P222005 := RS_m hT224885 ht224924 (by decide)
                    obtain ⟨f224951, he224950, wf224951⟩ := show rk_35 I (F224884 (γ 9 2)) from RS_o hT224885 ht224924
                    refine Gp_lald 2 hm224949 he224950 dr_cX17_behind_45 rfl (gB_in bg224883' (by decide) (by decide)) (G_namL fun u224952 hu224952 => ?_)
                    have qu224952 : lb_Q u224952 (2000 - 64 * g224883.toInt) := lb_Wld hu224952 wf224951 (by omega) (by omega) (lb_Mod0 (by omega) (by omega))
                    refine G_aload_n 2 dr_cX17_behind_46 rfl ?_
                    have fq224953 : fR (F224884 q222007) 0 = (γ 9 0) := by rw [he224902]; rfl
                    refine Gp_get 0 hm224901 he224902 dr_cX17_behind_47 (gk_X17 D I) (Nat.le_of_ble_eq_true rfl) wr_7_74 rfl ?_
                    refine G_aload_n 3 dr_cX17_behind_50 rfl ?_
                    refine G_iload_n 1 dr_cX17_behind_51 rfl ?_
                    have fq224954 : fI (F224884 q222008) 2 = p222064 := by rw [he224893]; rfl
                    have fq224955 : fI (F224884 q222008) 3 = p222065 := by rw [he224893]; rfl
                    have fq224956 : fR (F224884 q222008) 1 = q222063 := by rw [he224893]; rfl
                    refine Gw_callV (As := [.int g224708]) (gV_ok D I) (cp_222402_Block_way l hl0 D I P222005 F224884 q222008 q222063 g224708 q222062 p222064 p222065 p222077 p222078 p222079 p222080 p222081 p222082 p222083 hm222060 hm222075 he224893 he224894 bp222064 bp222065 bp222077 bp222078 bp222081 bp222082 bp222083) dr_cX17_behind_52 ⟨wr_10_170, wr_1_38, wr_10_173, by decide, rfl, (Nat.le_of_ble_eq_true rfl), (Nat.le_of_ble_eq_true rfl)⟩ wr_10_171 wr_10_172 hm222060 he224893 rfl (show 0 + 0 ≤ 0 by first | omega | decide) (show 0 + 0 ≤ 0 by first | omega | decide) (Nat.le_of_ble_eq_true rfl) (fun r224960 w224961 dc224957 ds224958 hp224959 => ?_) (fun _ _ _ _ _ z => z.elim)
                    obtain ⟨o224962, rfl, rfl, hdc, hds, bo224962, x224963, ht224964⟩ := hp224959
                    change G _ _ _ _ _ _ _ (.int o224962 :: _) _ _ _
                    refine G_widen (cs' := 0) (sl' := 0) (by omega) (by omega) ?_
                    have hm224965 : (γ 9 0) ∈ P222005 := RS_m hT224885 ht224922 (by decide)
                    obtain ⟨f224967, he224966, hg224968⟩ := show rk_12 I γ (F224884 (γ 9 0)) from RS_o hT224885 ht224922
                    obtain ⟨q224969, hx224971⟩ : ∃ x, x = γ 10 o224962.toInt.toNat := ⟨_, rfl⟩
                    have ht224970 : rKd γ q224969 11 := by rw [hx224971]; exact (hg224968 _ (show o224962.toInt.toNat < 40 by omega)).2.1
                    refine Gp_aald 5 hm224965 he224966 dr_cX17_behind_55 rfl rfl (gB_in bo224962 (by decide) (by decide)) ?_
                    rw [show f224967 o224962.toNatClampNeg = some q224969 from (hg224968 _ (show o224962.toInt.toNat < 40 by omega)).1.trans (by rw [hx224971])]
                    change G _ _ _ _ _ _ _ (.ref q224969 :: _) _ _ _
                    refine G_iload_n 0 dr_cX17_behind_56 rfl ?_
                    have hm224972 : q224969 ∈ P222005 := RS_m hT224885 ht224970 (by decide)
                    obtain ⟨f224974, he224973, wf224974⟩ := show rk_11 I (F224884 q224969) from RS_o hT224885 ht224970
                    refine Gp_lald 2 hm224972 he224973 dr_cX17_behind_57 rfl (gB_in bg224883' (by decide) (by decide)) (G_namL fun u224975 hu224975 => ?_)
                    have qu224975 : lb_Q u224975 (2000 - 64 * g224883.toInt) := lb_Wld hu224975 wf224974 (by omega) (by omega) (lb_Mod0 (by omega) (by omega))
                    have hg224976 : ∀ k : Nat, lvS γ F222006 o224962.toInt.toNat k = rbt f224974 k := fun k => by unfold lvS; rw [← x224888 _ (show o224962.toInt.toNat < 40 by omega), ← hx224971, cL_of he224973]
                    refine G_lor dr_cX17_behind_58 (G_namL fun u224977 hu224977 => ?_)
                    have qu224977 : lb_Q u224977 (2000 - 64 * g224883.toInt) := lb_Qor hu224977 qu224952 qu224975
                    refine Gp_last 2 hm224949 he224950 dr_cX17_behind_59 rfl (gB_in bg224883' (by decide) (by decide)) (fun F224978 e224979 n224980 => ?_)
                    obtain ⟨f224981, hf224981⟩ : ∃ z, z = vp_updL f224951 g224883.toNatClampNeg u224977 := ⟨_, rfl⟩
                    rw [← hf224981] at e224979
                    have he224982 : F224978 q222008 = .inr (17, [.ref q222062, .ref q222063, .int p222064, .int p222065]) := (n224980 q222008 (rn_oa he224893 he224950)).trans he224893
                    have he224983 : F224978 q222063 = .inr (20, [.int p222077, .int p222078, .int p222079, .int p222080, .int p222081, .int p222082, .int p222083]) := (n224980 q222063 (rn_oa he224894 he224950)).trans he224894
                    have he224984 : F224978 q222007 = .inr (22, [.ref (γ 9 0), .ref (γ 9 1), .ref (γ 9 2), .ref (γ 9 3), .ref (γ 9 4), .ref (γ 9 5), .ref (γ 9 6), .ref (γ 9 7), .ref (γ 9 8), .int p224905, .int p224906, .int p224907, .int p224908, .int p224909, .int p224910, .ref (γ 9 15), .ref (γ 9 16), .ref (γ 9 17), .ref (γ 9 18), .ref (γ 9 19), .ref (γ 9 20), .ref (γ 9 21), .ref (γ 9 22), .int p224911, .int p224912, .int p224913, .int p224914, .int p224915, .ref q224903, .ref (γ 9 29), .int p224916, .ref (γ 9 31), .int p224917, .int p224918, .int p224919, .ref q224904]) := (n224980 q222007 (rn_oa he224902 he224950)).trans he224902
                    have he224985 : F224978 (γ 9 0) = .inl (I (.array .long), 40, .inr (.inr (.inr (.inr f224967)))) := (n224980 (γ 9 0) (rn_ref_long he224966 he224950)).trans he224966
                    have he224986 : F224978 q224969 = .inl (I .long, 32, .inr (.inl f224974)) := (n224980 q224969 (rn_ty ht224970 ht224924 (by decide))).trans he224973
                    have he224987 : F224978 (γ 9 2) = .inl (I .long, 32, .inr (.inl f224981)) := e224979
                    have hs224988 : rStr γ [] F222006 F224978 := rStr_put hs224886 n224980 ht224924 (by decide)
                    have kp224989 : F224978 q222007 = F222006 q222007 := (n224980 q222007 (rn_ty htq222007 ht224924 (by decide))).trans x224890
                    have wf224981 : lb_W f224981 (32) (32) (2000) := lb_Wst hf224981 wf224951 (by omega) (lb_Mod0 (by omega) (by omega)) qu224977
                    obtain ⟨z224990, hz224990⟩ : ∃ z : Int32, z = g224883 + Int32.ofInt 1 := ⟨_, rfl⟩
                    have ez224990 : z224990.toInt = g224883.toInt + 1 := gI_inc hz224990 (by decide) bg224883' (by decide) (by decide)
                    have bz224990 : gB z224990 1 32 := ⟨by omega, by omega⟩
                    refine G_iinc (L' := [(3, .int z224990), (2, .int g224708), (0, .ref q222007), (1, .ref q222008)]) z224990 0 dr_cX17_behind_60 rfl hz224990.symm (Nat.le_of_ble_eq_true rfl) rfl ?_
                    refine G_goto 33 dr_cX17_behind_63 (by decide +kernel) ?_
                    have hT224991 : RS D I P222005 F224978 γ el := RS_set hT224885 n224980 ht224924 (by decide) ⟨f224981, he224987, wf224981⟩
                    have lv224992 : rLv γ F222006 F224978 := rLv_put hT224885 ht224922 x224888 n224980 ht224924 (by decide)
                    exact ih33_224890 F224978 z224990 (gB_w bz224990 (by decide) (by decide)) hT224991 hs224988 (by rw [cL_of he224987]; exact or_st hu224952 hu224975 (by assumption) hf224981 bg224883'.1 ez224990 (by have q := x224887; rw [cL_of he224950] at q; exact q) (fun k => (wy_s (y := o224962.toInt) (by omega)).trans (by rw [hg224976 k]))) lv224992 (by rw [show fI (F222006 q222008) 2 = p222064 from by rw [he222061]; rfl, show fI (F222006 q222008) 3 = p222065 from by rw [he222061]; rfl] <;> (omega)) kp224989 (fun k e1 ht => kt33_224891 k e1 (fun R c1 c2 => c2 F224884 g224883 f224951 u224952 p222064 p222065 o224962 q224969 f224974 u224975 u224977 f224981 F224978 z224990 k e1 bg224883 hT224885 hs224886 x224887 x224888 x224889 x224890 r224900 fq224948 he224950 hu224952 fq224953 fq224954 fq224955 bo224962 ht224964 hx224971 he224973 hu224975 hu224977 hf224981 n224980 he224987 ez224990 (ht R c1 c2))) (by omega)
              exact hlp33_224890 (((33 : Int) - 0).toNat + 1) F224709 0 (gB_w (gBl (show Int32.toInt 0 = 0 by decide)) (by decide) (by decide)) hT224710 hs224711 (fun k hk => by rw [if_neg (by have qa : Int32.toInt 0 = 0 := (by decide); omega)]; exact x224712 k hk) x224713 (by rw [show fI (F222006 q222008) 2 = p222064 from by rw [he222061]; rfl, show fI (F222006 q222008) 3 = p222065 from by rw [he222061]; rfl] <;> (omega)) x224715 (fun k e1 ht => ht) (Nat.lt_succ_self _)
        exact hlp23_224715 (((3 : Int) - 0).toNat + 1) F224425 0 (gB_w (gBl (show Int32.toInt 0 = 0 by decide)) (by decide) (by decide)) hT224426 hs224427 (fun k hk => (rbt_z (x224428 _ (by omega))).trans wy_0.symm) x224429 (Or.inl (by decide)) x224430 (fun k e1 ht => ht) (Nat.lt_succ_self _)
      · have r224993 : g224424.toInt < 32 := gj_nleL hc224436 (show Int32.toInt 32 = 32 by decide)
        have bg224424' : gB g224424 0 31 := ⟨by omega, by omega⟩
        refine G_aload_n 1 dr_cX17_behind_8 rfl ?_
        have hm224994 : q222007 ∈ P222005 := RS_m hT224426 htq222007 (by decide)
        obtain ⟨q224996, q224997, p224998, p224999, p225000, p225001, p225002, p225003, p225004, p225005, p225006, p225007, p225008, p225009, p225010, p225011, p225012, he224995, hB225039, ht225013, ht225014, ht225015, ht225016, ht225017, ht225018, ht225019, ht225020, ht225021, ht225022, ht225023, ht225024, ht225025, ht225026, ht225027, ht225028, ht225029, ht225030, ht225031, ht225032, ht225033, ht225034, ht225035, ht225036, hB225040⟩ := show rk_10 γ (F224425 q222007) from RS_o hT224426 htq222007
        have fq225041 : fR (F224425 q222007) 2 = (γ 9 2) := by rw [he224995]; rfl
        refine Gp_get 2 hm224994 he224995 dr_cX17_behind_9 (gk_X17 D I) (Nat.le_of_ble_eq_true rfl) wr_7_76 rfl ?_
        refine G_iload_n 0 dr_cX17_behind_12 rfl ?_
        refine G_lconst 0 dr_cX17_behind_13 rfl ?_
        have hm225042 : (γ 9 2) ∈ P222005 := RS_m hT224426 ht225017 (by decide)
        obtain ⟨f225044, he225043, wf225044⟩ := show rk_35 I (F224425 (γ 9 2)) from RS_o hT224426 ht225017
        refine Gp_last 2 hm225042 he225043 dr_cX17_behind_14 rfl (gB_in bg224424' (by decide) (by decide)) (fun F225045 e225046 n225047 => ?_)
        obtain ⟨f225048, hf225048⟩ : ∃ z, z = vp_updL f225044 g224424.toNatClampNeg 0 := ⟨_, rfl⟩
        rw [← hf225048] at e225046
        have he225049 : F225045 q222008 = .inr (17, [.ref q222062, .ref q222063, .int p222064, .int p222065]) := (n225047 q222008 (rn_oa he224433 he225043)).trans he224433
        have he225050 : F225045 q222063 = .inr (20, [.int p222077, .int p222078, .int p222079, .int p222080, .int p222081, .int p222082, .int p222083]) := (n225047 q222063 (rn_oa he224434 he225043)).trans he224434
        have he225051 : F225045 q222007 = .inr (22, [.ref (γ 9 0), .ref (γ 9 1), .ref (γ 9 2), .ref (γ 9 3), .ref (γ 9 4), .ref (γ 9 5), .ref (γ 9 6), .ref (γ 9 7), .ref (γ 9 8), .int p224998, .int p224999, .int p225000, .int p225001, .int p225002, .int p225003, .ref (γ 9 15), .ref (γ 9 16), .ref (γ 9 17), .ref (γ 9 18), .ref (γ 9 19), .ref (γ 9 20), .ref (γ 9 21), .ref (γ 9 22), .int p225004, .int p225005, .int p225006, .int p225007, .int p225008, .ref q224996, .ref (γ 9 29), .int p225009, .ref (γ 9 31), .int p225010, .int p225011, .int p225012, .ref q224997]) := (n225047 q222007 (rn_oa he224995 he225043)).trans he224995
        have he225052 : F225045 (γ 9 2) = .inl (I .long, 32, .inr (.inl f225048)) := e225046
        have hs225053 : rStr γ [] F222006 F225045 := rStr_put hs224427 n225047 ht225017 (by decide)
        have kp225054 : F225045 q222007 = F222006 q222007 := (n225047 q222007 (rn_ty htq222007 ht225017 (by decide))).trans x224430
        have wf225048 : lb_W f225048 (32) (32) (2000) := lb_Wst hf225048 wf225044 (by omega) (lb_Mod0 (by omega) (by omega)) lb_Q0
        obtain ⟨z225055, hz225055⟩ : ∃ z : Int32, z = g224424 + Int32.ofInt 1 := ⟨_, rfl⟩
        have ez225055 : z225055.toInt = g224424.toInt + 1 := gI_inc hz225055 (by decide) bg224424' (by decide) (by decide)
        have bz225055 : gB z225055 1 32 := ⟨by omega, by omega⟩
        refine G_iinc (L' := [(2, .int z225055), (0, .ref q222007), (1, .ref q222008)]) z225055 0 dr_cX17_behind_15 rfl hz225055.symm (Nat.le_of_ble_eq_true rfl) rfl ?_
        refine G_goto 2 dr_cX17_behind_18 (by decide +kernel) ?_
        have hT225056 : RS D I P222005 F225045 γ el := RS_set hT224426 n225047 ht225017 (by decide) ⟨f225048, he225052, wf225048⟩
        have lv225057 : rLv γ F222006 F225045 := rLv_put hT224426 ht225015 x224429 n225047 ht225017 (by decide)
        exact ih2_224430 F225045 z225055 (gB_w bz225055 (by decide) (by decide)) hT225056 hs225053 (by rw [cL_of he225052]; exact zr_st hf225048 (by have q := x224428; rw [cL_of he225043] at q; exact q) ez225055 bg224424'.1) lv225057 kp225054 (fun k e1 ht => kt2_224431 k e1 (fun R c1 c2 => c2 F224425 g224424 f225044 f225048 F225045 z225055 k e1 bg224424 hT224426 hs224427 x224428 x224429 x224430 r224993 fq225041 he225043 hf225048 n225047 he225052 ez225055 (ht R c1 c2))) (by omega)
  exact hlp2_224430 (((33 : Int) - 0).toNat + 1) F222006 0 (gB_w (gBl (show Int32.toInt 0 = 0 by decide)) (by decide) (by decide)) hT (rStr_rf (γ := γ) (W := []) (F := F222006)) (fun j hj => absurd hj (by have qa : Int32.toInt 0 = 0 := (by decide); omega)) (rLv_rf (γ := γ) (F := F222006)) rfl (fun k e1 ht => ht) (Nat.lt_succ_self _)
/- tl_RModel_findLive_131: F, l6, l3; out: l3, F -/
def tl_RModel_findLive_131 (D : va_G) (I : FieldType → ClassId) (γ el : Nat → Nat → Nat) (P : List Nat) (F : Nat → va_E) (l4_2 : Int32) (F_2 : Nat → va_E) (a2 : Int32) (c1 : Nat) (F_1 : Nat → va_E) (q1 : Nat) (q0 : Nat) (s1 : Nat → va_E) (s2 : Int32) (s3 : Int32) (k : Nat) (e1 : Int32) (e2 : Nat → va_E) : Prop := ∀ R : (Nat → va_E) → (Int32) → (Int32) → Nat → (Int32) → (Nat → va_E) → Prop,
  (∀ (F_3 : Nat → va_E) (l6_3 : Int32) (l3_3 : Int32), gB l6_3 0 32 → gB l3_3 0 1 → RS D I P F_3 γ el → rStr γ [] F F_3 → ((∀ i : Nat, i < 40 → (i : Int) ≠ l4_2.toInt → F_3 (γ 10 i) = F_2 (γ 10 i))) → ((∀ k : Nat, k < 2048 → rbt (cL (F_3 (γ 9 2))) k = trS γ el F (decide (a2.toInt = 1)) c1 (lvM γ F_2) (γ 2 (γ 14 c1)) k)) → ((∀ k : Nat, k < 2048 → lvS γ F_3 (l4_2.toInt : Int).toNat k = if (k : Int) < 64 * l6_3.toInt then trS γ el F (decide (a2.toInt = 1)) c1 (lvM γ F_2) (γ 2 (γ 14 c1)) k else lvS γ F_2 (l4_2.toInt : Int).toNat k)) → (lvT γ F_1 + (l3_3.toInt : Int).toNat ≤ lvT γ F_3) → (c1 = el (γ 14 q1) (l4_2.toInt : Int).toNat) → (F_3 q0 = F q0) → 32 ≤ l6_3.toInt → R F_3 l6_3 l3_3 192 l3_3 F_3) →
  (∀ (F_3 : Nat → va_E) (l6_3 : Int32) (l3_3 : Int32) (x1 : Nat) (x2 : Nat → Int64) (x3 : Int64) (x4 : Nat → Int64) (x5 : Nat → Int64) (x6 : Nat → va_E) (x7 : Int32) (k : Nat) (e1 : Int32) (e2 : Nat → va_E), gB l6_3 0 32 → gB l3_3 0 1 → RS D I P F_3 γ el → rStr γ [] F F_3 → ((∀ i : Nat, i < 40 → (i : Int) ≠ l4_2.toInt → F_3 (γ 10 i) = F_2 (γ 10 i))) → ((∀ k : Nat, k < 2048 → rbt (cL (F_3 (γ 9 2))) k = trS γ el F (decide (a2.toInt = 1)) c1 (lvM γ F_2) (γ 2 (γ 14 c1)) k)) → ((∀ k : Nat, k < 2048 → lvS γ F_3 (l4_2.toInt : Int).toNat k = if (k : Int) < 64 * l6_3.toInt then trS γ el F (decide (a2.toInt = 1)) c1 (lvM γ F_2) (γ 2 (γ 14 c1)) k else lvS γ F_2 (l4_2.toInt : Int).toNat k)) → (lvT γ F_1 + (l3_3.toInt : Int).toNat ≤ lvT γ F_3) → (c1 = el (γ 14 q1) (l4_2.toInt : Int).toNat) → (F_3 q0 = F q0) → l6_3.toInt < 32 → l3_3.toInt ≠ 0 → fR (F_3 q0) 0 = (γ 9 0) → x1 = γ 10 l4_2.toInt.toNat → fR (F_3 q0) 2 = (γ 9 2) → F_3 (γ 9 2) = .inl (I .long, 32, .inr (.inl x2)) → x3 = x2 l6_3.toNatClampNeg → F_3 x1 = .inl (I .long, 32, .inr (.inl x4)) → x5 = vp_updL x4 l6_3.toNatClampNeg x3 → (∀ b, b ≠ x1 → x6 b = F_3 b) → x6 x1 = .inl (I .long, 32, .inr (.inl x5)) → x7.toInt = l6_3.toInt + 1 → R x6 x7 (1 : Int32) k e1 e2 → R F_3 l6_3 l3_3 k e1 e2) →
  (∀ (F_3 : Nat → va_E) (l6_3 : Int32) (l3_3 : Int32) (x1 : Nat) (x2 : Nat → Int64) (x3 : Int64) (x4 : Nat → Int64) (x5 : Int64) (x6 : Nat → Int64) (x7 : Nat → va_E) (x8 : Int32) (k : Nat) (e1 : Int32) (e2 : Nat → va_E), gB l6_3 0 32 → gB l3_3 0 1 → RS D I P F_3 γ el → rStr γ [] F F_3 → ((∀ i : Nat, i < 40 → (i : Int) ≠ l4_2.toInt → F_3 (γ 10 i) = F_2 (γ 10 i))) → ((∀ k : Nat, k < 2048 → rbt (cL (F_3 (γ 9 2))) k = trS γ el F (decide (a2.toInt = 1)) c1 (lvM γ F_2) (γ 2 (γ 14 c1)) k)) → ((∀ k : Nat, k < 2048 → lvS γ F_3 (l4_2.toInt : Int).toNat k = if (k : Int) < 64 * l6_3.toInt then trS γ el F (decide (a2.toInt = 1)) c1 (lvM γ F_2) (γ 2 (γ 14 c1)) k else lvS γ F_2 (l4_2.toInt : Int).toNat k)) → (lvT γ F_1 + (l3_3.toInt : Int).toNat ≤ lvT γ F_3) → (c1 = el (γ 14 q1) (l4_2.toInt : Int).toNat) → (F_3 q0 = F q0) → l6_3.toInt < 32 → l3_3.toInt = 0 → fR (F_3 q0) 0 = (γ 9 0) → x1 = γ 10 l4_2.toInt.toNat → F_3 x1 = .inl (I .long, 32, .inr (.inl x2)) → x3 = x2 l6_3.toNatClampNeg → fR (F_3 q0) 2 = (γ 9 2) → F_3 (γ 9 2) = .inl (I .long, 32, .inr (.inl x4)) → x5 = x4 l6_3.toNatClampNeg → x3 = x5 → x6 = vp_updL x2 l6_3.toNatClampNeg x5 → (∀ b, b ≠ x1 → x7 b = F_3 b) → x7 x1 = .inl (I .long, 32, .inr (.inl x6)) → x8.toInt = l6_3.toInt + 1 → R x7 x8 (0 : Int32) k e1 e2 → R F_3 l6_3 l3_3 k e1 e2) →
  (∀ (F_3 : Nat → va_E) (l6_3 : Int32) (l3_3 : Int32) (x1 : Nat) (x2 : Nat → Int64) (x3 : Int64) (x4 : Nat → Int64) (x5 : Int64) (x6 : Nat → Int64) (x7 : Nat → va_E) (x8 : Int32) (k : Nat) (e1 : Int32) (e2 : Nat → va_E), gB l6_3 0 32 → gB l3_3 0 1 → RS D I P F_3 γ el → rStr γ [] F F_3 → ((∀ i : Nat, i < 40 → (i : Int) ≠ l4_2.toInt → F_3 (γ 10 i) = F_2 (γ 10 i))) → ((∀ k : Nat, k < 2048 → rbt (cL (F_3 (γ 9 2))) k = trS γ el F (decide (a2.toInt = 1)) c1 (lvM γ F_2) (γ 2 (γ 14 c1)) k)) → ((∀ k : Nat, k < 2048 → lvS γ F_3 (l4_2.toInt : Int).toNat k = if (k : Int) < 64 * l6_3.toInt then trS γ el F (decide (a2.toInt = 1)) c1 (lvM γ F_2) (γ 2 (γ 14 c1)) k else lvS γ F_2 (l4_2.toInt : Int).toNat k)) → (lvT γ F_1 + (l3_3.toInt : Int).toNat ≤ lvT γ F_3) → (c1 = el (γ 14 q1) (l4_2.toInt : Int).toNat) → (F_3 q0 = F q0) → l6_3.toInt < 32 → l3_3.toInt = 0 → fR (F_3 q0) 0 = (γ 9 0) → x1 = γ 10 l4_2.toInt.toNat → F_3 x1 = .inl (I .long, 32, .inr (.inl x2)) → x3 = x2 l6_3.toNatClampNeg → fR (F_3 q0) 2 = (γ 9 2) → F_3 (γ 9 2) = .inl (I .long, 32, .inr (.inl x4)) → x5 = x4 l6_3.toNatClampNeg → (¬ x3 = x5) → x6 = vp_updL x2 l6_3.toNatClampNeg x5 → (∀ b, b ≠ x1 → x7 b = F_3 b) → x7 x1 = .inl (I .long, 32, .inr (.inl x6)) → x8.toInt = l6_3.toInt + 1 → R x7 x8 (1 : Int32) k e1 e2 → R F_3 l6_3 l3_3 k e1 e2) →
  R s1 s2 s3 k e1 e2
/- tl_RModel_findLive_99: F, l6; out: F -/
def tl_RModel_findLive_99 (D : va_G) (I : FieldType → ClassId) (γ el : Nat → Nat → Nat) (P : List Nat) (F : Nat → va_E) (F_2 : Nat → va_E) (a2 : Int32) (c1 : Nat) (q1 : Nat) (l4_2 : Int32) (q0 : Nat) (s1 : Nat → va_E) (s2 : Int32) (k : Nat) (e1 : Nat → va_E) : Prop := ∀ R : (Nat → va_E) → (Int32) → Nat → (Nat → va_E) → Prop,
  (∀ (F_3 : Nat → va_E) (l6_3 : Int32), gB l6_3 (-1) 999999 → RS D I P F_3 γ el → rStr γ [] F F_3 → rLv γ F_2 F_3 → ((∀ k : Nat, k < 2048 → rbt (cL (F_3 (γ 9 2))) k = trS γ el F (decide (a2.toInt = 1)) c1 (lvM γ F_2) ((((γ 2 (γ 14 c1) : Nat) : Int) - 1 - l6_3.toInt).toNat) k)) → ((l6_3.toInt : Int) < γ 2 (γ 14 c1)) → (c1 = el (γ 14 q1) (l4_2.toInt : Int).toNat) → (F_3 q0 = F q0) → l6_3.toInt < 0 → R F_3 l6_3 128 F_3) →
  (∀ (F_3 : Nat → va_E) (l6_3 : Int32) (x1 : Nat) (x2 : Nat) (x3 : Int32) (x4 : Nat → va_E) (x5 : Int32) (k : Nat) (e1 : Nat → va_E), gB l6_3 (-1) 999999 → RS D I P F_3 γ el → rStr γ [] F F_3 → rLv γ F_2 F_3 → ((∀ k : Nat, k < 2048 → rbt (cL (F_3 (γ 9 2))) k = trS γ el F (decide (a2.toInt = 1)) c1 (lvM γ F_2) ((((γ 2 (γ 14 c1) : Nat) : Int) - 1 - l6_3.toInt).toNat) k)) → ((l6_3.toInt : Int) < γ 2 (γ 14 c1)) → (c1 = el (γ 14 q1) (l4_2.toInt : Int).toNat) → (F_3 q0 = F q0) → 0 ≤ l6_3.toInt → fR (F_3 c1) 0 = x1 → x2 = el x1 l6_3.toInt.toNat → fI (F_3 x1) 2 = x3 → tr_RArrayList_get l6_3 x3 → RS D I P x4 γ el → rStr γ [] F_3 x4 → ((∀ k : Nat, rbt (cL (x4 (γ 9 2))) k = bkS (F_3 x2) (decide (a2.toInt = 1)) (rbt (cL (F_3 (γ 9 2)))) k)) → rLv γ F_3 x4 → (x4 q0 = F_3 q0) → tr_RModel_back2 D I γ el P F_3 q0 x2 a2 x4 → x5.toInt = l6_3.toInt + (-1) → R x4 x5 k e1 → R F_3 l6_3 k e1) →
  R s1 s2 k e1
/- tl_RModel_findLive_58: F, l4, l3; out: l3, F -/
def tl_RModel_findLive_58 (D : va_G) (I : FieldType → ClassId) (γ el : Nat → Nat → Nat) (P : List Nat) (F : Nat → va_E) (q1 : Nat) (a2 : Int32) (F_1 : Nat → va_E) (q0 : Nat) (s1 : Nat → va_E) (s2 : Int32) (s3 : Int32) (k : Nat) (e1 : Int32) (e2 : Nat → va_E) : Prop := ∀ R : (Nat → va_E) → (Int32) → (Int32) → Nat → (Int32) → (Nat → va_E) → Prop,
  (∀ (F_2 : Nat → va_E) (l4_2 : Int32) (l3_2 : Int32), gB l4_2 (-1) 999999 → gB l3_2 0 1 → RS D I P F_2 γ el → rStr γ [] F F_2 → rJv γ el F F_2 q1 (decide (a2.toInt = 1)) (γ 6 (γ 1 q1)) → (lvT γ F_1 + (l3_2.toInt : Int).toNat ≤ lvT γ F_2) → ((l4_2.toInt : Int) < γ 6 (γ 1 q1)) → (F_2 q0 = F q0) → l4_2.toInt < 0 → R F_2 l4_2 l3_2 198 l3_2 F_2) →
  (∀ (F_2 : Nat → va_E) (l4_2 : Int32) (l3_2 : Int32) (x1 : Nat) (x2 : Nat) (x3 : Int32) (x4 : Nat → va_E) (x5 : Nat) (x6 : Nat → va_E) (x7 : Nat) (x8 : Int32) (x9 : Int32) (x10 : Nat → va_E) (x11 : Int32) (x12 : Nat → va_E) (x13 : Int32) (k : Nat) (e1 : Int32) (e2 : Nat → va_E), gB l4_2 (-1) 999999 → gB l3_2 0 1 → RS D I P F_2 γ el → rStr γ [] F F_2 → rJv γ el F F_2 q1 (decide (a2.toInt = 1)) (γ 6 (γ 1 q1)) → (lvT γ F_1 + (l3_2.toInt : Int).toNat ≤ lvT γ F_2) → ((l4_2.toInt : Int) < γ 6 (γ 1 q1)) → (F_2 q0 = F q0) → 0 ≤ l4_2.toInt → fR (F_2 q1) 0 = x1 → x2 = el x1 l4_2.toInt.toNat → fI (F_2 x1) 2 = x3 → tr_RCode_get l4_2 x3 → RS D I P x4 γ el → rStr γ [] F_2 x4 → ((∀ k : Nat, k < 2048 → rbt (cL (x4 (γ 9 2))) k = bhV (fI (F_2 (γ 15 x2)) 0).toInt (fI (F_2 x2) 2).toInt (fI (F_2 x2) 3).toInt (lvS γ F_2) k)) → rLv γ F_2 x4 → (x4 q0 = F_2 q0) → tr_RModel_behind2 D I γ el P F_2 q0 x2 x4 → fR (x4 x2) 1 = x5 → RS D I P x6 γ el → rStr γ [] x4 x6 → ((∀ k : Nat, rbt (cL (x6 (γ 9 2))) k = bkS (x4 x5) (decide (a2.toInt = 1)) (rbt (cL (x4 (γ 9 2)))) k)) → rLv γ x4 x6 → (x6 q0 = x4 q0) → tr_RModel_back2 D I γ el P x4 q0 x5 a2 x6 → fR (x6 x2) 0 = x7 → x8.toInt = (γ 2 x7 : Int) → fI (x6 x7) 2 = x8 → x9.toInt = x8.toInt - 1 → tl_RModel_findLive_99 D I γ el P F F_2 a2 x2 q1 l4_2 q0 x6 x9 128 x10 → tl_RModel_findLive_131 D I γ el P F l4_2 F_2 a2 x2 F_1 q1 q0 x10 (0 : Int32) l3_2 192 x11 x12 → x13.toInt = l4_2.toInt + (-1) → R x12 x13 x11 k e1 e2 → R F_2 l4_2 l3_2 k e1 e2) →
  R s1 s2 s3 k e1 e2
/- tl_RModel_findLive_44: F, l3; out: F -/
def tl_RModel_findLive_44 (D : va_G) (I : FieldType → ClassId) (γ el : Nat → Nat → Nat) (P : List Nat) (F : Nat → va_E) (q1 : Nat) (a2 : Int32) (q0 : Nat) (s1 : Nat → va_E) (s2 : Int32) (k : Nat) (e1 : Nat → va_E) : Prop := ∀ R : (Nat → va_E) → (Int32) → Nat → (Nat → va_E) → Prop,
  (∀ (F_1 : Nat → va_E) (l3_1 : Int32), gB l3_1 0 1 → RS D I P F_1 γ el → rStr γ [] F F_1 → rJv γ el F F_1 q1 (decide (a2.toInt = 1)) (γ 6 (γ 1 q1)) → (F_1 q0 = F q0) → l3_1.toInt = 0 → R F_1 l3_1 201 F_1) →
  (∀ (F_1 : Nat → va_E) (l3_1 : Int32) (x1 : Int32) (x2 : Int32) (x3 : Int32) (x4 : Nat → va_E) (k : Nat) (e1 : Nat → va_E), gB l3_1 0 1 → RS D I P F_1 γ el → rStr γ [] F F_1 → rJv γ el F F_1 q1 (decide (a2.toInt = 1)) (γ 6 (γ 1 q1)) → (F_1 q0 = F q0) → l3_1.toInt ≠ 0 → fI (F_1 q1) 3 = x1 → x2.toInt = x1.toInt - 1 → tl_RModel_findLive_58 D I γ el P F q1 a2 F_1 q0 F_1 x2 (0 : Int32) 198 x3 x4 → R x4 x3 k e1 → R F_1 l3_1 k e1) →
  R s1 s2 k e1
/- tl_RModel_findLive_13: F, l4; out: F -/
def tl_RModel_findLive_13 (D : va_G) (I : FieldType → ClassId) (γ el : Nat → Nat → Nat) (P : List Nat) (F : Nat → va_E) (l3_1 : Int32) (q0 : Nat) (s1 : Nat → va_E) (s2 : Int32) (k : Nat) (e1 : Nat → va_E) : Prop := ∀ R : (Nat → va_E) → (Int32) → Nat → (Nat → va_E) → Prop,
  (∀ (F_2 : Nat → va_E) (l4_2 : Int32), gB l4_2 0 32 → RS D I P F_2 γ el → rStr γ [] F F_2 → ((∀ i : Nat, (i : Int) < l3_1.toInt → ∀ j : Nat, j < 32 → cL (F_2 (γ 10 i)) j = 0)) → ((∀ j : Nat, (j : Int) < l4_2.toInt → cL (F_2 (γ 10 (l3_1.toInt : Int).toNat)) j = 0)) → (F_2 q0 = F q0) → 32 ≤ l4_2.toInt → R F_2 l4_2 36 F_2) →
  (∀ (F_2 : Nat → va_E) (l4_2 : Int32) (x1 : Nat) (x2 : Nat → Int64) (x3 : Nat → Int64) (x4 : Nat → va_E) (x5 : Int32) (k : Nat) (e1 : Nat → va_E), gB l4_2 0 32 → RS D I P F_2 γ el → rStr γ [] F F_2 → ((∀ i : Nat, (i : Int) < l3_1.toInt → ∀ j : Nat, j < 32 → cL (F_2 (γ 10 i)) j = 0)) → ((∀ j : Nat, (j : Int) < l4_2.toInt → cL (F_2 (γ 10 (l3_1.toInt : Int).toNat)) j = 0)) → (F_2 q0 = F q0) → l4_2.toInt < 32 → fR (F_2 q0) 0 = (γ 9 0) → x1 = γ 10 l3_1.toInt.toNat → F_2 x1 = .inl (I .long, 32, .inr (.inl x2)) → x3 = vp_updL x2 l4_2.toNatClampNeg 0 → (∀ b, b ≠ x1 → x4 b = F_2 b) → x4 x1 = .inl (I .long, 32, .inr (.inl x3)) → x5.toInt = l4_2.toInt + 1 → R x4 x5 k e1 → R F_2 l4_2 k e1) →
  R s1 s2 k e1
/- tl_RModel_findLive_2: F, l3; out: F -/
def tl_RModel_findLive_2 (D : va_G) (I : FieldType → ClassId) (γ el : Nat → Nat → Nat) (P : List Nat) (F : Nat → va_E) (q0 : Nat) (q1 : Nat) (s1 : Nat → va_E) (s2 : Int32) (k : Nat) (e1 : Nat → va_E) : Prop := ∀ R : (Nat → va_E) → (Int32) → Nat → (Nat → va_E) → Prop,
  (∀ (F_1 : Nat → va_E) (l3_1 : Int32) (x1 : Int32), gB l3_1 0 1000000 → RS D I P F_1 γ el → rStr γ [] F F_1 → ((∀ i : Nat, (i : Int) < l3_1.toInt → ∀ j : Nat, j < 32 → cL (F_1 (γ 10 i)) j = 0)) → (F_1 q0 = F q0) → fI (F_1 q1) 3 = x1 → x1.toInt ≤ l3_1.toInt → R F_1 l3_1 42 F_1) →
  (∀ (F_1 : Nat → va_E) (l3_1 : Int32) (x1 : Int32) (x2 : Nat → va_E) (x3 : Int32) (k : Nat) (e1 : Nat → va_E), gB l3_1 0 1000000 → RS D I P F_1 γ el → rStr γ [] F F_1 → ((∀ i : Nat, (i : Int) < l3_1.toInt → ∀ j : Nat, j < 32 → cL (F_1 (γ 10 i)) j = 0)) → (F_1 q0 = F q0) → fI (F_1 q1) 3 = x1 → l3_1.toInt < x1.toInt → tl_RModel_findLive_13 D I γ el P F l3_1 q0 F_1 (0 : Int32) 36 x2 → x3.toInt = l3_1.toInt + 1 → R x2 x3 k e1 → R F_1 l3_1 k e1) →
  R s1 s2 k e1
/- tr_RModel_findLive: F -/
def tr_RModel_findLive (D : va_G) (I : FieldType → ClassId) (γ el : Nat → Nat → Nat) (P : List Nat) (F : Nat → va_E) (q0 : Nat) (q1 : Nat) (a2 : Int32) (o1 : Nat → va_E) : Prop := ∀ R : (Nat → va_E) → Prop,
  (∀ (x1 : Nat → va_E) (x2 : Nat → va_E), tl_RModel_findLive_2 D I γ el P F q0 q1 F (0 : Int32) 42 x1 → tl_RModel_findLive_44 D I γ el P F q1 a2 q0 x1 (1 : Int32) 201 x2 → R x2) →
  R o1
abbrev ky_225065_SpillForgeModel_findLive : gKey := (cX17_findLive, 7, "SpillForgeModel", none, [], "findLive", fun _ _ => True)
def pt_225065_SpillForgeModel_findLive (D : va_G) (I : FieldType → ClassId) (γ el : Nat → Nat → Nat) (P225059 : List Nat) (F225060 : Nat → va_E) (q225061 : Nat) (q225062 : Nat) (p225063 : Int32) : Option Value → va_W → Nat → Nat → Prop := fun r w dc ds => ∃ (F276662 : Nat → va_E), r = none ∧ w = va_pl P225059 F276662 ∧ RS D I P225059 F276662 γ el ∧ rStr γ [] F225060 F276662 ∧ dc ≤ 0 ∧ ds ≤ 0 ∧ (F276662 q225061 = F225060 q225061) ∧ tr_RModel_findLive D I γ el P225059 F225060 q225061 q225062 p225063 F276662
set_option maxRecDepth 100000 in
set_option maxHeartbeats 4000000 in
theorem ct_225065_SpillForgeModel_findLive (l : Launch) (hl0 : l.stackTraces = false) (D : va_G) (I : FieldType → ClassId) (γ el : Nat → Nat → Nat) (P225059 : List Nat) (F225060 : Nat → va_E) (q225061 : Nat) (q225062 : Nat) (p225063 : Int32) (hT : RS D I P225059 F225060 γ el) (htq225061 : rKd γ q225061 10) (htq225062 : rKd γ q225062 9) (bp225063 : gB p225063 0 1) (x225064 : 0 < γ 6 (γ 1 q225062)) : CtA (gV D I) l yX17_findLive cX17_findLive 7 none 4 85 0 0 [.ref q225061, .ref q225062, .int p225063] (va_pl P225059 F225060) (pt_225065_SpillForgeModel_findLive D I γ el P225059 F225060 q225061 q225062 p225063) gNA := by
  refine CtA_of hl0 (by decide) (Nat.le_of_ble_eq_true rfl) ?_
  have hm225066 : q225061 ∈ P225059 := RS_m hT htq225061 (by decide)
  obtain ⟨q225068, q225069, p225070, p225071, p225072, p225073, p225074, p225075, p225076, p225077, p225078, p225079, p225080, p225081, p225082, p225083, p225084, he225067, hB225111, ht225085, ht225086, ht225087, ht225088, ht225089, ht225090, ht225091, ht225092, ht225093, ht225094, ht225095, ht225096, ht225097, ht225098, ht225099, ht225100, ht225101, ht225102, ht225103, ht225104, ht225105, ht225106, ht225107, ht225108, hB225112⟩ := show rk_10 γ (F225060 q225061) from RS_o hT htq225061
  have hm225113 : (γ 9 2) ∈ P225059 := RS_m hT ht225089 (by decide)
  obtain ⟨f225115, he225114, wf225115⟩ := show rk_35 I (F225060 (γ 9 2)) from RS_o hT ht225089
  refine G_iconst 0 dr_cX17_findLive_0 (by decide +kernel) ?_
  refine G_istore_n (L' := [(3, .int 0), (0, .ref q225061), (1, .ref q225062), (2, .int p225063)]) dr_cX17_findLive_1 (Nat.le_of_ble_eq_true rfl) rfl ?_
  have hlp2_271502 : ∀ (n2_271502 : Nat) (F271498 : Nat → va_E) (g271497 : Int32), gB g271497 0 1000000 → RS D I P225059 F271498 γ el → rStr γ [] F225060 F271498 → (∀ i : Nat, (i : Int) < g271497.toInt → ∀ j : Nat, j < 32 → cL (F271498 (γ 10 i)) j = 0) → (F271498 q225061 = F225060 q225061) → (∀ (k : Nat) (e1 : Nat → va_E), tl_RModel_findLive_2 D I γ el P225059 F225060 q225061 q225062 F271498 g271497 k e1 → tl_RModel_findLive_2 D I γ el P225059 F225060 q225061 q225062 F225060 (0 : Int32) k e1) → ((1000001 : Int) - g271497.toInt).toNat < n2_271502 → G (gV D I) l (gRm 4 85 0 0) (gMA (gV D I) (pt_225065_SpillForgeModel_findLive D I γ el P225059 F225060 q225061 q225062 p225063) gNA 0 0) ky_225065_SpillForgeModel_findLive 2 [(3, .int g271497), (0, .ref q225061), (1, .ref q225062), (2, .int p225063)] [] (va_pl P225059 F271498) 0 0 := by
    intro n2_271502
    induction n2_271502 with
    | zero => intro F271498 g271497 bg271497 hT271499 hs271500 x271501 x271502 kt2_271503 hm2_271502; exact absurd hm2_271502 (Nat.not_lt_zero _)
    | succ n2_271502 ih2_271502 =>
      intro F271498 g271497 bg271497 hT271499 hs271500 x271501 x271502 kt2_271503 hm2_271502
      have hs271504 : rStr γ [] F225060 F271498 := fun b h0 hb hw => (hs271500 b h0 hb hw).trans ((rStr_rf (γ := γ) (W := []) (F := F225060)) b h0 hb hw).symm
      have hs271505 : rStr γ [] F225060 F271498 := rStr_tr (rStr_rf (γ := γ) (W := []) (F := F225060)) hs271504
      refine G_iload_n 0 dr_cX17_findLive_2 rfl ?_
      refine G_aload_n 2 dr_cX17_findLive_3 rfl ?_
      have hm271506 : q225062 ∈ P225059 := RS_m hT271499 htq225062 (by decide)
      obtain ⟨q271508, q271509, p271510, p271511, he271507, ht271527, ht271512, ht271513, ht271514, ht271515, r271516, r271517, r271518, r271519, r271520, r271521, r271522, r271523, r271524, r271525, r271526⟩ := show rk_9 γ el q225062 (F271498 q225062) from RS_o hT271499 htq225062
      have bp271510 : gB p271510 0 1000000 := ⟨by omega, by omega⟩
      have bp271511 : gB p271511 0 1000000 := ⟨by omega, by omega⟩
      have fq271528 : fI (F271498 q225062) 3 = p271511 := by rw [he271507]; rfl
      refine Gw_callV (As := []) (gV_ok D I) (cp_12780_Code_size l hl0 D I P225059 F271498 q225062 q271508 q271509 p271510 p271511 hm271506 he271507) dr_cX17_findLive_4 ⟨wr_10_160, wr_1_15, wr_9_131, by decide, rfl, (Nat.le_of_ble_eq_true rfl), (Nat.le_of_ble_eq_true rfl)⟩ wr_9_129 wr_9_130 hm271506 he271507 rfl (show 0 + 0 ≤ 0 by first | omega | decide) (show 0 + 0 ≤ 0 by first | omega | decide) (Nat.le_of_ble_eq_true rfl) (fun r271532 w271533 dc271529 ds271530 hp271531 => ?_) (fun _ _ _ _ _ z => z.elim)
      obtain ⟨rfl, rfl, hdc, hds⟩ := hp271531
      change G _ _ _ _ _ _ _ (.int p271511 :: _) _ _ _
      refine G_widen (cs' := 0) (sl' := 0) (by omega) (by omega) ?_
      refine G_icmp_ge 42 dr_cX17_findLive_7 (by decide +kernel) (fun hc271534 => ?_) (fun hc271534 => ?_)
      · have r271535 : p271511.toInt ≤ g271497.toInt := gC_le hc271534
        have hx271536 : tl_RModel_findLive_2 D I γ el P225059 F225060 q225061 q225062 F225060 (0 : Int32) 42 F271498 := kt2_271503 42 F271498 (fun R c1 c2 => c1 F271498 g271497 p271511 bg271497 hT271499 hs271500 x271501 x271502 fq271528 r271535)
        refine G_iconst 1 dr_cX17_findLive_42 (by decide +kernel) ?_
        refine G_istore_n (L' := [(3, .int 1), (0, .ref q225061), (1, .ref q225062), (2, .int p225063)]) dr_cX17_findLive_43 (Nat.le_of_ble_eq_true rfl) rfl ?_
        have hlp44_274011 : ∀ (n44_274011 : Nat) (F274007 : Nat → va_E) (g274006 : Int32), gB g274006 0 1 → RS D I P225059 F274007 γ el → rStr γ [] F225060 F274007 → rJv γ el F225060 F274007 q225062 (decide (p225063.toInt = 1)) (γ 6 (γ 1 q225062)) → (F274007 q225061 = F225060 q225061) → (∀ (k : Nat) (e1 : Nat → va_E), tl_RModel_findLive_44 D I γ el P225059 F225060 q225062 p225063 q225061 F274007 g274006 k e1 → tl_RModel_findLive_44 D I γ el P225059 F225060 q225062 p225063 q225061 F271498 (1 : Int32) k e1) → ((81920 - lvT γ F274007) + (g274006.toInt : Int).toNat) < n44_274011 → G (gV D I) l (gRm 4 85 0 0) (gMA (gV D I) (pt_225065_SpillForgeModel_findLive D I γ el P225059 F225060 q225061 q225062 p225063) gNA 0 0) ky_225065_SpillForgeModel_findLive 44 [(3, .int g274006), (0, .ref q225061), (1, .ref q225062), (2, .int p225063)] [] (va_pl P225059 F274007) 0 0 := by
          intro n44_274011
          induction n44_274011 with
          | zero => intro F274007 g274006 bg274006 hT274008 hs274009 x274010 x274011 kt44_274012 hm44_274011; exact absurd hm44_274011 (Nat.not_lt_zero _)
          | succ n44_274011 ih44_274011 =>
            intro F274007 g274006 bg274006 hT274008 hs274009 x274010 x274011 kt44_274012 hm44_274011
            have hs274013 : rStr γ [] F271498 F274007 := fun b h0 hb hw => (hs274009 b h0 hb hw).trans (hs271500 b h0 hb hw).symm
            have he274014 : F274007 q225062 = .inr (18, [.ref q271508, .ref q271509, .int p271510, .int p271511]) := (hs274013 q225062 (rT0 htq225062 (by decide)) (rT1 htq225062 (by decide)) (rT2 htq225062 (by decide))).trans he271507
            have hs274015 : rStr γ [] F225060 F274007 := rStr_tr hs271500 hs274013
            refine G_iload_n 0 dr_cX17_findLive_44 rfl ?_
            refine G_if_eq 201 dr_cX17_findLive_45 (by decide +kernel) (fun hc274016 => ?_) (fun hc274016 => ?_)
            · have r274017 : g274006.toInt = 0 := gj_eq hc274016 (show Int32.toInt 0 = 0 by decide)
              have bg274006' : gB g274006 0 0 := ⟨by omega, by omega⟩
              have hx274018 : tl_RModel_findLive_44 D I γ el P225059 F225060 q225062 p225063 q225061 F271498 (1 : Int32) 201 F274007 := kt44_274012 201 F274007 (fun R c1 c2 => c1 F274007 g274006 bg274006 hT274008 hs274009 x274010 x274011 r274017)
              exact G_vretA dr_cX17_findLive_201 rfl (Nat.le_of_ble_eq_true rfl) (Nat.le_of_ble_eq_true rfl) ⟨F274007, rfl, rfl, hT274008, hs274009, (Nat.le_of_ble_eq_true rfl), (Nat.le_of_ble_eq_true rfl), x274011, (fun R c1 => c1 F271498 F274007 hx271536 hx274018)⟩
            · have r274019 : g274006.toInt ≠ 0 := gj_neq hc274016 (show Int32.toInt 0 = 0 by decide)
              have bg274006' : gB g274006 1 1 := ⟨by omega, by omega⟩
              refine G_iconst 0 dr_cX17_findLive_48 (by decide +kernel) ?_
              refine G_istore_n (L' := [(3, .int 0), (0, .ref q225061), (1, .ref q225062), (2, .int p225063)]) dr_cX17_findLive_49 (Nat.le_of_ble_eq_true rfl) rfl ?_
              refine G_aload_n 2 dr_cX17_findLive_50 rfl ?_
              have fq274020 : fI (F274007 q225062) 3 = p271511 := by rw [he274014]; rfl
              refine Gw_callV (As := []) (gV_ok D I) (cp_12780_Code_size l hl0 D I P225059 F274007 q225062 q271508 q271509 p271510 p271511 hm271506 he274014) dr_cX17_findLive_51 ⟨wr_10_160, wr_1_15, wr_9_131, by decide, rfl, (Nat.le_of_ble_eq_true rfl), (Nat.le_of_ble_eq_true rfl)⟩ wr_9_129 wr_9_130 hm271506 he274014 rfl (show 0 + 0 ≤ 0 by first | omega | decide) (show 0 + 0 ≤ 0 by first | omega | decide) (Nat.le_of_ble_eq_true rfl) (fun r274024 w274025 dc274021 ds274022 hp274023 => ?_) (fun _ _ _ _ _ z => z.elim)
              obtain ⟨rfl, rfl, hdc, hds⟩ := hp274023
              change G _ _ _ _ _ _ _ (.int p271511 :: _) _ _ _
              refine G_widen (cs' := 0) (sl' := 0) (by omega) (by omega) ?_
              refine G_iconst 1 dr_cX17_findLive_54 (by decide +kernel) ?_
              refine G_isub dr_cX17_findLive_55 (G_nam fun z274026 hz274026 => ?_)
              have ez274026 : z274026.toInt = p271511.toInt - 1 := by rw [gI_sub hz274026 bp271511 (gBl (show Int32.toInt 1 = 1 by decide)) (by decide) (by decide), show Int32.toInt 1 = 1 from by decide]
              have bz274026 : gB z274026 (-1) 999999 := gB_sub (gI_sub hz274026 bp271511 (gBl (show Int32.toInt 1 = 1 by decide)) (by decide) (by decide)) bp271511 (gBl (show Int32.toInt 1 = 1 by decide)) (by decide) (by decide)
              refine G_istore (L' := [(4, .int z274026), (3, .int 0), (0, .ref q225061), (1, .ref q225062), (2, .int p225063)]) dr_cX17_findLive_56 (Nat.le_of_ble_eq_true rfl) rfl ?_
              have hlp58_275259 : ∀ (n58_275259 : Nat) (F275253 : Nat → va_E) (g275251 : Int32) (g275252 : Int32), gB g275251 (-1) 999999 → gB g275252 0 1 → RS D I P225059 F275253 γ el → rStr γ [] F225060 F275253 → rJv γ el F225060 F275253 q225062 (decide (p225063.toInt = 1)) (γ 6 (γ 1 q225062)) → (lvT γ F274007 + (g275252.toInt : Int).toNat ≤ lvT γ F275253) → ((g275251.toInt : Int) < γ 6 (γ 1 q225062)) → (F275253 q225061 = F225060 q225061) → (∀ (k : Nat) (e1 : Int32) (e2 : Nat → va_E), tl_RModel_findLive_58 D I γ el P225059 F225060 q225062 p225063 F274007 q225061 F275253 g275251 g275252 k e1 e2 → tl_RModel_findLive_58 D I γ el P225059 F225060 q225062 p225063 F274007 q225061 F274007 z274026 (0 : Int32) k e1 e2) → ((g275251.toInt : Int) - (-2)).toNat < n58_275259 → G (gV D I) l (gRm 4 85 0 0) (gMA (gV D I) (pt_225065_SpillForgeModel_findLive D I γ el P225059 F225060 q225061 q225062 p225063) gNA 0 0) ky_225065_SpillForgeModel_findLive 58 [(4, .int g275251), (3, .int g275252), (0, .ref q225061), (1, .ref q225062), (2, .int p225063)] [] (va_pl P225059 F275253) 0 0 := by
                intro n58_275259
                induction n58_275259 with
                | zero => intro F275253 g275251 g275252 bg275251 bg275252 hT275254 hs275255 x275256 x275257 x275258 x275259 kt58_275260 hm58_275259; exact absurd hm58_275259 (Nat.not_lt_zero _)
                | succ n58_275259 ih58_275259 =>
                  intro F275253 g275251 g275252 bg275251 bg275252 hT275254 hs275255 x275256 x275257 x275258 x275259 kt58_275260 hm58_275259
                  have hs275261 : rStr γ [] F274007 F275253 := fun b h0 hb hw => (hs275255 b h0 hb hw).trans (hs274009 b h0 hb hw).symm
                  have he275262 : F275253 q225062 = .inr (18, [.ref q271508, .ref q271509, .int p271510, .int p271511]) := (hs275261 q225062 (rT0 htq225062 (by decide)) (rT1 htq225062 (by decide)) (rT2 htq225062 (by decide))).trans he274014
                  have hs275263 : rStr γ [] F225060 F275253 := rStr_tr hs274009 hs275261
                  refine G_iload 0 dr_cX17_findLive_58 rfl ?_
                  refine G_if_lt 198 dr_cX17_findLive_60 (by decide +kernel) (fun hc275264 => ?_) (fun hc275264 => ?_)
                  · have r275265 : g275251.toInt < 0 := gj_lt hc275264 (show Int32.toInt 0 = 0 by decide)
                    have bg275251' : gB g275251 (-1) (-1) := ⟨by omega, by omega⟩
                    have hx275266 : tl_RModel_findLive_58 D I γ el P225059 F225060 q225062 p225063 F274007 q225061 F274007 z274026 (0 : Int32) 198 g275252 F275253 := kt58_275260 198 g275252 F275253 (fun R c1 c2 => c1 F275253 g275251 g275252 bg275251 bg275252 hT275254 hs275255 x275256 x275257 x275258 x275259 r275265)
                    have lt275267 := lvT_le (γ := γ) (F := F275253)
                    have lt275268 := lvT_le (γ := γ) (F := F274007)
                    refine G_goto 44 dr_cX17_findLive_198 (by decide +kernel) ?_
                    refine G_lv (L' := [(3, .int g275252), (0, .ref q225061), (1, .ref q225062), (2, .int p225063)]) [1, 2, 3, 4] rfl ?_
                    exact ih44_274011 F275253 g275252 bg275252 hT275254 hs275255 x275256 x275259 (fun k e1 ht => kt44_274012 k e1 (fun R c1 c2 => c2 F274007 g274006 p271511 z274026 g275252 F275253 k e1 bg274006 hT274008 hs274009 x274010 x274011 r274019 fq274020 ez274026 hx275266 (ht R c1 c2))) (by omega)
                  · have r275269 : 0 ≤ g275251.toInt := gj_nlt hc275264 (show Int32.toInt 0 = 0 by decide)
                    have bg275251' : gB g275251 0 999999 := ⟨by omega, by omega⟩
                    refine G_aload_n 3 dr_cX17_findLive_63 rfl ?_
                    refine G_iload 0 dr_cX17_findLive_64 rfl ?_
                    have hm275270 : q271508 ∈ P225059 := RS_m hT275254 ht271512 (by decide)
                    obtain ⟨⟨p275272, p275273, q275274, he275271, r275275, r275276, r275277, r275279⟩, r275278⟩ := show rk_4 D I γ el F275253 q271508 from RS_o hT275254 ht271512
                    have bp275272 := gB_any p275272
                    have bp275273 : gB p275273 0 1000000 := ⟨by omega, by omega⟩
                    obtain ⟨r275280, r275281, n275288, f275289, r275282, r275283, r275284, r275285, r275286, r275287⟩ := rLC_n r275277 (by omega)
                    have hm275290 : q275274 ∈ P225059 := RS_m hT275254 r275280 (by decide)
                    obtain ⟨q275291, hx275292⟩ : ∃ x, x = el q271508 g275251.toInt.toNat := ⟨_, rfl⟩
                    have fq275296 : fR (F275253 q225062) 0 = q271508 := by rw [he275262]; rfl
                    have hx275293 : f275289 g275251.toNatClampNeg = some q275291 := (r275286 _ (show g275251.toInt.toNat < γ 2 q271508 by omega)).trans (by rw [hx275292])
                    have ht275297 : rKd γ q275291 2 := by rw [hx275292]; exact (r271523 _ (by omega)).resolve_right (fun z => absurd z.1 (by omega))
                    have ht275298 : rFm γ q275291 q271508 := by rw [hx275292]; exact (r275278 _ (show g275251.toInt.toNat < γ 2 q271508 by omega)).2.1
                    have hm275299 : q275291 ∈ P225059 := RS_m hT275254 ht275297 (by decide)
                    obtain ⟨q275301, q275302, p275303, p275304, he275300, ht275311, ht275305, ht275306, ht275307, ht275308, ht275309, bp275303, bp275304, r275310, r275312, r275313⟩ := show rk_2 γ q275291 (F275253 q275291) from RS_o hT275254 ht275297
                    have fq275314 : fI (F275253 q271508) 2 = p275273 := by rw [he275271]; rfl
                    refine Gw_callV (As := [.int g275251]) (gV_ok D I) (cp_7901_Code_get l hl0 D I P225059 F275253 q225062 q271508 q275274 g275251 q271509 p271510 p271511 p275272 p275273 f275289 n275288 q275291 q275301 q275302 p275303 p275304 hm271506 hm275270 hm275290 hm275299 he275262 he275271 r275282 he275300 (gB_w bg275251' (by decide) (by decide)) (gB_w bp275273 (by decide) (by decide)) (by omega) (by omega) (by assumption) (by omega)) dr_cX17_findLive_66 ⟨wr_10_161, wr_1_15, wr_10_141, by decide, rfl, (Nat.le_of_ble_eq_true rfl), (Nat.le_of_ble_eq_true rfl)⟩ wr_10_139 wr_10_140 hm271506 he275262 rfl (show 0 + 0 ≤ 0 by first | omega | decide) (show 0 + 0 ≤ 0 by first | omega | decide) (Nat.le_of_ble_eq_true rfl) (fun r275318 w275319 dc275315 ds275316 hp275317 => ?_) (fun _ _ _ _ _ z => z.elim)
                    obtain ⟨rfl, rfl, hdc, hds, ht275320⟩ := hp275317
                    change G _ _ _ _ _ _ _ (.ref q275291 :: _) _ _ _
                    refine G_widen (cs' := 0) (sl' := 0) (by omega) (by omega) ?_
                    refine G_astore (L' := [(5, .ref q275291), (4, .int g275251), (3, .int g275252), (0, .ref q225061), (1, .ref q225062), (2, .int p225063)]) dr_cX17_findLive_69 (Nat.le_of_ble_eq_true rfl) rfl ?_
                    refine G_aload_n 3 dr_cX17_findLive_71 rfl ?_
                    refine G_aload 0 dr_cX17_findLive_72 rfl ?_
                    have fl275321 : F275253 q275291 = F225060 q275291 := hs275255 q275291 (rT0 ht275297 (by decide)) (rT1 ht275297 (by decide)) (rT2 ht275297 (by decide))
                    have fl275322 : F275253 q275302 = F225060 q275302 := hs275255 q275302 (rT0 ht275307 (by decide)) (rT1 ht275307 (by decide)) (rT2 ht275307 (by decide))
                    have fl275323 : (fI (F225060 q275291) 2).toInt = p275303.toInt := by rw [← fl275321, he275300]; rfl
                    have fl275324 : (fI (F225060 q275291) 3).toInt = p275304.toInt := by rw [← fl275321, he275300]; rfl
                    have fl275325 : γ 2 (γ 14 q275291) = γ 2 q275301 := by rw [ht275311.1]
                    have fl275326 : q275291 = el (γ 14 q225062) (g275251.toInt : Int).toNat := by rw [hx275292, ht271527.1]
                    have hm275332 : q225061 ∈ P225059 := RS_m hT275254 htq225061 (by decide)
                    obtain ⟨q275334, q275335, p275336, p275337, p275338, p275339, p275340, p275341, p275342, p275343, p275344, p275345, p275346, p275347, p275348, p275349, p275350, he275333, hB275377, ht275351, ht275352, ht275353, ht275354, ht275355, ht275356, ht275357, ht275358, ht275359, ht275360, ht275361, ht275362, ht275363, ht275364, ht275365, ht275366, ht275367, ht275368, ht275369, ht275370, ht275371, ht275372, ht275373, ht275374, hB275378⟩ := show rk_10 γ (F275253 q225061) from RS_o hT275254 htq225061
                    refine Gw_callV (As := [.ref q275291]) (gV_ok D I) (ct_222009_SpillForgeModel_behind l hl0 D I γ el P225059 F275253 q225061 q275291 hT275254 htq225061 ht275297) dr_cX17_findLive_74 ⟨wr_10_162, wr_1_14, wr_10_165, by decide, rfl, (Nat.le_of_ble_eq_true rfl), (Nat.le_of_ble_eq_true rfl)⟩ wr_10_164 wr_p_95 hm275332 he275333 rfl (show 0 + 0 ≤ 0 by first | omega | decide) (show 0 + 0 ≤ 0 by first | omega | decide) (Nat.le_of_ble_eq_true rfl) (fun r275330 w275331 dc275327 ds275328 hp275329 => ?_) (fun _ _ _ _ _ z => z.elim)
                    obtain ⟨F275383, rfl, rfl, hT275384, hs275385, hdc, hds, x275379, x275380, x275381, ht275382⟩ := hp275329
                    have he275386 : F275383 q225062 = .inr (18, [.ref q271508, .ref q271509, .int p271510, .int p271511]) := (hs275385 q225062 (rT0 htq225062 (by decide)) (rT1 htq225062 (by decide)) (rT2 htq225062 (by decide))).trans he275262
                    have he275387 : F275383 q271508 = .inr (4, [.int p275272, .ref q275274, .int p275273]) := (hs275385 q271508 (rT0 ht271512 (by decide)) (rT1 ht271512 (by decide)) (rT2 ht271512 (by decide))).trans he275271
                    have he275388 : F275383 q275274 = .inl (I (.object "java/lang/Object"), n275288, .inr (.inr (.inr (.inr f275289)))) := (hs275385 q275274 (rT0 r275280 (by decide)) (rT1 r275280 (by decide)) (rT2 r275280 (by decide))).trans r275282
                    have he275389 : F275383 q275291 = .inr (17, [.ref q275301, .ref q275302, .int p275303, .int p275304]) := (hs275385 q275291 (rT0 ht275297 (by decide)) (rT1 ht275297 (by decide)) (rT2 ht275297 (by decide))).trans he275300
                    have hs275390 : rStr γ [] F225060 F275383 := rStr_tr hs275255 hs275385
                    have kp275391 : F275383 q225061 = F225060 q225061 := (x275381).trans x275259
                    have he275392 : F275383 q225061 = .inr (22, [.ref (γ 9 0), .ref (γ 9 1), .ref (γ 9 2), .ref (γ 9 3), .ref (γ 9 4), .ref (γ 9 5), .ref (γ 9 6), .ref (γ 9 7), .ref (γ 9 8), .int p275336, .int p275337, .int p275338, .int p275339, .int p275340, .int p275341, .ref (γ 9 15), .ref (γ 9 16), .ref (γ 9 17), .ref (γ 9 18), .ref (γ 9 19), .ref (γ 9 20), .ref (γ 9 21), .ref (γ 9 22), .int p275342, .int p275343, .int p275344, .int p275345, .int p275346, .ref q275334, .ref (γ 9 29), .int p275347, .ref (γ 9 31), .int p275348, .int p275349, .int p275350, .ref q275335]) := (x275381).trans he275333
                    change G _ _ _ _ _ _ _ _ _ _ _
                    refine G_widen (cs' := 0) (sl' := 0) (by omega) (by omega) ?_
                    refine G_aload_n 3 dr_cX17_findLive_77 rfl ?_
                    refine G_aload 0 dr_cX17_findLive_78 rfl ?_
                    have fq275393 : fR (F275383 q275291) 1 = q275302 := by rw [he275389]; rfl
                    refine Gp_get 1 hm275299 he275389 dr_cX17_findLive_80 (gk_X12 D I) (Nat.le_of_ble_eq_true rfl) wr_9_223 rfl ?_
                    refine G_iload_n 5 dr_cX17_findLive_83 rfl ?_
                    have fl275394 : F275383 q275302 = F225060 (γ 15 q275291) := by rw [ht275311.2.1]; exact hs275390 q275302 (rT0 ht275307 (by decide)) (rT1 ht275307 (by decide)) (rT2 ht275307 (by decide))
                    refine Gw_callV (As := [.ref q275302, .int p225063]) (gV_ok D I) (ct_221641_SpillForgeModel_back l hl0 D I γ el P225059 F275383 q225061 q275302 p225063 hT275384 htq225061 ht275307 bp225063) dr_cX17_findLive_84 ⟨wr_10_174, wr_1_14, wr_10_177, by decide, rfl, (Nat.le_of_ble_eq_true rfl), (Nat.le_of_ble_eq_true rfl)⟩ wr_10_176 wr_p_96 hm275332 he275392 rfl (show 0 + 0 ≤ 0 by first | omega | decide) (show 0 + 0 ≤ 0 by first | omega | decide) (Nat.le_of_ble_eq_true rfl) (fun r275398 w275399 dc275395 ds275396 hp275397 => ?_) (fun _ _ _ _ _ z => z.elim)
                    obtain ⟨F275404, rfl, rfl, hT275405, hs275406, hdc, hds, x275400, x275401, x275402, ht275403⟩ := hp275397
                    have he275407 : F275404 q225062 = .inr (18, [.ref q271508, .ref q271509, .int p271510, .int p271511]) := (hs275406 q225062 (rT0 htq225062 (by decide)) (rT1 htq225062 (by decide)) (rT2 htq225062 (by decide))).trans he275386
                    have he275408 : F275404 q271508 = .inr (4, [.int p275272, .ref q275274, .int p275273]) := (hs275406 q271508 (rT0 ht271512 (by decide)) (rT1 ht271512 (by decide)) (rT2 ht271512 (by decide))).trans he275387
                    have he275409 : F275404 q275274 = .inl (I (.object "java/lang/Object"), n275288, .inr (.inr (.inr (.inr f275289)))) := (hs275406 q275274 (rT0 r275280 (by decide)) (rT1 r275280 (by decide)) (rT2 r275280 (by decide))).trans he275388
                    have he275410 : F275404 q275291 = .inr (17, [.ref q275301, .ref q275302, .int p275303, .int p275304]) := (hs275406 q275291 (rT0 ht275297 (by decide)) (rT1 ht275297 (by decide)) (rT2 ht275297 (by decide))).trans he275389
                    have hs275411 : rStr γ [] F225060 F275404 := rStr_tr hs275390 hs275406
                    have kp275412 : F275404 q225061 = F225060 q225061 := (x275402).trans kp275391
                    have he275413 : F275404 q225061 = .inr (22, [.ref (γ 9 0), .ref (γ 9 1), .ref (γ 9 2), .ref (γ 9 3), .ref (γ 9 4), .ref (γ 9 5), .ref (γ 9 6), .ref (γ 9 7), .ref (γ 9 8), .int p275336, .int p275337, .int p275338, .int p275339, .int p275340, .int p275341, .ref (γ 9 15), .ref (γ 9 16), .ref (γ 9 17), .ref (γ 9 18), .ref (γ 9 19), .ref (γ 9 20), .ref (γ 9 21), .ref (γ 9 22), .int p275342, .int p275343, .int p275344, .int p275345, .int p275346, .ref q275334, .ref (γ 9 29), .int p275347, .ref (γ 9 31), .int p275348, .int p275349, .int p275350, .ref q275335]) := (x275402).trans he275392
                    change G _ _ _ _ _ _ _ _ _ _ _
                    refine G_widen (cs' := 0) (sl' := 0) (by omega) (by omega) ?_
                    refine G_aload 0 dr_cX17_findLive_87 rfl ?_
                    have fq275414 : fR (F275404 q275291) 0 = q275301 := by rw [he275410]; rfl
                    refine Gp_get 0 hm275299 he275410 dr_cX17_findLive_89 (gk_X12 D I) (Nat.le_of_ble_eq_true rfl) wr_9_220 rfl ?_
                    have hm275415 : q275301 ∈ P225059 := RS_m hT275405 ht275305 (by decide)
                    obtain ⟨⟨p275417, p275418, q275419, he275416, r275420, r275421, r275422, r275424⟩, r275423⟩ := show rk_3 D I γ el F275404 q275301 from RS_o hT275405 ht275305
                    have bp275417 := gB_any p275417
                    have bp275418 : gB p275418 0 1000000 := ⟨by omega, by omega⟩
                    have fq275425 : p275418.toInt = (γ 2 q275301 : Int) := by omega
                    have fq275426 : fI (F275404 q275301) 2 = p275418 := by rw [he275416]; rfl
                    refine Gw_callV (As := []) (gV_ok D I) (cp_7_ArrayList_size l hl0 D I P225059 F275404 q275301 p275417 q275419 p275418 hm275415 he275416 (gB_w bp275418 (by decide) (by decide))) dr_cX17_findLive_92 ⟨wr_10_200, wr_1_18, wr_9_160, by decide, rfl, (Nat.le_of_ble_eq_true rfl), (Nat.le_of_ble_eq_true rfl)⟩ wr_9_158 wr_9_159 hm275415 he275416 rfl (show 0 + 0 ≤ 0 by first | omega | decide) (show 0 + 0 ≤ 0 by first | omega | decide) (Nat.le_of_ble_eq_true rfl) (fun r275430 w275431 dc275427 ds275428 hp275429 => ?_) (fun _ _ _ _ _ z => z.elim)
                    obtain ⟨rfl, rfl, hdc, hds⟩ := hp275429
                    change G _ _ _ _ _ _ _ (.int p275418 :: _) _ _ _
                    refine G_widen (cs' := 0) (sl' := 0) (by omega) (by omega) ?_
                    refine G_iconst 1 dr_cX17_findLive_95 (by decide +kernel) ?_
                    refine G_isub dr_cX17_findLive_96 (G_nam fun z275432 hz275432 => ?_)
                    have ez275432 : z275432.toInt = p275418.toInt - 1 := by rw [gI_sub hz275432 bp275418 (gBl (show Int32.toInt 1 = 1 by decide)) (by decide) (by decide), show Int32.toInt 1 = 1 from by decide]
                    have bz275432 : gB z275432 (-1) 999999 := gB_sub (gI_sub hz275432 bp275418 (gBl (show Int32.toInt 1 = 1 by decide)) (by decide) (by decide)) bp275418 (gBl (show Int32.toInt 1 = 1 by decide)) (by decide) (by decide)
                    refine G_istore (L' := [(6, .int z275432), (5, .ref q275291), (4, .int g275251), (3, .int g275252), (0, .ref q225061), (1, .ref q225062), (2, .int p225063)]) dr_cX17_findLive_97 (Nat.le_of_ble_eq_true rfl) rfl ?_
                    have hlp99_275965 : ∀ (n99_275965 : Nat) (F275958 : Nat → va_E) (g275957 : Int32), gB g275957 (-1) 999999 → RS D I P225059 F275958 γ el → rStr γ [] F225060 F275958 → rLv γ F275253 F275958 → (∀ k : Nat, k < 2048 → rbt (cL (F275958 (γ 9 2))) k = trS γ el F225060 (decide (p225063.toInt = 1)) q275291 (lvM γ F275253) ((((γ 2 (γ 14 q275291) : Nat) : Int) - 1 - g275957.toInt).toNat) k) → ((g275957.toInt : Int) < γ 2 (γ 14 q275291)) → (q275291 = el (γ 14 q225062) (g275251.toInt : Int).toNat) → (F275958 q225061 = F225060 q225061) → (∀ (k : Nat) (e1 : Nat → va_E), tl_RModel_findLive_99 D I γ el P225059 F225060 F275253 p225063 q275291 q225062 g275251 q225061 F275958 g275957 k e1 → tl_RModel_findLive_99 D I γ el P225059 F225060 F275253 p225063 q275291 q225062 g275251 q225061 F275404 z275432 k e1) → ((g275957.toInt : Int) - (-2)).toNat < n99_275965 → G (gV D I) l (gRm 4 85 0 0) (gMA (gV D I) (pt_225065_SpillForgeModel_findLive D I γ el P225059 F225060 q225061 q225062 p225063) gNA 0 0) ky_225065_SpillForgeModel_findLive 99 [(6, .int g275957), (5, .ref q275291), (4, .int g275251), (3, .int g275252), (0, .ref q225061), (1, .ref q225062), (2, .int p225063)] [] (va_pl P225059 F275958) 0 0 := by
                      intro n99_275965
                      induction n99_275965 with
                      | zero => intro F275958 g275957 bg275957 hT275959 hs275960 x275961 x275962 x275963 x275964 x275965 kt99_275966 hm99_275965; exact absurd hm99_275965 (Nat.not_lt_zero _)
                      | succ n99_275965 ih99_275965 =>
                        intro F275958 g275957 bg275957 hT275959 hs275960 x275961 x275962 x275963 x275964 x275965 kt99_275966 hm99_275965
                        have hs275967 : rStr γ [] F275404 F275958 := fun b h0 hb hw => (hs275960 b h0 hb hw).trans (hs275411 b h0 hb hw).symm
                        have he275968 : F275958 q225062 = .inr (18, [.ref q271508, .ref q271509, .int p271510, .int p271511]) := (hs275967 q225062 (rT0 htq225062 (by decide)) (rT1 htq225062 (by decide)) (rT2 htq225062 (by decide))).trans he275407
                        have he275969 : F275958 q271508 = .inr (4, [.int p275272, .ref q275274, .int p275273]) := (hs275967 q271508 (rT0 ht271512 (by decide)) (rT1 ht271512 (by decide)) (rT2 ht271512 (by decide))).trans he275408
                        have he275970 : F275958 q275274 = .inl (I (.object "java/lang/Object"), n275288, .inr (.inr (.inr (.inr f275289)))) := (hs275967 q275274 (rT0 r275280 (by decide)) (rT1 r275280 (by decide)) (rT2 r275280 (by decide))).trans he275409
                        have he275971 : F275958 q275291 = .inr (17, [.ref q275301, .ref q275302, .int p275303, .int p275304]) := (hs275967 q275291 (rT0 ht275297 (by decide)) (rT1 ht275297 (by decide)) (rT2 ht275297 (by decide))).trans he275410
                        have he275972 : F275958 q275301 = .inr (4, [.int p275417, .ref q275419, .int p275418]) := (hs275967 q275301 (rT0 ht275305 (by decide)) (rT1 ht275305 (by decide)) (rT2 ht275305 (by decide))).trans he275416
                        have hs275973 : rStr γ [] F225060 F275958 := rStr_tr hs275411 hs275967
                        refine G_iload 0 dr_cX17_findLive_99 rfl ?_
                        refine G_if_lt 128 dr_cX17_findLive_101 (by decide +kernel) (fun hc275974 => ?_) (fun hc275974 => ?_)
                        · have r275975 : g275957.toInt < 0 := gj_lt hc275974 (show Int32.toInt 0 = 0 by decide)
                          have bg275957' : gB g275957 (-1) (-1) := ⟨by omega, by omega⟩
                          have hx275976 : tl_RModel_findLive_99 D I γ el P225059 F225060 F275253 p225063 q275291 q225062 g275251 q225061 F275404 z275432 128 F275958 := kt99_275966 128 F275958 (fun R c1 c2 => c1 F275958 g275957 bg275957 hT275959 hs275960 x275961 x275962 x275963 x275964 x275965 r275975)
                          refine G_iconst 0 dr_cX17_findLive_128 (by decide +kernel) ?_
                          refine G_istore (L' := [(6, .int 0), (5, .ref q275291), (4, .int g275251), (3, .int g275252), (0, .ref q225061), (1, .ref q225062), (2, .int p225063)]) dr_cX17_findLive_129 (Nat.le_of_ble_eq_true rfl) rfl ?_
                          have hlp131_276180 : ∀ (n131_276180 : Nat) (F276172 : Nat → va_E) (g276170 : Int32) (g276171 : Int32), gB g276170 0 32 → gB g276171 0 1 → RS D I P225059 F276172 γ el → rStr γ [] F225060 F276172 → (∀ i : Nat, i < 40 → (i : Int) ≠ g275251.toInt → F276172 (γ 10 i) = F275253 (γ 10 i)) → (∀ k : Nat, k < 2048 → rbt (cL (F276172 (γ 9 2))) k = trS γ el F225060 (decide (p225063.toInt = 1)) q275291 (lvM γ F275253) (γ 2 (γ 14 q275291)) k) → (∀ k : Nat, k < 2048 → lvS γ F276172 (g275251.toInt : Int).toNat k = if (k : Int) < 64 * g276170.toInt then trS γ el F225060 (decide (p225063.toInt = 1)) q275291 (lvM γ F275253) (γ 2 (γ 14 q275291)) k else lvS γ F275253 (g275251.toInt : Int).toNat k) → (lvT γ F274007 + (g276171.toInt : Int).toNat ≤ lvT γ F276172) → (q275291 = el (γ 14 q225062) (g275251.toInt : Int).toNat) → (F276172 q225061 = F225060 q225061) → (∀ (k : Nat) (e1 : Int32) (e2 : Nat → va_E), tl_RModel_findLive_131 D I γ el P225059 F225060 g275251 F275253 p225063 q275291 F274007 q225062 q225061 F276172 g276170 g276171 k e1 e2 → tl_RModel_findLive_131 D I γ el P225059 F225060 g275251 F275253 p225063 q275291 F274007 q225062 q225061 F275958 (0 : Int32) g275252 k e1 e2) → ((33 : Int) - g276170.toInt).toNat < n131_276180 → G (gV D I) l (gRm 4 85 0 0) (gMA (gV D I) (pt_225065_SpillForgeModel_findLive D I γ el P225059 F225060 q225061 q225062 p225063) gNA 0 0) ky_225065_SpillForgeModel_findLive 131 [(6, .int g276170), (5, .ref q275291), (4, .int g275251), (3, .int g276171), (0, .ref q225061), (1, .ref q225062), (2, .int p225063)] [] (va_pl P225059 F276172) 0 0 := by
                            intro n131_276180
                            induction n131_276180 with
                            | zero => intro F276172 g276170 g276171 bg276170 bg276171 hT276173 hs276174 x276175 x276176 x276177 x276178 x276179 x276180 kt131_276181 hm131_276180; exact absurd hm131_276180 (Nat.not_lt_zero _)
                            | succ n131_276180 ih131_276180 =>
                              intro F276172 g276170 g276171 bg276170 bg276171 hT276173 hs276174 x276175 x276176 x276177 x276178 x276179 x276180 kt131_276181 hm131_276180
                              have hs276182 : rStr γ [] F275958 F276172 := fun b h0 hb hw => (hs276174 b h0 hb hw).trans (hs275960 b h0 hb hw).symm
                              have he276183 : F276172 q225062 = .inr (18, [.ref q271508, .ref q271509, .int p271510, .int p271511]) := (hs276182 q225062 (rT0 htq225062 (by decide)) (rT1 htq225062 (by decide)) (rT2 htq225062 (by decide))).trans he275968
                              have he276184 : F276172 q271508 = .inr (4, [.int p275272, .ref q275274, .int p275273]) := (hs276182 q271508 (rT0 ht271512 (by decide)) (rT1 ht271512 (by decide)) (rT2 ht271512 (by decide))).trans he275969
                              have he276185 : F276172 q275274 = .inl (I (.object "java/lang/Object"), n275288, .inr (.inr (.inr (.inr f275289)))) := (hs276182 q275274 (rT0 r275280 (by decide)) (rT1 r275280 (by decide)) (rT2 r275280 (by decide))).trans he275970
                              have he276186 : F276172 q275291 = .inr (17, [.ref q275301, .ref q275302, .int p275303, .int p275304]) := (hs276182 q275291 (rT0 ht275297 (by decide)) (rT1 ht275297 (by decide)) (rT2 ht275297 (by decide))).trans he275971
                              have hs276187 : rStr γ [] F225060 F276172 := rStr_tr hs275960 hs276182
                              refine G_iload 0 dr_cX17_findLive_131 rfl ?_
                              refine G_bipush 32 dr_cX17_findLive_133 (by decide +kernel) ?_
                              refine G_icmp_ge 192 dr_cX17_findLive_135 (by decide +kernel) (fun hc276188 => ?_) (fun hc276188 => ?_)
                              · have r276189 : 32 ≤ g276170.toInt := gj_leL hc276188 (show Int32.toInt 32 = 32 by decide)
                                have bg276170' : gB g276170 32 32 := ⟨by omega, by omega⟩
                                have hx276190 : tl_RModel_findLive_131 D I γ el P225059 F225060 g275251 F275253 p225063 q275291 F274007 q225062 q225061 F275958 (0 : Int32) g275252 192 g276171 F276172 := kt131_276181 192 g276171 F276172 (fun R c1 c2 c3 c4 => c1 F276172 g276170 g276171 bg276170 bg276171 hT276173 hs276174 x276175 x276176 x276177 x276178 x276179 x276180 r276189)
                                obtain ⟨z276191, hz276191⟩ : ∃ z : Int32, z = g275251 + Int32.ofInt (-1) := ⟨_, rfl⟩
                                have ez276191 : z276191.toInt = g275251.toInt + (-1) := gI_inc hz276191 (by decide) bg275251' (by decide) (by decide)
                                have bz276191 : gB z276191 (-1) 999998 := ⟨by omega, by omega⟩
                                refine G_iinc (L' := [(4, .int z276191), (6, .int g276170), (5, .ref q275291), (3, .int g276171), (0, .ref q225061), (1, .ref q225062), (2, .int p225063)]) z276191 2 dr_cX17_findLive_192 rfl hz276191.symm (Nat.le_of_ble_eq_true rfl) rfl ?_
                                refine G_goto 58 dr_cX17_findLive_195 (by decide +kernel) ?_
                                refine G_lv (L' := [(4, .int z276191), (3, .int g276171), (0, .ref q225061), (1, .ref q225062), (2, .int p225063)]) [0, 3, 4, 5, 6] rfl ?_
                                exact ih58_275259 F276172 z276191 g276171 (gB_w bz276191 (by decide) (by decide)) bg276171 hT276173 hs276174 (rJv_s x275256 (i0 := g275251.toInt.toNat) (by omega) (by omega) (fun i hi hne => x276175 i hi (by omega)) (fun k hk => by have q := x276177 k hk; rw [if_pos (by omega)] at q; rw [q, ← x276179])) (by have q := x276178; omega) (by omega) x276180 (fun k e1 e2 ht => kt58_275260 k e1 e2 (fun R c1 c2 => c2 F275253 g275251 g275252 q271508 q275291 p275273 F275383 q275302 F275404 q275301 p275418 z275432 F275958 g276171 F276172 z276191 k e1 e2 bg275251 bg275252 hT275254 hs275255 x275256 x275257 x275258 x275259 r275269 fq275296 hx275292 fq275314 ht275320 hT275384 hs275385 x275379 x275380 x275381 ht275382 fq275393 hT275405 hs275406 x275400 x275401 x275402 ht275403 fq275414 fq275425 fq275426 ez275432 hx275976 hx276190 ez276191 (ht R c1 c2))) (by omega)
                              · have r276192 : g276170.toInt < 32 := gj_nleL hc276188 (show Int32.toInt 32 = 32 by decide)
                                have bg276170' : gB g276170 0 31 := ⟨by omega, by omega⟩
                                refine G_iload_n 3 dr_cX17_findLive_138 rfl ?_
                                refine G_if_ne 163 dr_cX17_findLive_139 (by decide +kernel) (fun hc276193 => ?_) (fun hc276193 => ?_)
                                · have r276194 : g276171.toInt ≠ 0 := gj_neq hc276193 (show Int32.toInt 0 = 0 by decide)
                                  have bg276171' : gB g276171 1 1 := ⟨by omega, by omega⟩
                                  refine G_iconst 1 dr_cX17_findLive_163 (by decide +kernel) ?_
                                  refine G_goto 168 dr_cX17_findLive_164 (by decide +kernel) ?_
                                  refine G_istore_n (L' := [(3, .int 1), (6, .int g276170), (5, .ref q275291), (4, .int g275251), (0, .ref q225061), (1, .ref q225062), (2, .int p225063)]) dr_cX17_findLive_168 (Nat.le_of_ble_eq_true rfl) rfl ?_
                                  refine G_aload_n 4 dr_cX17_findLive_169 rfl ?_
                                  have hm276195 : q225061 ∈ P225059 := RS_m hT276173 htq225061 (by decide)
                                  obtain ⟨q276197, q276198, p276199, p276200, p276201, p276202, p276203, p276204, p276205, p276206, p276207, p276208, p276209, p276210, p276211, p276212, p276213, he276196, hB276240, ht276214, ht276215, ht276216, ht276217, ht276218, ht276219, ht276220, ht276221, ht276222, ht276223, ht276224, ht276225, ht276226, ht276227, ht276228, ht276229, ht276230, ht276231, ht276232, ht276233, ht276234, ht276235, ht276236, ht276237, hB276241⟩ := show rk_10 γ (F276172 q225061) from RS_o hT276173 htq225061
                                  have fq276242 : fR (F276172 q225061) 0 = (γ 9 0) := by rw [he276196]; rfl
                                  refine Gp_get 0 hm276195 he276196 dr_cX17_findLive_170 (gk_X17 D I) (Nat.le_of_ble_eq_true rfl) wr_7_74 rfl ?_
                                  refine G_iload 3 dr_cX17_findLive_173 rfl ?_
                                  have hm276243 : (γ 9 0) ∈ P225059 := RS_m hT276173 ht276216 (by decide)
                                  obtain ⟨f276245, he276244, hg276246⟩ := show rk_12 I γ (F276172 (γ 9 0)) from RS_o hT276173 ht276216
                                  obtain ⟨q276247, hx276249⟩ : ∃ x, x = γ 10 g275251.toInt.toNat := ⟨_, rfl⟩
                                  have ht276248 : rKd γ q276247 11 := by rw [hx276249]; exact (hg276246 _ (show g275251.toInt.toNat < 40 by omega)).2.1
                                  refine Gp_aald 5 hm276243 he276244 dr_cX17_findLive_175 rfl rfl (gB_inr (by omega) (by omega)) ?_
                                  rw [show f276245 g275251.toNatClampNeg = some q276247 from (hg276246 _ (show g275251.toInt.toNat < 40 by omega)).1.trans (by rw [hx276249])]
                                  change G _ _ _ _ _ _ _ (.ref q276247 :: _) _ _ _
                                  refine G_iload 1 dr_cX17_findLive_176 rfl ?_
                                  refine G_aload_n 4 dr_cX17_findLive_178 rfl ?_
                                  have fq276250 : fR (F276172 q225061) 2 = (γ 9 2) := by rw [he276196]; rfl
                                  refine Gp_get 2 hm276195 he276196 dr_cX17_findLive_179 (gk_X17 D I) (Nat.le_of_ble_eq_true rfl) wr_7_76 rfl ?_
                                  refine G_iload 1 dr_cX17_findLive_182 rfl ?_
                                  have hm276251 : (γ 9 2) ∈ P225059 := RS_m hT276173 ht276218 (by decide)
                                  obtain ⟨f276253, he276252, wf276253⟩ := show rk_35 I (F276172 (γ 9 2)) from RS_o hT276173 ht276218
                                  refine Gp_lald 2 hm276251 he276252 dr_cX17_findLive_184 rfl (gB_in bg276170' (by decide) (by decide)) (G_namL fun u276254 hu276254 => ?_)
                                  have qu276254 : lb_Q u276254 (2000 - 64 * g276170.toInt) := lb_Wld hu276254 wf276253 (by omega) (by omega) (lb_Mod0 (by omega) (by omega))
                                  have hm276255 : q276247 ∈ P225059 := RS_m hT276173 ht276248 (by decide)
                                  obtain ⟨f276257, he276256, wf276257⟩ := show rk_11 I (F276172 q276247) from RS_o hT276173 ht276248
                                  refine Gp_last 2 hm276255 he276256 dr_cX17_findLive_185 rfl (gB_in bg276170' (by decide) (by decide)) (fun F276258 e276259 n276260 => ?_)
                                  obtain ⟨f276261, hf276261⟩ : ∃ z, z = vp_updL f276257 g276170.toNatClampNeg u276254 := ⟨_, rfl⟩
                                  rw [← hf276261] at e276259
                                  have he276262 : F276258 q225062 = .inr (18, [.ref q271508, .ref q271509, .int p271510, .int p271511]) := (n276260 q225062 (rn_oa he276183 he276256)).trans he276183
                                  have he276263 : F276258 q271508 = .inr (4, [.int p275272, .ref q275274, .int p275273]) := (n276260 q271508 (rn_oa he276184 he276256)).trans he276184
                                  have he276264 : F276258 q275274 = .inl (I (.object "java/lang/Object"), n275288, .inr (.inr (.inr (.inr f275289)))) := (n276260 q275274 (rn_ref_long he276185 he276256)).trans he276185
                                  have he276265 : F276258 q275291 = .inr (17, [.ref q275301, .ref q275302, .int p275303, .int p275304]) := (n276260 q275291 (rn_oa he276186 he276256)).trans he276186
                                  have he276266 : F276258 q225061 = .inr (22, [.ref (γ 9 0), .ref (γ 9 1), .ref (γ 9 2), .ref (γ 9 3), .ref (γ 9 4), .ref (γ 9 5), .ref (γ 9 6), .ref (γ 9 7), .ref (γ 9 8), .int p276199, .int p276200, .int p276201, .int p276202, .int p276203, .int p276204, .ref (γ 9 15), .ref (γ 9 16), .ref (γ 9 17), .ref (γ 9 18), .ref (γ 9 19), .ref (γ 9 20), .ref (γ 9 21), .ref (γ 9 22), .int p276205, .int p276206, .int p276207, .int p276208, .int p276209, .ref q276197, .ref (γ 9 29), .int p276210, .ref (γ 9 31), .int p276211, .int p276212, .int p276213, .ref q276198]) := (n276260 q225061 (rn_oa he276196 he276256)).trans he276196
                                  have he276267 : F276258 (γ 9 0) = .inl (I (.array .long), 40, .inr (.inr (.inr (.inr f276245)))) := (n276260 (γ 9 0) (rn_ref_long he276244 he276256)).trans he276244
                                  have he276268 : F276258 (γ 9 2) = .inl (I .long, 32, .inr (.inl f276253)) := (n276260 (γ 9 2) (rn_ty ht276218 ht276248 (by decide))).trans he276252
                                  have he276269 : F276258 q276247 = .inl (I .long, 32, .inr (.inl f276261)) := e276259
                                  have hs276270 : rStr γ [] F225060 F276258 := rStr_put hs276174 n276260 ht276248 (by decide)
                                  have kp276271 : F276258 q225061 = F225060 q225061 := (n276260 q225061 (rn_ty htq225061 ht276248 (by decide))).trans x276180
                                  have wf276261 : lb_W f276261 (32) (32) (2000) := lb_Wst hf276261 wf276257 (by omega) (lb_Mod0 (by omega) (by omega)) qu276254
                                  obtain ⟨z276272, hz276272⟩ : ∃ z : Int32, z = g276170 + Int32.ofInt 1 := ⟨_, rfl⟩
                                  have ez276272 : z276272.toInt = g276170.toInt + 1 := gI_inc hz276272 (by decide) bg276170' (by decide) (by decide)
                                  have bz276272 : gB z276272 1 32 := ⟨by omega, by omega⟩
                                  refine G_iinc (L' := [(6, .int z276272), (3, .int 1), (5, .ref q275291), (4, .int g275251), (0, .ref q225061), (1, .ref q225062), (2, .int p225063)]) z276272 1 dr_cX17_findLive_186 rfl hz276272.symm (Nat.le_of_ble_eq_true rfl) rfl ?_
                                  refine G_goto 131 dr_cX17_findLive_189 (by decide +kernel) ?_
                                  have hT276273 : RS D I P225059 F276258 γ el := RS_set hT276173 n276260 ht276248 (by decide) ⟨f276261, he276269, wf276261⟩
                                  refine G_lv (L' := [(6, .int z276272), (5, .ref q275291), (4, .int g275251), (3, .int 1), (0, .ref q225061), (1, .ref q225062), (2, .int p225063)]) [0, 2, 3, 1, 4, 5, 6] rfl ?_
                                  exact ih131_276180 F276258 z276272 1 (gB_w bz276272 (by decide) (by decide)) (gB_w (gBl (show Int32.toInt 1 = 1 by decide)) (by decide) (by decide)) hT276273 hs276270 (fun i hi hne => (n276260 _ (by rw [hx276249]; exact RS_lne hT276273 ht276216 hi (by omega) (by omega))).trans (x276175 i hi hne)) (fun k hk => by rw [n276260 (γ 9 2) (rn_ty ht276218 ht276248 (by decide))]; exact x276176 k hk) (fun k hk => by unfold lvS; rw [← hx276249, cL_of he276269]; exact cp_st hu276254 hf276261 bg276170'.1 ez276272 (fun k hk => by have q := x276177 k hk; unfold lvS at q; rw [← hx276249, cL_of he276256] at q; exact q) (fun k hk => by have q := x276176 k hk; rw [cL_of he276252] at q; exact q) k hk) (by have gz : (g276170.toNatClampNeg : Int) = g276170.toInt := g_nn bg276170'.1; have hU := lvT_u (γ := γ) (F := F276172) (i := g275251.toInt.toNat) (z := g276170.toNatClampNeg) (by omega) (cl32 bg276170'.1 (by omega)) (fun i hi hne => n276260 _ (by rw [hx276249]; exact RS_lne hT276273 ht276216 hi (by omega) hne)) (by rw [← hx276249]; exact cL_of he276256) (by rw [← hx276249]; exact cL_of he276269) hf276261; have hS := rpop_sub (lv_w (f := f276257) (g := f276253) (A := trS γ el F225060 (decide (p225063.toInt = 1)) q275291 (lvM γ F275253) (γ 2 (γ 14 q275291))) (z := g276170.toNatClampNeg) (cl32 bg276170'.1 (by omega)) (fun k' h1 h2 h3 => by have q := x276177 k' h1; unfold lvS at q; rw [← hx276249, cL_of he276256, if_neg (by omega)] at q; rw [q] at h3; rw [x276179]; exact x275256 _ (by omega) k' ((lvM_e (by omega) h1).trans (by unfold lvS; rw [← hx276249]; exact h3))) (fun k hk => by have q := x276176 k hk; rw [cL_of he276252] at q; exact q)); rw [← hu276254] at hS; have q := x276178; have qb0 : Int32.toInt 0 = 0 := (by decide); have qb1 : Int32.toInt 1 = 1 := (by decide); omega) x276179 kp276271 (fun k e1 e2 ht => kt131_276181 k e1 e2 (fun R c1 c2 c3 c4 => c2 F276172 g276170 g276171 q276247 f276253 u276254 f276257 f276261 F276258 z276272 k e1 e2 bg276170 bg276171 hT276173 hs276174 x276175 x276176 x276177 x276178 x276179 x276180 r276192 r276194 fq276242 hx276249 fq276250 he276252 hu276254 he276256 hf276261 n276260 he276269 ez276272 (ht R c1 c2 c3 c4))) (by have qa0 : Int32.toInt 1 = 1 := (by decide); omega)
                                · have r276274 : g276171.toInt = 0 := gj_eq hc276193 (show Int32.toInt 0 = 0 by decide)
                                  have bg276171' : gB g276171 0 0 := ⟨by omega, by omega⟩
                                  refine G_aload_n 4 dr_cX17_findLive_142 rfl ?_
                                  have hm276275 : q225061 ∈ P225059 := RS_m hT276173 htq225061 (by decide)
                                  obtain ⟨q276277, q276278, p276279, p276280, p276281, p276282, p276283, p276284, p276285, p276286, p276287, p276288, p276289, p276290, p276291, p276292, p276293, he276276, hB276320, ht276294, ht276295, ht276296, ht276297, ht276298, ht276299, ht276300, ht276301, ht276302, ht276303, ht276304, ht276305, ht276306, ht276307, ht276308, ht276309, ht276310, ht276311, ht276312, ht276313, ht276314, ht276315, ht276316, ht276317, hB276321⟩ := show rk_10 γ (F276172 q225061) from RS_o hT276173 htq225061
                                  have fq276322 : fR (F276172 q225061) 0 = (γ 9 0) := by rw [he276276]; rfl
                                  refine Gp_get 0 hm276275 he276276 dr_cX17_findLive_143 (gk_X17 D I) (Nat.le_of_ble_eq_true rfl) wr_7_74 rfl ?_
                                  refine G_iload 2 dr_cX17_findLive_146 rfl ?_
                                  have hm276323 : (γ 9 0) ∈ P225059 := RS_m hT276173 ht276296 (by decide)
                                  obtain ⟨f276325, he276324, hg276326⟩ := show rk_12 I γ (F276172 (γ 9 0)) from RS_o hT276173 ht276296
                                  obtain ⟨q276327, hx276329⟩ : ∃ x, x = γ 10 g275251.toInt.toNat := ⟨_, rfl⟩
                                  have ht276328 : rKd γ q276327 11 := by rw [hx276329]; exact (hg276326 _ (show g275251.toInt.toNat < 40 by omega)).2.1
                                  refine Gp_aald 5 hm276323 he276324 dr_cX17_findLive_148 rfl rfl (gB_inr (by omega) (by omega)) ?_
                                  rw [show f276325 g275251.toNatClampNeg = some q276327 from (hg276326 _ (show g275251.toInt.toNat < 40 by omega)).1.trans (by rw [hx276329])]
                                  change G _ _ _ _ _ _ _ (.ref q276327 :: _) _ _ _
                                  refine G_iload 0 dr_cX17_findLive_149 rfl ?_
                                  have hm276330 : q276327 ∈ P225059 := RS_m hT276173 ht276328 (by decide)
                                  obtain ⟨f276332, he276331, wf276332⟩ := show rk_11 I (F276172 q276327) from RS_o hT276173 ht276328
                                  refine Gp_lald 2 hm276330 he276331 dr_cX17_findLive_151 rfl (gB_in bg276170' (by decide) (by decide)) (G_namL fun u276333 hu276333 => ?_)
                                  have qu276333 : lb_Q u276333 (2000 - 64 * g276170.toInt) := lb_Wld hu276333 wf276332 (by omega) (by omega) (lb_Mod0 (by omega) (by omega))
                                  refine G_aload_n 4 dr_cX17_findLive_152 rfl ?_
                                  have fq276334 : fR (F276172 q225061) 2 = (γ 9 2) := by rw [he276276]; rfl
                                  refine Gp_get 2 hm276275 he276276 dr_cX17_findLive_153 (gk_X17 D I) (Nat.le_of_ble_eq_true rfl) wr_7_76 rfl ?_
                                  refine G_iload 0 dr_cX17_findLive_156 rfl ?_
                                  have hm276335 : (γ 9 2) ∈ P225059 := RS_m hT276173 ht276298 (by decide)
                                  obtain ⟨f276337, he276336, wf276337⟩ := show rk_35 I (F276172 (γ 9 2)) from RS_o hT276173 ht276298
                                  refine Gp_lald 2 hm276335 he276336 dr_cX17_findLive_158 rfl (gB_in bg276170' (by decide) (by decide)) (G_namL fun u276338 hu276338 => ?_)
                                  have qu276338 : lb_Q u276338 (2000 - 64 * g276170.toInt) := lb_Wld hu276338 wf276337 (by omega) (by omega) (lb_Mod0 (by omega) (by omega))
                                  refine G_lcmp dr_cX17_findLive_159 (G_nam fun z276339 hz276339 => ?_)
                                  have bz276339 : gB z276339 (-1) 1 := gB_cmp hz276339
                                  refine G_if_eq 167 dr_cX17_findLive_160 (by decide +kernel) (fun hc276340 => ?_) (fun hc276340 => ?_)
                                  · have r276341 : z276339.toInt = 0 := gj_eq hc276340 (show Int32.toInt 0 = 0 by decide)
                                    have bz276339' : gB z276339 0 0 := ⟨by omega, by omega⟩
                                    have lhc276340 := gC_cmpE hz276339 hc276340
                                    refine G_iconst 0 dr_cX17_findLive_167 (by decide +kernel) ?_
                                    refine G_istore_n (L' := [(3, .int 0), (6, .int g276170), (5, .ref q275291), (4, .int g275251), (0, .ref q225061), (1, .ref q225062), (2, .int p225063)]) dr_cX17_findLive_168 (Nat.le_of_ble_eq_true rfl) rfl ?_
                                    refine G_aload_n 4 dr_cX17_findLive_169 rfl ?_
                                    refine Gp_get 0 hm276275 he276276 dr_cX17_findLive_170 (gk_X17 D I) (Nat.le_of_ble_eq_true rfl) wr_7_74 rfl ?_
                                    refine G_iload 3 dr_cX17_findLive_173 rfl ?_
                                    refine Gp_aald 5 hm276323 he276324 dr_cX17_findLive_175 rfl rfl (gB_inr (by omega) (by omega)) ?_
                                    rw [show f276325 g275251.toNatClampNeg = some q276327 from (hg276326 _ (show g275251.toInt.toNat < 40 by omega)).1.trans (by rw [hx276329])]
                                    change G _ _ _ _ _ _ _ (.ref q276327 :: _) _ _ _
                                    refine G_iload 1 dr_cX17_findLive_176 rfl ?_
                                    refine G_aload_n 4 dr_cX17_findLive_178 rfl ?_
                                    refine Gp_get 2 hm276275 he276276 dr_cX17_findLive_179 (gk_X17 D I) (Nat.le_of_ble_eq_true rfl) wr_7_76 rfl ?_
                                    refine G_iload 1 dr_cX17_findLive_182 rfl ?_
                                    refine Gp_lald 2 hm276335 he276336 dr_cX17_findLive_184 rfl (gB_in bg276170' (by decide) (by decide)) (G_eql (y := u276338) hu276338.symm ?_)
                                    refine Gp_last 2 hm276330 he276331 dr_cX17_findLive_185 rfl (gB_in bg276170' (by decide) (by decide)) (fun F276342 e276343 n276344 => ?_)
                                    obtain ⟨f276345, hf276345⟩ : ∃ z, z = vp_updL f276332 g276170.toNatClampNeg u276338 := ⟨_, rfl⟩
                                    rw [← hf276345] at e276343
                                    have he276346 : F276342 q225062 = .inr (18, [.ref q271508, .ref q271509, .int p271510, .int p271511]) := (n276344 q225062 (rn_oa he276183 he276331)).trans he276183
                                    have he276347 : F276342 q271508 = .inr (4, [.int p275272, .ref q275274, .int p275273]) := (n276344 q271508 (rn_oa he276184 he276331)).trans he276184
                                    have he276348 : F276342 q275274 = .inl (I (.object "java/lang/Object"), n275288, .inr (.inr (.inr (.inr f275289)))) := (n276344 q275274 (rn_ref_long he276185 he276331)).trans he276185
                                    have he276349 : F276342 q275291 = .inr (17, [.ref q275301, .ref q275302, .int p275303, .int p275304]) := (n276344 q275291 (rn_oa he276186 he276331)).trans he276186
                                    have he276350 : F276342 q225061 = .inr (22, [.ref (γ 9 0), .ref (γ 9 1), .ref (γ 9 2), .ref (γ 9 3), .ref (γ 9 4), .ref (γ 9 5), .ref (γ 9 6), .ref (γ 9 7), .ref (γ 9 8), .int p276279, .int p276280, .int p276281, .int p276282, .int p276283, .int p276284, .ref (γ 9 15), .ref (γ 9 16), .ref (γ 9 17), .ref (γ 9 18), .ref (γ 9 19), .ref (γ 9 20), .ref (γ 9 21), .ref (γ 9 22), .int p276285, .int p276286, .int p276287, .int p276288, .int p276289, .ref q276277, .ref (γ 9 29), .int p276290, .ref (γ 9 31), .int p276291, .int p276292, .int p276293, .ref q276278]) := (n276344 q225061 (rn_oa he276276 he276331)).trans he276276
                                    have he276351 : F276342 (γ 9 0) = .inl (I (.array .long), 40, .inr (.inr (.inr (.inr f276325)))) := (n276344 (γ 9 0) (rn_ref_long he276324 he276331)).trans he276324
                                    have he276352 : F276342 (γ 9 2) = .inl (I .long, 32, .inr (.inl f276337)) := (n276344 (γ 9 2) (rn_ty ht276298 ht276328 (by decide))).trans he276336
                                    have he276353 : F276342 q276327 = .inl (I .long, 32, .inr (.inl f276345)) := e276343
                                    have hs276354 : rStr γ [] F225060 F276342 := rStr_put hs276174 n276344 ht276328 (by decide)
                                    have kp276355 : F276342 q225061 = F225060 q225061 := (n276344 q225061 (rn_ty htq225061 ht276328 (by decide))).trans x276180
                                    have wf276345 : lb_W f276345 (32) (32) (2000) := lb_Wst hf276345 wf276332 (by omega) (lb_Mod0 (by omega) (by omega)) qu276338
                                    obtain ⟨z276356, hz276356⟩ : ∃ z : Int32, z = g276170 + Int32.ofInt 1 := ⟨_, rfl⟩
                                    have ez276356 : z276356.toInt = g276170.toInt + 1 := gI_inc hz276356 (by decide) bg276170' (by decide) (by decide)
                                    have bz276356 : gB z276356 1 32 := ⟨by omega, by omega⟩
                                    refine G_iinc (L' := [(6, .int z276356), (3, .int 0), (5, .ref q275291), (4, .int g275251), (0, .ref q225061), (1, .ref q225062), (2, .int p225063)]) z276356 1 dr_cX17_findLive_186 rfl hz276356.symm (Nat.le_of_ble_eq_true rfl) rfl ?_
                                    refine G_goto 131 dr_cX17_findLive_189 (by decide +kernel) ?_
                                    have hT276357 : RS D I P225059 F276342 γ el := RS_set hT276173 n276344 ht276328 (by decide) ⟨f276345, he276353, wf276345⟩
                                    refine G_lv (L' := [(6, .int z276356), (5, .ref q275291), (4, .int g275251), (3, .int 0), (0, .ref q225061), (1, .ref q225062), (2, .int p225063)]) [0, 2, 3, 1, 4, 5, 6] rfl ?_
                                    exact ih131_276180 F276342 z276356 0 (gB_w bz276356 (by decide) (by decide)) (gB_w (gBl (show Int32.toInt 0 = 0 by decide)) (by decide) (by decide)) hT276357 hs276354 (fun i hi hne => (n276344 _ (by rw [hx276329]; exact RS_lne hT276357 ht276296 hi (by omega) (by omega))).trans (x276175 i hi hne)) (fun k hk => by rw [n276344 (γ 9 2) (rn_ty ht276298 ht276328 (by decide))]; exact x276176 k hk) (fun k hk => by unfold lvS; rw [← hx276329, cL_of he276353]; exact cp_st hu276338 hf276345 bg276170'.1 ez276356 (fun k hk => by have q := x276177 k hk; unfold lvS at q; rw [← hx276329, cL_of he276331] at q; exact q) (fun k hk => by have q := x276176 k hk; rw [cL_of he276336] at q; exact q) k hk) (by have gz : (g276170.toNatClampNeg : Int) = g276170.toInt := g_nn bg276170'.1; have hU := lvT_u (γ := γ) (F := F276172) (i := g275251.toInt.toNat) (z := g276170.toNatClampNeg) (by omega) (cl32 bg276170'.1 (by omega)) (fun i hi hne => n276344 _ (by rw [hx276329]; exact RS_lne hT276357 ht276296 hi (by omega) hne)) (by rw [← hx276329]; exact cL_of he276331) (by rw [← hx276329]; exact cL_of he276353) hf276345; have hS := rpop_sub (lv_w (f := f276332) (g := f276337) (A := trS γ el F225060 (decide (p225063.toInt = 1)) q275291 (lvM γ F275253) (γ 2 (γ 14 q275291))) (z := g276170.toNatClampNeg) (cl32 bg276170'.1 (by omega)) (fun k' h1 h2 h3 => by have q := x276177 k' h1; unfold lvS at q; rw [← hx276329, cL_of he276331, if_neg (by omega)] at q; rw [q] at h3; rw [x276179]; exact x275256 _ (by omega) k' ((lvM_e (by omega) h1).trans (by unfold lvS; rw [← hx276329]; exact h3))) (fun k hk => by have q := x276176 k hk; rw [cL_of he276336] at q; exact q)); rw [← hu276338] at hS; have q := x276178; have qb0 : Int32.toInt 0 = 0 := (by decide); have qb1 : Int32.toInt 1 = 1 := (by decide); omega) x276179 kp276355 (fun k e1 e2 ht => kt131_276181 k e1 e2 (fun R c1 c2 c3 c4 => c3 F276172 g276170 g276171 q276327 f276332 u276333 f276337 u276338 f276345 F276342 z276356 k e1 e2 bg276170 bg276171 hT276173 hs276174 x276175 x276176 x276177 x276178 x276179 x276180 r276192 r276274 fq276322 hx276329 he276331 hu276333 fq276334 he276336 hu276338 lhc276340 hf276345 n276344 he276353 ez276356 (ht R c1 c2 c3 c4))) (by have qa0 : Int32.toInt 0 = 0 := (by decide); omega)
                                  · have r276358 : z276339.toInt ≠ 0 := gj_neq hc276340 (show Int32.toInt 0 = 0 by decide)
                                    have lhc276340 := gC_cmpN hz276339 hc276340
                                    refine G_iconst 1 dr_cX17_findLive_163 (by decide +kernel) ?_
                                    refine G_goto 168 dr_cX17_findLive_164 (by decide +kernel) ?_
                                    refine G_istore_n (L' := [(3, .int 1), (6, .int g276170), (5, .ref q275291), (4, .int g275251), (0, .ref q225061), (1, .ref q225062), (2, .int p225063)]) dr_cX17_findLive_168 (Nat.le_of_ble_eq_true rfl) rfl ?_
                                    refine G_aload_n 4 dr_cX17_findLive_169 rfl ?_
                                    refine Gp_get 0 hm276275 he276276 dr_cX17_findLive_170 (gk_X17 D I) (Nat.le_of_ble_eq_true rfl) wr_7_74 rfl ?_
                                    refine G_iload 3 dr_cX17_findLive_173 rfl ?_
                                    refine Gp_aald 5 hm276323 he276324 dr_cX17_findLive_175 rfl rfl (gB_inr (by omega) (by omega)) ?_
                                    rw [show f276325 g275251.toNatClampNeg = some q276327 from (hg276326 _ (show g275251.toInt.toNat < 40 by omega)).1.trans (by rw [hx276329])]
                                    change G _ _ _ _ _ _ _ (.ref q276327 :: _) _ _ _
                                    refine G_iload 1 dr_cX17_findLive_176 rfl ?_
                                    refine G_aload_n 4 dr_cX17_findLive_178 rfl ?_
                                    refine Gp_get 2 hm276275 he276276 dr_cX17_findLive_179 (gk_X17 D I) (Nat.le_of_ble_eq_true rfl) wr_7_76 rfl ?_
                                    refine G_iload 1 dr_cX17_findLive_182 rfl ?_
                                    refine Gp_lald 2 hm276335 he276336 dr_cX17_findLive_184 rfl (gB_in bg276170' (by decide) (by decide)) (G_eql (y := u276338) hu276338.symm ?_)
                                    refine Gp_last 2 hm276330 he276331 dr_cX17_findLive_185 rfl (gB_in bg276170' (by decide) (by decide)) (fun F276359 e276360 n276361 => ?_)
                                    obtain ⟨f276362, hf276362⟩ : ∃ z, z = vp_updL f276332 g276170.toNatClampNeg u276338 := ⟨_, rfl⟩
                                    rw [← hf276362] at e276360
                                    have he276363 : F276359 q225062 = .inr (18, [.ref q271508, .ref q271509, .int p271510, .int p271511]) := (n276361 q225062 (rn_oa he276183 he276331)).trans he276183
                                    have he276364 : F276359 q271508 = .inr (4, [.int p275272, .ref q275274, .int p275273]) := (n276361 q271508 (rn_oa he276184 he276331)).trans he276184
                                    have he276365 : F276359 q275274 = .inl (I (.object "java/lang/Object"), n275288, .inr (.inr (.inr (.inr f275289)))) := (n276361 q275274 (rn_ref_long he276185 he276331)).trans he276185
                                    have he276366 : F276359 q275291 = .inr (17, [.ref q275301, .ref q275302, .int p275303, .int p275304]) := (n276361 q275291 (rn_oa he276186 he276331)).trans he276186
                                    have he276367 : F276359 q225061 = .inr (22, [.ref (γ 9 0), .ref (γ 9 1), .ref (γ 9 2), .ref (γ 9 3), .ref (γ 9 4), .ref (γ 9 5), .ref (γ 9 6), .ref (γ 9 7), .ref (γ 9 8), .int p276279, .int p276280, .int p276281, .int p276282, .int p276283, .int p276284, .ref (γ 9 15), .ref (γ 9 16), .ref (γ 9 17), .ref (γ 9 18), .ref (γ 9 19), .ref (γ 9 20), .ref (γ 9 21), .ref (γ 9 22), .int p276285, .int p276286, .int p276287, .int p276288, .int p276289, .ref q276277, .ref (γ 9 29), .int p276290, .ref (γ 9 31), .int p276291, .int p276292, .int p276293, .ref q276278]) := (n276361 q225061 (rn_oa he276276 he276331)).trans he276276
                                    have he276368 : F276359 (γ 9 0) = .inl (I (.array .long), 40, .inr (.inr (.inr (.inr f276325)))) := (n276361 (γ 9 0) (rn_ref_long he276324 he276331)).trans he276324
                                    have he276369 : F276359 (γ 9 2) = .inl (I .long, 32, .inr (.inl f276337)) := (n276361 (γ 9 2) (rn_ty ht276298 ht276328 (by decide))).trans he276336
                                    have he276370 : F276359 q276327 = .inl (I .long, 32, .inr (.inl f276362)) := e276360
                                    have hs276371 : rStr γ [] F225060 F276359 := rStr_put hs276174 n276361 ht276328 (by decide)
                                    have kp276372 : F276359 q225061 = F225060 q225061 := (n276361 q225061 (rn_ty htq225061 ht276328 (by decide))).trans x276180
                                    have wf276362 : lb_W f276362 (32) (32) (2000) := lb_Wst hf276362 wf276332 (by omega) (lb_Mod0 (by omega) (by omega)) qu276338
                                    obtain ⟨z276373, hz276373⟩ : ∃ z : Int32, z = g276170 + Int32.ofInt 1 := ⟨_, rfl⟩
                                    have ez276373 : z276373.toInt = g276170.toInt + 1 := gI_inc hz276373 (by decide) bg276170' (by decide) (by decide)
                                    have bz276373 : gB z276373 1 32 := ⟨by omega, by omega⟩
                                    refine G_iinc (L' := [(6, .int z276373), (3, .int 1), (5, .ref q275291), (4, .int g275251), (0, .ref q225061), (1, .ref q225062), (2, .int p225063)]) z276373 1 dr_cX17_findLive_186 rfl hz276373.symm (Nat.le_of_ble_eq_true rfl) rfl ?_
                                    refine G_goto 131 dr_cX17_findLive_189 (by decide +kernel) ?_
                                    have hT276374 : RS D I P225059 F276359 γ el := RS_set hT276173 n276361 ht276328 (by decide) ⟨f276362, he276370, wf276362⟩
                                    refine G_lv (L' := [(6, .int z276373), (5, .ref q275291), (4, .int g275251), (3, .int 1), (0, .ref q225061), (1, .ref q225062), (2, .int p225063)]) [0, 2, 3, 1, 4, 5, 6] rfl ?_
                                    exact ih131_276180 F276359 z276373 1 (gB_w bz276373 (by decide) (by decide)) (gB_w (gBl (show Int32.toInt 1 = 1 by decide)) (by decide) (by decide)) hT276374 hs276371 (fun i hi hne => (n276361 _ (by rw [hx276329]; exact RS_lne hT276374 ht276296 hi (by omega) (by omega))).trans (x276175 i hi hne)) (fun k hk => by rw [n276361 (γ 9 2) (rn_ty ht276298 ht276328 (by decide))]; exact x276176 k hk) (fun k hk => by unfold lvS; rw [← hx276329, cL_of he276370]; exact cp_st hu276338 hf276362 bg276170'.1 ez276373 (fun k hk => by have q := x276177 k hk; unfold lvS at q; rw [← hx276329, cL_of he276331] at q; exact q) (fun k hk => by have q := x276176 k hk; rw [cL_of he276336] at q; exact q) k hk) (by have gz : (g276170.toNatClampNeg : Int) = g276170.toInt := g_nn bg276170'.1; have hU := lvT_u (γ := γ) (F := F276172) (i := g275251.toInt.toNat) (z := g276170.toNatClampNeg) (by omega) (cl32 bg276170'.1 (by omega)) (fun i hi hne => n276361 _ (by rw [hx276329]; exact RS_lne hT276374 ht276296 hi (by omega) hne)) (by rw [← hx276329]; exact cL_of he276331) (by rw [← hx276329]; exact cL_of he276370) hf276362; have hS := rpop_slt (lv_w (f := f276332) (g := f276337) (A := trS γ el F225060 (decide (p225063.toInt = 1)) q275291 (lvM γ F275253) (γ 2 (γ 14 q275291))) (z := g276170.toNatClampNeg) (cl32 bg276170'.1 (by omega)) (fun k' h1 h2 h3 => by have q := x276177 k' h1; unfold lvS at q; rw [← hx276329, cL_of he276331, if_neg (by omega)] at q; rw [q] at h3; rw [x276179]; exact x275256 _ (by omega) k' ((lvM_e (by omega) h1).trans (by unfold lvS; rw [← hx276329]; exact h3))) (fun k hk => by have q := x276176 k hk; rw [cL_of he276336] at q; exact q)) (fun e => lc_ne hz276339 (by omega) (hu276333.trans (e.trans hu276338.symm))); rw [← hu276338] at hS; have q := x276178; have qb0 : Int32.toInt 0 = 0 := (by decide); have qb1 : Int32.toInt 1 = 1 := (by decide); omega) x276179 kp276372 (fun k e1 e2 ht => kt131_276181 k e1 e2 (fun R c1 c2 c3 c4 => c4 F276172 g276170 g276171 q276327 f276332 u276333 f276337 u276338 f276362 F276359 z276373 k e1 e2 bg276170 bg276171 hT276173 hs276174 x276175 x276176 x276177 x276178 x276179 x276180 r276192 r276274 fq276322 hx276329 he276331 hu276333 fq276334 he276336 hu276338 lhc276340 hf276362 n276361 he276370 ez276373 (ht R c1 c2 c3 c4))) (by have qa0 : Int32.toInt 1 = 1 := (by decide); omega)
                          exact hlp131_276180 (((33 : Int) - 0).toNat + 1) F275958 0 g275252 (gB_w (gBl (show Int32.toInt 0 = 0 by decide)) (by decide) (by decide)) bg275252 hT275959 hs275960 (fun i hi _ => x275961 i hi) (fun k hk => by have q := x275962 k hk; rw [show ((((γ 2 (γ 14 q275291) : Nat) : Int) - 1 - g275957.toInt).toNat) = γ 2 (γ 14 q275291) by omega] at q; exact q) (fun k hk => by rw [if_neg (by have qa : Int32.toInt 0 = 0 := (by decide); omega)]; exact lvS_l x275961 (by omega)) (by have q := lvT_l x275961; have q2 := x275257; omega) x275964 x275965 (fun k e1 e2 ht => ht) (Nat.lt_succ_self _)
                        · have r276375 : 0 ≤ g275957.toInt := gj_nlt hc275974 (show Int32.toInt 0 = 0 by decide)
                          have bg275957' : gB g275957 0 999999 := ⟨by omega, by omega⟩
                          refine G_aload_n 4 dr_cX17_findLive_104 rfl ?_
                          refine G_aload 1 dr_cX17_findLive_105 rfl ?_
                          have fq276376 : fR (F275958 q275291) 0 = q275301 := by rw [he275971]; rfl
                          refine Gp_get 0 hm275299 he275971 dr_cX17_findLive_107 (gk_X12 D I) (Nat.le_of_ble_eq_true rfl) wr_9_220 rfl ?_
                          refine G_iload 0 dr_cX17_findLive_110 rfl ?_
                          have hm276377 : q275301 ∈ P225059 := RS_m hT275959 ht275305 (by decide)
                          obtain ⟨⟨p276379, p276380, q276381, he276378, r276382, r276383, r276384, r276386⟩, r276385⟩ := show rk_3 D I γ el F275958 q275301 from RS_o hT275959 ht275305
                          have bp276379 := gB_any p276379
                          have bp276380 : gB p276380 0 1000000 := ⟨by omega, by omega⟩
                          obtain ⟨r276387, r276388, n276395, f276396, r276389, r276390, r276391, r276392, r276393, r276394⟩ := rLC_n r276384 (by omega)
                          have hm276397 : q276381 ∈ P225059 := RS_m hT275959 r276387 (by decide)
                          obtain ⟨q276398, hx276399⟩ : ∃ x, x = el q275301 g275957.toInt.toNat := ⟨_, rfl⟩
                          have hx276400 : f276396 g275957.toNatClampNeg = some q276398 := (r276393 _ (show g275957.toInt.toNat < γ 2 q275301 by omega)).trans (by rw [hx276399])
                          have ht276401 : rKd γ q276398 1 := by rw [hx276399]; exact (r276385 _ (show g275957.toInt.toNat < γ 2 q275301 by omega)).1
                          have ht276402 : rFm γ q276398 q275301 := by rw [hx276399]; exact (r276385 _ (show g275957.toInt.toNat < γ 2 q275301 by omega)).2.1
                          have fq276403 : fI (F275958 q275301) 2 = p276380 := by rw [he276378]; rfl
                          refine Gw_callV (As := [.int g275957]) (gV_ok D I) (cp_22_ArrayList_get l hl0 D I P225059 F275958 q275301 q276381 g275957 p276379 p276380 f276396 n276395 q276398 hm276377 hm276397 he276378 r276389 (gB_w bg275957' (by decide) (by decide)) (gB_w bp276380 (by decide) (by decide)) (by omega) (by omega) (by assumption) (by omega)) dr_cX17_findLive_112 ⟨wr_10_201, wr_1_18, wr_10_65, by decide, rfl, (Nat.le_of_ble_eq_true rfl), (Nat.le_of_ble_eq_true rfl)⟩ wr_10_63 wr_10_64 hm276377 he276378 rfl (show 0 + 0 ≤ 0 by first | omega | decide) (show 0 + 0 ≤ 0 by first | omega | decide) (Nat.le_of_ble_eq_true rfl) (fun r276407 w276408 dc276404 ds276405 hp276406 => ?_) (fun _ _ _ _ _ z => z.elim)
                          obtain ⟨rfl, rfl, hdc, hds, ht276409⟩ := hp276406
                          change G _ _ _ _ _ _ _ (.ref q276398 :: _) _ _ _
                          refine G_widen (cs' := 0) (sl' := 0) (by omega) (by omega) ?_
                          have hm276410 : q276398 ∈ P225059 := RS_m hT275959 ht276401 (by decide)
                          obtain ⟨p276412, p276413, p276414, p276415, p276416, p276417, p276418, he276411, bp276412, bp276413, bp276416, bp276417, bp276418, r276419, r276420, r276421, r276422, r276423⟩ := show rk_1 γ q276398 (F275958 q276398) from RS_o hT275959 ht276401
                          have bp276414 := gB_any p276414
                          have bp276415 := gB_any p276415
                          refine Gp_cast hm276410 he276411 rfl dr_cX17_findLive_115 wr_10_202 (gr_cast 1 rfl) ?_
                          refine G_iload_n 6 dr_cX17_findLive_118 rfl ?_
                          have fl276424 : F275958 q276398 = F225060 (el (γ 14 q275291) (γ 2 (γ 14 q275291) - 1 - ((((γ 2 (γ 14 q275291) : Nat) : Int) - 1 - g275957.toInt).toNat))) := by rw [show γ 2 (γ 14 q275291) - 1 - ((((γ 2 (γ 14 q275291) : Nat) : Int) - 1 - g275957.toInt).toNat) = g275957.toInt.toNat by omega, ht275311.1, ← hx276399]; exact hs275960 q276398 (rT0 ht276401 (by decide)) (rT1 ht276401 (by decide)) (rT2 ht276401 (by decide))
                          have hm276430 : q225061 ∈ P225059 := RS_m hT275959 htq225061 (by decide)
                          obtain ⟨q276432, q276433, p276434, p276435, p276436, p276437, p276438, p276439, p276440, p276441, p276442, p276443, p276444, p276445, p276446, p276447, p276448, he276431, hB276475, ht276449, ht276450, ht276451, ht276452, ht276453, ht276454, ht276455, ht276456, ht276457, ht276458, ht276459, ht276460, ht276461, ht276462, ht276463, ht276464, ht276465, ht276466, ht276467, ht276468, ht276469, ht276470, ht276471, ht276472, hB276476⟩ := show rk_10 γ (F275958 q225061) from RS_o hT275959 htq225061
                          refine Gw_callV (As := [.ref q276398, .int p225063]) (gV_ok D I) (ct_221641_SpillForgeModel_back l hl0 D I γ el P225059 F275958 q225061 q276398 p225063 hT275959 htq225061 ht276401 bp225063) dr_cX17_findLive_119 ⟨wr_10_174, wr_1_14, wr_10_177, by decide, rfl, (Nat.le_of_ble_eq_true rfl), (Nat.le_of_ble_eq_true rfl)⟩ wr_10_176 wr_p_96 hm276430 he276431 rfl (show 0 + 0 ≤ 0 by first | omega | decide) (show 0 + 0 ≤ 0 by first | omega | decide) (Nat.le_of_ble_eq_true rfl) (fun r276428 w276429 dc276425 ds276426 hp276427 => ?_) (fun _ _ _ _ _ z => z.elim)
                          obtain ⟨F276481, rfl, rfl, hT276482, hs276483, hdc, hds, x276477, x276478, x276479, ht276480⟩ := hp276427
                          have he276484 : F276481 q225062 = .inr (18, [.ref q271508, .ref q271509, .int p271510, .int p271511]) := (hs276483 q225062 (rT0 htq225062 (by decide)) (rT1 htq225062 (by decide)) (rT2 htq225062 (by decide))).trans he275968
                          have he276485 : F276481 q271508 = .inr (4, [.int p275272, .ref q275274, .int p275273]) := (hs276483 q271508 (rT0 ht271512 (by decide)) (rT1 ht271512 (by decide)) (rT2 ht271512 (by decide))).trans he275969
                          have he276486 : F276481 q275274 = .inl (I (.object "java/lang/Object"), n275288, .inr (.inr (.inr (.inr f275289)))) := (hs276483 q275274 (rT0 r275280 (by decide)) (rT1 r275280 (by decide)) (rT2 r275280 (by decide))).trans he275970
                          have he276487 : F276481 q275291 = .inr (17, [.ref q275301, .ref q275302, .int p275303, .int p275304]) := (hs276483 q275291 (rT0 ht275297 (by decide)) (rT1 ht275297 (by decide)) (rT2 ht275297 (by decide))).trans he275971
                          have he276488 : F276481 q275301 = .inr (4, [.int p276379, .ref q276381, .int p276380]) := (hs276483 q275301 (rT0 ht275305 (by decide)) (rT1 ht275305 (by decide)) (rT2 ht275305 (by decide))).trans he276378
                          have he276489 : F276481 q276381 = .inl (I (.object "java/lang/Object"), n276395, .inr (.inr (.inr (.inr f276396)))) := (hs276483 q276381 (rT0 r276387 (by decide)) (rT1 r276387 (by decide)) (rT2 r276387 (by decide))).trans r276389
                          have he276490 : F276481 q276398 = .inr (20, [.int p276412, .int p276413, .int p276414, .int p276415, .int p276416, .int p276417, .int p276418]) := (hs276483 q276398 (rT0 ht276401 (by decide)) (rT1 ht276401 (by decide)) (rT2 ht276401 (by decide))).trans he276411
                          have hs276491 : rStr γ [] F225060 F276481 := rStr_tr hs275960 hs276483
                          have kp276492 : F276481 q225061 = F225060 q225061 := (x276479).trans x275965
                          have he276493 : F276481 q225061 = .inr (22, [.ref (γ 9 0), .ref (γ 9 1), .ref (γ 9 2), .ref (γ 9 3), .ref (γ 9 4), .ref (γ 9 5), .ref (γ 9 6), .ref (γ 9 7), .ref (γ 9 8), .int p276434, .int p276435, .int p276436, .int p276437, .int p276438, .int p276439, .ref (γ 9 15), .ref (γ 9 16), .ref (γ 9 17), .ref (γ 9 18), .ref (γ 9 19), .ref (γ 9 20), .ref (γ 9 21), .ref (γ 9 22), .int p276440, .int p276441, .int p276442, .int p276443, .int p276444, .ref q276432, .ref (γ 9 29), .int p276445, .ref (γ 9 31), .int p276446, .int p276447, .int p276448, .ref q276433]) := (x276479).trans he276431
                          change G _ _ _ _ _ _ _ _ _ _ _
                          refine G_widen (cs' := 0) (sl' := 0) (by omega) (by omega) ?_
                          obtain ⟨z276494, hz276494⟩ : ∃ z : Int32, z = g275957 + Int32.ofInt (-1) := ⟨_, rfl⟩
                          have ez276494 : z276494.toInt = g275957.toInt + (-1) := gI_inc hz276494 (by decide) bg275957' (by decide) (by decide)
                          have bz276494 : gB z276494 (-1) 999998 := ⟨by omega, by omega⟩
                          refine G_iinc (L' := [(6, .int z276494), (5, .ref q275291), (4, .int g275251), (3, .int g275252), (0, .ref q225061), (1, .ref q225062), (2, .int p225063)]) z276494 0 dr_cX17_findLive_122 rfl hz276494.symm (Nat.le_of_ble_eq_true rfl) rfl ?_
                          refine G_goto 99 dr_cX17_findLive_125 (by decide +kernel) ?_
                          exact ih99_275965 F276481 z276494 (gB_w bz276494 (by decide) (by decide)) hT276482 hs276491 (rLv_tr x275961 x276478) (by rw [show ((((γ 2 (γ 14 q275291) : Nat) : Int) - 1 - z276494.toInt).toNat) = ((((γ 2 (γ 14 q275291) : Nat) : Int) - 1 - g275957.toInt).toNat) + 1 by omega]; exact tr_b x275962 fl276424 x276477) (by omega) x275964 kp276492 (fun k e1 ht => kt99_275966 k e1 (fun R c1 c2 => c2 F275958 g275957 q275301 q276398 p276380 F276481 z276494 k e1 bg275957 hT275959 hs275960 x275961 x275962 x275963 x275964 x275965 r276375 fq276376 hx276399 fq276403 ht276409 hT276482 hs276483 x276477 x276478 x276479 ht276480 ez276494 (ht R c1 c2))) (by omega)
                    exact hlp99_275965 (((z275432.toInt : Int) - (-2)).toNat + 1) F275404 z275432 bz275432 hT275405 hs275411 (rLv_tr x275380 x275401) (by rw [show ((((γ 2 (γ 14 q275291) : Nat) : Int) - 1 - z275432.toInt).toNat) = 0 by omega]; exact tr_0 (fun k hk => by have q := x275379 k hk; rw [ht275311.2.1, fl275322, fl275321] at q; rw [q, ht275311.2.1]; exact bhV_c ⟨by omega, by omega⟩ ⟨by omega, by omega⟩ (fun i hi => (lvM_e hi hk).symm)) fl275394 x275400) (by omega) fl275326 kp275412 (fun k e1 ht => ht) (Nat.lt_succ_self _)
              exact hlp58_275259 (((z274026.toInt : Int) - (-2)).toNat + 1) F274007 z274026 0 bz274026 (gB_w (gBl (show Int32.toInt 0 = 0 by decide)) (by decide) (by decide)) hT274008 hs274009 x274010 (by have qa : Int32.toInt 0 = 0 := (by decide); rw [qa]; exact Nat.le_refl _) (by have qa0 : Int32.toInt 0 = 0 := (by decide); omega) x274011 (fun k e1 e2 ht => ht) (Nat.lt_succ_self _)
        exact hlp44_274011 (((81920 - lvT γ F271498) + (1 : Int).toNat) + 1) F271498 1 (gB_w (gBl (show Int32.toInt 1 = 1 by decide)) (by decide) (by decide)) hT271499 hs271500 (rJv_0 (fun i hi j hj => x271501 i (by omega) j hj)) x271502 (fun k e1 ht => ht) (Nat.lt_succ_self _)
      · have r276495 : g271497.toInt < p271511.toInt := gC_nle hc271534
        have bg271497' : gB g271497 0 999999 := ⟨by omega, by omega⟩
        have bp271511' : gB p271511 1 1000000 := ⟨by omega, by omega⟩
        refine G_iconst 0 dr_cX17_findLive_10 (by decide +kernel) ?_
        refine G_istore (L' := [(4, .int 0), (3, .int g271497), (0, .ref q225061), (1, .ref q225062), (2, .int p225063)]) dr_cX17_findLive_11 (Nat.le_of_ble_eq_true rfl) rfl ?_
        have hlp13_276582 : ∀ (n13_276582 : Nat) (F276577 : Nat → va_E) (g276576 : Int32), gB g276576 0 32 → RS D I P225059 F276577 γ el → rStr γ [] F225060 F276577 → (∀ i : Nat, (i : Int) < g271497.toInt → ∀ j : Nat, j < 32 → cL (F276577 (γ 10 i)) j = 0) → (∀ j : Nat, (j : Int) < g276576.toInt → cL (F276577 (γ 10 (g271497.toInt : Int).toNat)) j = 0) → (F276577 q225061 = F225060 q225061) → (∀ (k : Nat) (e1 : Nat → va_E), tl_RModel_findLive_13 D I γ el P225059 F225060 g271497 q225061 F276577 g276576 k e1 → tl_RModel_findLive_13 D I γ el P225059 F225060 g271497 q225061 F271498 (0 : Int32) k e1) → ((33 : Int) - g276576.toInt).toNat < n13_276582 → G (gV D I) l (gRm 4 85 0 0) (gMA (gV D I) (pt_225065_SpillForgeModel_findLive D I γ el P225059 F225060 q225061 q225062 p225063) gNA 0 0) ky_225065_SpillForgeModel_findLive 13 [(4, .int g276576), (3, .int g271497), (0, .ref q225061), (1, .ref q225062), (2, .int p225063)] [] (va_pl P225059 F276577) 0 0 := by
          intro n13_276582
          induction n13_276582 with
          | zero => intro F276577 g276576 bg276576 hT276578 hs276579 x276580 x276581 x276582 kt13_276583 hm13_276582; exact absurd hm13_276582 (Nat.not_lt_zero _)
          | succ n13_276582 ih13_276582 =>
            intro F276577 g276576 bg276576 hT276578 hs276579 x276580 x276581 x276582 kt13_276583 hm13_276582
            have hs276584 : rStr γ [] F271498 F276577 := fun b h0 hb hw => (hs276579 b h0 hb hw).trans (hs271500 b h0 hb hw).symm
            have he276585 : F276577 q225062 = .inr (18, [.ref q271508, .ref q271509, .int p271510, .int p271511]) := (hs276584 q225062 (rT0 htq225062 (by decide)) (rT1 htq225062 (by decide)) (rT2 htq225062 (by decide))).trans he271507
            have hs276586 : rStr γ [] F225060 F276577 := rStr_tr hs271500 hs276584
            refine G_iload 0 dr_cX17_findLive_13 rfl ?_
            refine G_bipush 32 dr_cX17_findLive_15 (by decide +kernel) ?_
            refine G_icmp_ge 36 dr_cX17_findLive_17 (by decide +kernel) (fun hc276587 => ?_) (fun hc276587 => ?_)
            · have r276588 : 32 ≤ g276576.toInt := gj_leL hc276587 (show Int32.toInt 32 = 32 by decide)
              have bg276576' : gB g276576 32 32 := ⟨by omega, by omega⟩
              have hx276589 : tl_RModel_findLive_13 D I γ el P225059 F225060 g271497 q225061 F271498 (0 : Int32) 36 F276577 := kt13_276583 36 F276577 (fun R c1 c2 => c1 F276577 g276576 bg276576 hT276578 hs276579 x276580 x276581 x276582 r276588)
              obtain ⟨z276590, hz276590⟩ : ∃ z : Int32, z = g271497 + Int32.ofInt 1 := ⟨_, rfl⟩
              have ez276590 : z276590.toInt = g271497.toInt + 1 := gI_inc hz276590 (by decide) bg271497' (by decide) (by decide)
              have bz276590 : gB z276590 1 1000000 := ⟨by omega, by omega⟩
              refine G_iinc (L' := [(3, .int z276590), (4, .int g276576), (0, .ref q225061), (1, .ref q225062), (2, .int p225063)]) z276590 1 dr_cX17_findLive_36 rfl hz276590.symm (Nat.le_of_ble_eq_true rfl) rfl ?_
              refine G_goto 2 dr_cX17_findLive_39 (by decide +kernel) ?_
              refine G_lv (L' := [(3, .int z276590), (0, .ref q225061), (1, .ref q225062), (2, .int p225063)]) [0, 2, 3, 4] rfl ?_
              exact ih2_271502 F276577 z276590 (gB_w bz276590 (by decide) (by decide)) hT276578 hs276579 (zl_s x276580 x276581 (by omega) ez276590 bg271497'.1) x276582 (fun k e1 ht => kt2_271503 k e1 (fun R c1 c2 => c2 F271498 g271497 p271511 F276577 z276590 k e1 bg271497 hT271499 hs271500 x271501 x271502 fq271528 r276495 hx276589 ez276590 (ht R c1 c2))) (by omega)
            · have r276591 : g276576.toInt < 32 := gj_nleL hc276587 (show Int32.toInt 32 = 32 by decide)
              have bg276576' : gB g276576 0 31 := ⟨by omega, by omega⟩
              refine G_aload_n 2 dr_cX17_findLive_20 rfl ?_
              have hm276592 : q225061 ∈ P225059 := RS_m hT276578 htq225061 (by decide)
              obtain ⟨q276594, q276595, p276596, p276597, p276598, p276599, p276600, p276601, p276602, p276603, p276604, p276605, p276606, p276607, p276608, p276609, p276610, he276593, hB276637, ht276611, ht276612, ht276613, ht276614, ht276615, ht276616, ht276617, ht276618, ht276619, ht276620, ht276621, ht276622, ht276623, ht276624, ht276625, ht276626, ht276627, ht276628, ht276629, ht276630, ht276631, ht276632, ht276633, ht276634, hB276638⟩ := show rk_10 γ (F276577 q225061) from RS_o hT276578 htq225061
              have fq276639 : fR (F276577 q225061) 0 = (γ 9 0) := by rw [he276593]; rfl
              refine Gp_get 0 hm276592 he276593 dr_cX17_findLive_21 (gk_X17 D I) (Nat.le_of_ble_eq_true rfl) wr_7_74 rfl ?_
              refine G_iload_n 1 dr_cX17_findLive_24 rfl ?_
              have hm276640 : (γ 9 0) ∈ P225059 := RS_m hT276578 ht276613 (by decide)
              obtain ⟨f276642, he276641, hg276643⟩ := show rk_12 I γ (F276577 (γ 9 0)) from RS_o hT276578 ht276613
              obtain ⟨q276644, hx276646⟩ : ∃ x, x = γ 10 g271497.toInt.toNat := ⟨_, rfl⟩
              have ht276645 : rKd γ q276644 11 := by rw [hx276646]; exact (hg276643 _ (show g271497.toInt.toNat < 40 by omega)).2.1
              refine Gp_aald 5 hm276640 he276641 dr_cX17_findLive_25 rfl rfl (gB_inr (by omega) (by omega)) ?_
              rw [show f276642 g271497.toNatClampNeg = some q276644 from (hg276643 _ (show g271497.toInt.toNat < 40 by omega)).1.trans (by rw [hx276646])]
              change G _ _ _ _ _ _ _ (.ref q276644 :: _) _ _ _
              refine G_iload 0 dr_cX17_findLive_26 rfl ?_
              refine G_lconst 0 dr_cX17_findLive_28 rfl ?_
              have hm276647 : q276644 ∈ P225059 := RS_m hT276578 ht276645 (by decide)
              obtain ⟨f276649, he276648, wf276649⟩ := show rk_11 I (F276577 q276644) from RS_o hT276578 ht276645
              refine Gp_last 2 hm276647 he276648 dr_cX17_findLive_29 rfl (gB_in bg276576' (by decide) (by decide)) (fun F276650 e276651 n276652 => ?_)
              obtain ⟨f276653, hf276653⟩ : ∃ z, z = vp_updL f276649 g276576.toNatClampNeg 0 := ⟨_, rfl⟩
              rw [← hf276653] at e276651
              have he276654 : F276650 q225062 = .inr (18, [.ref q271508, .ref q271509, .int p271510, .int p271511]) := (n276652 q225062 (rn_oa he276585 he276648)).trans he276585
              have he276655 : F276650 q225061 = .inr (22, [.ref (γ 9 0), .ref (γ 9 1), .ref (γ 9 2), .ref (γ 9 3), .ref (γ 9 4), .ref (γ 9 5), .ref (γ 9 6), .ref (γ 9 7), .ref (γ 9 8), .int p276596, .int p276597, .int p276598, .int p276599, .int p276600, .int p276601, .ref (γ 9 15), .ref (γ 9 16), .ref (γ 9 17), .ref (γ 9 18), .ref (γ 9 19), .ref (γ 9 20), .ref (γ 9 21), .ref (γ 9 22), .int p276602, .int p276603, .int p276604, .int p276605, .int p276606, .ref q276594, .ref (γ 9 29), .int p276607, .ref (γ 9 31), .int p276608, .int p276609, .int p276610, .ref q276595]) := (n276652 q225061 (rn_oa he276593 he276648)).trans he276593
              have he276656 : F276650 (γ 9 0) = .inl (I (.array .long), 40, .inr (.inr (.inr (.inr f276642)))) := (n276652 (γ 9 0) (rn_ref_long he276641 he276648)).trans he276641
              have he276657 : F276650 q276644 = .inl (I .long, 32, .inr (.inl f276653)) := e276651
              have hs276658 : rStr γ [] F225060 F276650 := rStr_put hs276579 n276652 ht276645 (by decide)
              have kp276659 : F276650 q225061 = F225060 q225061 := (n276652 q225061 (rn_ty htq225061 ht276645 (by decide))).trans x276582
              have wf276653 : lb_W f276653 (32) (32) (2000) := lb_Wst hf276653 wf276649 (by omega) (lb_Mod0 (by omega) (by omega)) lb_Q0
              obtain ⟨z276660, hz276660⟩ : ∃ z : Int32, z = g276576 + Int32.ofInt 1 := ⟨_, rfl⟩
              have ez276660 : z276660.toInt = g276576.toInt + 1 := gI_inc hz276660 (by decide) bg276576' (by decide) (by decide)
              have bz276660 : gB z276660 1 32 := ⟨by omega, by omega⟩
              refine G_iinc (L' := [(4, .int z276660), (3, .int g271497), (0, .ref q225061), (1, .ref q225062), (2, .int p225063)]) z276660 0 dr_cX17_findLive_30 rfl hz276660.symm (Nat.le_of_ble_eq_true rfl) rfl ?_
              refine G_goto 13 dr_cX17_findLive_33 (by decide +kernel) ?_
              have hT276661 : RS D I P225059 F276650 γ el := RS_set hT276578 n276652 ht276645 (by decide) ⟨f276653, he276657, wf276653⟩
              exact ih13_276582 F276650 z276660 (gB_w bz276660 (by decide) (by decide)) hT276661 hs276658 (zl_r x276580 (fun i hi => n276652 _ (by rw [hx276646]; exact RS_lne hT276661 ht276613 (by omega) (by omega) (by omega)))) (by rw [← hx276646, cL_of he276657]; exact zr_st hf276653 (by have q := x276581; rw [← hx276646, cL_of he276648] at q; exact q) ez276660 bg276576'.1) kp276659 (fun k e1 ht => kt13_276583 k e1 (fun R c1 c2 => c2 F276577 g276576 q276644 f276649 f276653 F276650 z276660 k e1 bg276576 hT276578 hs276579 x276580 x276581 x276582 r276591 fq276639 hx276646 he276648 hf276653 n276652 he276657 ez276660 (ht R c1 c2))) (by omega)
        exact hlp13_276582 (((33 : Int) - 0).toNat + 1) F271498 0 (gB_w (gBl (show Int32.toInt 0 = 0 by decide)) (by decide) (by decide)) hT271499 hs271500 x271501 (fun j hj => absurd hj (by have qa : Int32.toInt 0 = 0 := (by decide); omega)) x271502 (fun k e1 ht => ht) (Nat.lt_succ_self _)
  exact hlp2_271502 (((1000001 : Int) - 0).toNat + 1) F225060 0 (gB_w (gBl (show Int32.toInt 0 = 0 by decide)) (by decide) (by decide)) hT (rStr_rf (γ := γ) (W := []) (F := F225060)) (fun i hi => absurd hi (by have qa : Int32.toInt 0 = 0 := (by decide); omega)) rfl (fun k e1 ht => ht) (Nat.lt_succ_self _)
/- tl_RModel_behind3_33: F, l3; out: F -/
def tl_RModel_behind3_33 (D : va_G) (I : FieldType → ClassId) (γ el : Nat → Nat → Nat) (P : List Nat) (F : Nat → va_E) (q0 : Nat) (q1 : Nat) (l2_1 : Int32) (s1 : Nat → va_E) (s2 : Int32) (k : Nat) (e1 : Nat → va_E) : Prop := ∀ R : (Nat → va_E) → (Int32) → Nat → (Nat → va_E) → Prop,
  (∀ (F_2 : Nat → va_E) (l3_2 : Int32), gB l3_2 0 32 → RS D I P F_2 γ el → rStr γ [] F F_2 → (F_2 q0 = F q0) → (F_2 (γ 9 3) = F (γ 9 3)) → 32 ≤ l3_2.toInt → R F_2 l3_2 66 F_2) →
  (∀ (F_2 : Nat → va_E) (l3_2 : Int32) (x1 : Nat → Int64) (x2 : Int64) (x3 : Int32) (x4 : Int32) (x5 : Int32) (x6 : Nat) (x7 : Nat → Int64) (x8 : Int64) (x9 : Int64) (x10 : Nat → Int64) (x11 : Nat → va_E) (x12 : Int32) (k : Nat) (e1 : Nat → va_E), gB l3_2 0 32 → RS D I P F_2 γ el → rStr γ [] F F_2 → (F_2 q0 = F q0) → (F_2 (γ 9 3) = F (γ 9 3)) → l3_2.toInt < 32 → fR (F_2 q0) 2 = (γ 9 2) → F_2 (γ 9 2) = .inl (I .long, 32, .inr (.inl x1)) → x2 = x1 l3_2.toNatClampNeg → fR (F_2 q0) 0 = (γ 9 0) → fI (F_2 q1) 2 = x3 → fI (F_2 q1) 3 = x4 → gB x5 0 39 → tr_RBlock_way2 l2_1 x3 x4 x5 → x6 = γ 10 x5.toInt.toNat → F_2 x6 = .inl (I .long, 32, .inr (.inl x7)) → x8 = x7 l3_2.toNatClampNeg → x9 = x2 ||| x8 → x10 = vp_updL x1 l3_2.toNatClampNeg x9 → (∀ b, b ≠ (γ 9 2) → x11 b = F_2 b) → x11 (γ 9 2) = .inl (I .long, 32, .inr (.inl x10)) → x12.toInt = l3_2.toInt + 1 → R x11 x12 k e1 → R F_2 l3_2 k e1) →
  R s1 s2 k e1
/- tl_RModel_behind3_23: F, l2; out: F -/
def tl_RModel_behind3_23 (D : va_G) (I : FieldType → ClassId) (γ el : Nat → Nat → Nat) (P : List Nat) (F : Nat → va_E) (q0 : Nat) (q1 : Nat) (s1 : Nat → va_E) (s2 : Int32) (k : Nat) (e1 : Nat → va_E) : Prop := ∀ R : (Nat → va_E) → (Int32) → Nat → (Nat → va_E) → Prop,
  (∀ (F_1 : Nat → va_E) (l2_1 : Int32) (x1 : Int32) (x2 : Int32) (x3 : Nat) (x4 : Int32) (x5 : Int32), gB l2_1 0 2 → RS D I P F_1 γ el → rStr γ [] F F_1 → (F_1 q0 = F q0) → (F_1 (γ 9 3) = F (γ 9 3)) → fI (F_1 q1) 2 = x1 → fI (F_1 q1) 3 = x2 → fR (F_1 q1) 1 = x3 → fI (F_1 x3) 0 = x4 → gB x5 0 2 → tr_RBlock_ways x1 x2 x4 x5 → x5.toInt ≤ l2_1.toInt → R F_1 l2_1 72 F_1) →
  (∀ (F_1 : Nat → va_E) (l2_1 : Int32) (x1 : Int32) (x2 : Int32) (x3 : Nat) (x4 : Int32) (x5 : Int32) (x6 : Nat → va_E) (x7 : Int32) (k : Nat) (e1 : Nat → va_E), gB l2_1 0 2 → RS D I P F_1 γ el → rStr γ [] F F_1 → (F_1 q0 = F q0) → (F_1 (γ 9 3) = F (γ 9 3)) → fI (F_1 q1) 2 = x1 → fI (F_1 q1) 3 = x2 → fR (F_1 q1) 1 = x3 → fI (F_1 x3) 0 = x4 → gB x5 0 2 → tr_RBlock_ways x1 x2 x4 x5 → l2_1.toInt < x5.toInt → tl_RModel_behind3_33 D I γ el P F q0 q1 l2_1 F_1 (0 : Int32) 66 x6 → x7.toInt = l2_1.toInt + 1 → R x6 x7 k e1 → R F_1 l2_1 k e1) →
  R s1 s2 k e1
/- tl_RModel_behind3_2: F, l2; out: F -/
def tl_RModel_behind3_2 (D : va_G) (I : FieldType → ClassId) (γ el : Nat → Nat → Nat) (P : List Nat) (F : Nat → va_E) (q0 : Nat) (s1 : Nat → va_E) (s2 : Int32) (k : Nat) (e1 : Nat → va_E) : Prop := ∀ R : (Nat → va_E) → (Int32) → Nat → (Nat → va_E) → Prop,
  (∀ (F_1 : Nat → va_E) (l2_1 : Int32), gB l2_1 0 32 → RS D I P F_1 γ el → rStr γ [] F F_1 → (F_1 q0 = F q0) → (F_1 (γ 9 3) = F (γ 9 3)) → 32 ≤ l2_1.toInt → R F_1 l2_1 21 F_1) →
  (∀ (F_1 : Nat → va_E) (l2_1 : Int32) (x1 : Nat → Int64) (x2 : Nat → Int64) (x3 : Nat → va_E) (x4 : Int32) (k : Nat) (e1 : Nat → va_E), gB l2_1 0 32 → RS D I P F_1 γ el → rStr γ [] F F_1 → (F_1 q0 = F q0) → (F_1 (γ 9 3) = F (γ 9 3)) → l2_1.toInt < 32 → fR (F_1 q0) 2 = (γ 9 2) → F_1 (γ 9 2) = .inl (I .long, 32, .inr (.inl x1)) → x2 = vp_updL x1 l2_1.toNatClampNeg 0 → (∀ b, b ≠ (γ 9 2) → x3 b = F_1 b) → x3 (γ 9 2) = .inl (I .long, 32, .inr (.inl x2)) → x4.toInt = l2_1.toInt + 1 → R x3 x4 k e1 → R F_1 l2_1 k e1) →
  R s1 s2 k e1
/- tr_RModel_behind3: F -/
def tr_RModel_behind3 (D : va_G) (I : FieldType → ClassId) (γ el : Nat → Nat → Nat) (P : List Nat) (F : Nat → va_E) (q0 : Nat) (q1 : Nat) (o1 : Nat → va_E) : Prop := ∀ R : (Nat → va_E) → Prop,
  (∀ (x1 : Nat → va_E) (x2 : Nat → va_E), tl_RModel_behind3_2 D I γ el P F q0 F (0 : Int32) 21 x1 → tl_RModel_behind3_23 D I γ el P F q0 q1 x1 (0 : Int32) 72 x2 → R x2) →
  R o1
