theorem dr_cX17_findLive_0 : decode cX17_findLive 0 = .ok (.iconst 0, 1) := by decide +kernel
theorem dr_cX17_findLive_1 : decode cX17_findLive 1 = .ok (.istore_n 3, 1) := by decide +kernel
theorem dr_cX17_findLive_2 : decode cX17_findLive 2 = .ok (.iload_n 3, 1) := by decide +kernel
theorem dr_cX17_findLive_3 : decode cX17_findLive 3 = .ok (.aload_n 1, 1) := by decide +kernel
theorem dr_cX17_findLive_4 : decode cX17_findLive 4 = .ok (.invokevirtual 96, 3) := by decide +kernel
theorem dr_cX17_findLive_7 : decode cX17_findLive 7 = .ok (.if_icmp .ge 35, 3) := by decide +kernel
theorem dr_cX17_findLive_42 : decode cX17_findLive 42 = .ok (.iconst 1, 1) := by decide +kernel
theorem dr_cX17_findLive_43 : decode cX17_findLive 43 = .ok (.istore_n 3, 1) := by decide +kernel
theorem dr_cX17_findLive_44 : decode cX17_findLive 44 = .ok (.iload_n 3, 1) := by decide +kernel
theorem dr_cX17_findLive_45 : decode cX17_findLive 45 = .ok (.ifCond .eq 156, 3) := by decide +kernel
theorem dr_cX17_findLive_201 : decode cX17_findLive 201 = .ok (.return_, 1) := by decide +kernel
theorem dr_cX17_findLive_48 : decode cX17_findLive 48 = .ok (.iconst 0, 1) := by decide +kernel
theorem dr_cX17_findLive_49 : decode cX17_findLive 49 = .ok (.istore_n 3, 1) := by decide +kernel
theorem dr_cX17_findLive_50 : decode cX17_findLive 50 = .ok (.aload_n 1, 1) := by decide +kernel
theorem dr_cX17_findLive_51 : decode cX17_findLive 51 = .ok (.invokevirtual 96, 3) := by decide +kernel
theorem dr_cX17_findLive_54 : decode cX17_findLive 54 = .ok (.iconst 1, 1) := by decide +kernel
theorem dr_cX17_findLive_55 : decode cX17_findLive 55 = .ok (.isub, 1) := by decide +kernel
theorem dr_cX17_findLive_56 : decode cX17_findLive 56 = .ok (.istore 4, 2) := by decide +kernel
theorem dr_cX17_findLive_58 : decode cX17_findLive 58 = .ok (.iload 4, 2) := by decide +kernel
theorem dr_cX17_findLive_60 : decode cX17_findLive 60 = .ok (.ifCond .lt 138, 3) := by decide +kernel
theorem dr_cX17_findLive_198 : decode cX17_findLive 198 = .ok (.goto (-154), 3) := by decide +kernel
theorem dr_cX17_findLive_63 : decode cX17_findLive 63 = .ok (.aload_n 1, 1) := by decide +kernel
theorem dr_cX17_findLive_64 : decode cX17_findLive 64 = .ok (.iload 4, 2) := by decide +kernel
theorem dr_cX17_findLive_66 : decode cX17_findLive 66 = .ok (.invokevirtual 101, 3) := by decide +kernel
theorem dr_cX17_findLive_69 : decode cX17_findLive 69 = .ok (.astore 5, 2) := by decide +kernel
theorem dr_cX17_findLive_71 : decode cX17_findLive 71 = .ok (.aload_n 0, 1) := by decide +kernel
theorem dr_cX17_findLive_72 : decode cX17_findLive 72 = .ok (.aload 5, 2) := by decide +kernel
theorem dr_cX17_findLive_74 : decode cX17_findLive 74 = .ok (.invokevirtual 105, 3) := by decide +kernel
theorem wr_10_158 : (Jvm.Cond.methodLink "SpillForgeModel" (105 : Nat) ({ cls := "SpillForgeModel", name := "behind", desc := "(LSpillForgeModel$Block;)V" } : Jvm.MethodName)) ∈ gw := gw_10 158 rfl rfl
theorem wr_10_161 : (Jvm.Cond.code ({ cls := "SpillForgeModel", name := "behind", desc := "(LSpillForgeModel$Block;)V" } : Jvm.MethodName) prog_14_method_8_code (4 : Nat) (Option.none : Option Jvm.ClassFile.FieldType)) ∈ gw := gw_10 161 rfl rfl
theorem wr_10_160 : (Jvm.Cond.instanceMethod ({ cls := "SpillForgeModel", name := "behind", desc := "(LSpillForgeModel$Block;)V" } : Jvm.MethodName)) ∈ gw := gw_10 160 rfl rfl
theorem wr_p_95 : Cond.selects "SpillForgeModel" ⟨"SpillForgeModel", "behind", "(LSpillForgeModel$Block;)V"⟩ ⟨"SpillForgeModel", "behind", "(LSpillForgeModel$Block;)V"⟩ ∈ gw := gw_p _ 95 rfl rfl rfl
theorem dr_cX17_findLive_77 : decode cX17_findLive 77 = .ok (.aload_n 0, 1) := by decide +kernel
theorem dr_cX17_findLive_78 : decode cX17_findLive 78 = .ok (.aload 5, 2) := by decide +kernel
theorem dr_cX17_findLive_80 : decode cX17_findLive 80 = .ok (.getfield 109, 3) := by decide +kernel
theorem dr_cX17_findLive_83 : decode cX17_findLive 83 = .ok (.iload_n 2, 1) := by decide +kernel
theorem dr_cX17_findLive_84 : decode cX17_findLive 84 = .ok (.invokevirtual 113, 3) := by decide +kernel
theorem wr_10_170 : (Jvm.Cond.methodLink "SpillForgeModel" (113 : Nat) ({ cls := "SpillForgeModel", name := "back", desc := "(LSpillForgeModel$Row;Z)V" } : Jvm.MethodName)) ∈ gw := gw_10 170 rfl rfl
theorem wr_10_173 : (Jvm.Cond.code ({ cls := "SpillForgeModel", name := "back", desc := "(LSpillForgeModel$Row;Z)V" } : Jvm.MethodName) prog_14_method_7_code (4 : Nat) (Option.none : Option Jvm.ClassFile.FieldType)) ∈ gw := gw_10 173 rfl rfl
theorem wr_10_172 : (Jvm.Cond.instanceMethod ({ cls := "SpillForgeModel", name := "back", desc := "(LSpillForgeModel$Row;Z)V" } : Jvm.MethodName)) ∈ gw := gw_10 172 rfl rfl
theorem wr_p_96 : Cond.selects "SpillForgeModel" ⟨"SpillForgeModel", "back", "(LSpillForgeModel$Row;Z)V"⟩ ⟨"SpillForgeModel", "back", "(LSpillForgeModel$Row;Z)V"⟩ ∈ gw := gw_p _ 96 rfl rfl rfl
theorem dr_cX17_findLive_87 : decode cX17_findLive 87 = .ok (.aload 5, 2) := by decide +kernel
theorem dr_cX17_findLive_89 : decode cX17_findLive 89 = .ok (.getfield 117, 3) := by decide +kernel
theorem dr_cX17_findLive_92 : decode cX17_findLive 92 = .ok (.invokevirtual 121, 3) := by decide +kernel
theorem dr_cX17_findLive_95 : decode cX17_findLive 95 = .ok (.iconst 1, 1) := by decide +kernel
theorem dr_cX17_findLive_96 : decode cX17_findLive 96 = .ok (.isub, 1) := by decide +kernel
theorem dr_cX17_findLive_97 : decode cX17_findLive 97 = .ok (.istore 6, 2) := by decide +kernel
theorem dr_cX17_findLive_99 : decode cX17_findLive 99 = .ok (.iload 6, 2) := by decide +kernel
theorem dr_cX17_findLive_101 : decode cX17_findLive 101 = .ok (.ifCond .lt 27, 3) := by decide +kernel
theorem dr_cX17_findLive_128 : decode cX17_findLive 128 = .ok (.iconst 0, 1) := by decide +kernel
theorem dr_cX17_findLive_129 : decode cX17_findLive 129 = .ok (.istore 6, 2) := by decide +kernel
theorem dr_cX17_findLive_131 : decode cX17_findLive 131 = .ok (.iload 6, 2) := by decide +kernel
theorem dr_cX17_findLive_133 : decode cX17_findLive 133 = .ok (.bipush 32, 2) := by decide +kernel
theorem dr_cX17_findLive_135 : decode cX17_findLive 135 = .ok (.if_icmp .ge 57, 3) := by decide +kernel
theorem dr_cX17_findLive_192 : decode cX17_findLive 192 = .ok (.iinc 4 (-1), 3) := by decide +kernel
theorem dr_cX17_findLive_195 : decode cX17_findLive 195 = .ok (.goto (-137), 3) := by decide +kernel
theorem dr_cX17_findLive_138 : decode cX17_findLive 138 = .ok (.iload_n 3, 1) := by decide +kernel
theorem dr_cX17_findLive_139 : decode cX17_findLive 139 = .ok (.ifCond .ne 24, 3) := by decide +kernel
theorem dr_cX17_findLive_163 : decode cX17_findLive 163 = .ok (.iconst 1, 1) := by decide +kernel
theorem dr_cX17_findLive_164 : decode cX17_findLive 164 = .ok (.goto 4, 3) := by decide +kernel
theorem dr_cX17_findLive_168 : decode cX17_findLive 168 = .ok (.istore_n 3, 1) := by decide +kernel
theorem dr_cX17_findLive_169 : decode cX17_findLive 169 = .ok (.aload_n 0, 1) := by decide +kernel
theorem dr_cX17_findLive_170 : decode cX17_findLive 170 = .ok (.getfield 88, 3) := by decide +kernel
theorem dr_cX17_findLive_173 : decode cX17_findLive 173 = .ok (.iload 4, 2) := by decide +kernel
theorem dr_cX17_findLive_175 : decode cX17_findLive 175 = .ok (.aaload, 1) := by decide +kernel
theorem dr_cX17_findLive_176 : decode cX17_findLive 176 = .ok (.iload 6, 2) := by decide +kernel
theorem dr_cX17_findLive_178 : decode cX17_findLive 178 = .ok (.aload_n 0, 1) := by decide +kernel
theorem dr_cX17_findLive_179 : decode cX17_findLive 179 = .ok (.getfield 59, 3) := by decide +kernel
theorem dr_cX17_findLive_182 : decode cX17_findLive 182 = .ok (.iload 6, 2) := by decide +kernel
theorem dr_cX17_findLive_184 : decode cX17_findLive 184 = .ok (.laload, 1) := by decide +kernel
theorem dr_cX17_findLive_185 : decode cX17_findLive 185 = .ok (.lastore, 1) := by decide +kernel
theorem dr_cX17_findLive_186 : decode cX17_findLive 186 = .ok (.iinc 6 1, 3) := by decide +kernel
theorem dr_cX17_findLive_189 : decode cX17_findLive 189 = .ok (.goto (-58), 3) := by decide +kernel
theorem dr_cX17_findLive_142 : decode cX17_findLive 142 = .ok (.aload_n 0, 1) := by decide +kernel
theorem dr_cX17_findLive_143 : decode cX17_findLive 143 = .ok (.getfield 88, 3) := by decide +kernel
theorem dr_cX17_findLive_146 : decode cX17_findLive 146 = .ok (.iload 4, 2) := by decide +kernel
theorem dr_cX17_findLive_148 : decode cX17_findLive 148 = .ok (.aaload, 1) := by decide +kernel
theorem dr_cX17_findLive_149 : decode cX17_findLive 149 = .ok (.iload 6, 2) := by decide +kernel
theorem dr_cX17_findLive_151 : decode cX17_findLive 151 = .ok (.laload, 1) := by decide +kernel
theorem dr_cX17_findLive_152 : decode cX17_findLive 152 = .ok (.aload_n 0, 1) := by decide +kernel
theorem dr_cX17_findLive_153 : decode cX17_findLive 153 = .ok (.getfield 59, 3) := by decide +kernel
theorem dr_cX17_findLive_156 : decode cX17_findLive 156 = .ok (.iload 6, 2) := by decide +kernel
theorem dr_cX17_findLive_158 : decode cX17_findLive 158 = .ok (.laload, 1) := by decide +kernel
theorem dr_cX17_findLive_159 : decode cX17_findLive 159 = .ok (.lcmp, 1) := by decide +kernel
theorem dr_cX17_findLive_160 : decode cX17_findLive 160 = .ok (.ifCond .eq 7, 3) := by decide +kernel
theorem dr_cX17_findLive_167 : decode cX17_findLive 167 = .ok (.iconst 0, 1) := by decide +kernel
theorem dr_cX17_findLive_104 : decode cX17_findLive 104 = .ok (.aload_n 0, 1) := by decide +kernel
theorem dr_cX17_findLive_105 : decode cX17_findLive 105 = .ok (.aload 5, 2) := by decide +kernel
theorem dr_cX17_findLive_107 : decode cX17_findLive 107 = .ok (.getfield 117, 3) := by decide +kernel
theorem dr_cX17_findLive_110 : decode cX17_findLive 110 = .ok (.iload 6, 2) := by decide +kernel
theorem dr_cX17_findLive_112 : decode cX17_findLive 112 = .ok (.invokevirtual 124, 3) := by decide +kernel
theorem dr_cX17_findLive_115 : decode cX17_findLive 115 = .ok (.checkcast 40, 3) := by decide +kernel
theorem dr_cX17_findLive_118 : decode cX17_findLive 118 = .ok (.iload_n 2, 1) := by decide +kernel
theorem dr_cX17_findLive_119 : decode cX17_findLive 119 = .ok (.invokevirtual 113, 3) := by decide +kernel
theorem dr_cX17_findLive_122 : decode cX17_findLive 122 = .ok (.iinc 6 (-1), 3) := by decide +kernel
theorem dr_cX17_findLive_125 : decode cX17_findLive 125 = .ok (.goto (-26), 3) := by decide +kernel
theorem dr_cX17_findLive_10 : decode cX17_findLive 10 = .ok (.iconst 0, 1) := by decide +kernel
theorem dr_cX17_findLive_11 : decode cX17_findLive 11 = .ok (.istore 4, 2) := by decide +kernel
theorem dr_cX17_findLive_13 : decode cX17_findLive 13 = .ok (.iload 4, 2) := by decide +kernel
theorem dr_cX17_findLive_15 : decode cX17_findLive 15 = .ok (.bipush 32, 2) := by decide +kernel
theorem dr_cX17_findLive_17 : decode cX17_findLive 17 = .ok (.if_icmp .ge 19, 3) := by decide +kernel
theorem dr_cX17_findLive_36 : decode cX17_findLive 36 = .ok (.iinc 3 1, 3) := by decide +kernel
theorem dr_cX17_findLive_39 : decode cX17_findLive 39 = .ok (.goto (-37), 3) := by decide +kernel
theorem dr_cX17_findLive_20 : decode cX17_findLive 20 = .ok (.aload_n 0, 1) := by decide +kernel
theorem dr_cX17_findLive_21 : decode cX17_findLive 21 = .ok (.getfield 88, 3) := by decide +kernel
theorem dr_cX17_findLive_24 : decode cX17_findLive 24 = .ok (.iload_n 3, 1) := by decide +kernel
theorem dr_cX17_findLive_25 : decode cX17_findLive 25 = .ok (.aaload, 1) := by decide +kernel
theorem dr_cX17_findLive_26 : decode cX17_findLive 26 = .ok (.iload 4, 2) := by decide +kernel
theorem dr_cX17_findLive_28 : decode cX17_findLive 28 = .ok (.lconst 0, 1) := by decide +kernel
theorem dr_cX17_findLive_29 : decode cX17_findLive 29 = .ok (.lastore, 1) := by decide +kernel
theorem dr_cX17_findLive_30 : decode cX17_findLive 30 = .ok (.iinc 4 1, 3) := by decide +kernel
theorem dr_cX17_findLive_33 : decode cX17_findLive 33 = .ok (.goto (-20), 3) := by decide +kernel
abbrev ky_216104_Block_ways : gKey := (cX12_ways, 1, "SpillForgeModel$Block", (some FieldType.int), [], "ways", fun _ _ => True)
def pp_216104_Block_ways (D : va_G) (I : FieldType → ClassId) (P216090 : List Nat) (F216091 : Nat → va_E) (q216092 : Nat) (q216093 : Nat) (qo216094 : Nat) (p216095 : Int32) (p216096 : Int32) (p216097 : Int32) (p216098 : Int32) (p216099 : Int32) (p216100 : Int32) (p216101 : Int32) (p216102 : Int32) (p216103 : Int32) : Option Value → va_W → Nat → Nat → Prop := fun r w dc ds => ∃ (o216114 : Int32), r = some (.int o216114) ∧ w = va_pl P216090 F216091 ∧ dc ≤ 0 ∧ ds ≤ 0 ∧ gB o216114 0 2 ∧ ((o216114.toInt = 0 ∧ p216097.toInt = 32) ∨ (o216114.toInt = 1 ∧ p216097.toInt ≠ 32 ∧ (p216097.toInt = 30 ∨ p216095.toInt = p216096.toInt)) ∨ (o216114.toInt = 2 ∧ p216097.toInt ≠ 32 ∧ p216097.toInt ≠ 30 ∧ p216095.toInt ≠ p216096.toInt))
set_option maxRecDepth 100000 in
set_option maxHeartbeats 4000000 in
theorem cp_216104_Block_ways (l : Launch) (hl0 : l.stackTraces = false) (D : va_G) (I : FieldType → ClassId) (P216090 : List Nat) (F216091 : Nat → va_E) (q216092 : Nat) (q216093 : Nat) (qo216094 : Nat) (p216095 : Int32) (p216096 : Int32) (p216097 : Int32) (p216098 : Int32) (p216099 : Int32) (p216100 : Int32) (p216101 : Int32) (p216102 : Int32) (p216103 : Int32) (hmq216092 : q216092 ∈ P216090) (hmq216093 : q216093 ∈ P216090) (heq216092 : F216091 q216092 = .inr (17, [.ref qo216094, .ref q216093, .int p216095, .int p216096])) (heq216093 : F216091 q216093 = .inr (20, [.int p216097, .int p216098, .int p216099, .int p216100, .int p216101, .int p216102, .int p216103])) (bp216095 : gB p216095 0 39) (bp216096 : gB p216096 0 39) (bp216097 : gB p216097 0 32) (bp216098 : gB p216098 0 1999) (bp216101 : gB p216101 0 1999) (bp216102 : gB p216102 0 1) (bp216103 : gB p216103 0 1) : CtA (gV D I) l yX12_ways cX12_ways 1 (some FieldType.int) 0 0 0 0 [.ref q216092] (va_pl P216090 F216091) (pp_216104_Block_ways D I P216090 F216091 q216092 q216093 qo216094 p216095 p216096 p216097 p216098 p216099 p216100 p216101 p216102 p216103) gNA := by
  refine CtA_of hl0 (by decide) (Nat.le_of_ble_eq_true rfl) ?_
  have bp216099 := gB_any p216099
  have bp216100 := gB_any p216100
  refine G_aload_n 0 dr_cX12_ways_0 rfl ?_
  refine Gp_get 1 hmq216092 heq216092 dr_cX12_ways_1 (gk_X12 D I) (Nat.le_of_ble_eq_true rfl) wr_9_218 rfl ?_
  refine Gp_get 0 hmq216093 heq216093 dr_cX12_ways_4 (gk_X15 D I) (Nat.le_of_ble_eq_true rfl) wr_9_172 rfl ?_
  refine G_bipush 32 dr_cX12_ways_7 (by decide +kernel) ?_
  refine G_icmp_ne 16 dr_cX12_ways_9 (by decide +kernel) (fun hc216105 => ?_) (fun hc216105 => ?_)
  · have r216106 : p216097.toInt ≠ 32 := gj_neq hc216105 (show Int32.toInt 32 = 32 by decide)
    have bp216097' : gB p216097 0 31 := ⟨by omega, by omega⟩
    refine G_aload_n 0 dr_cX12_ways_16 rfl ?_
    refine Gp_get 1 hmq216092 heq216092 dr_cX12_ways_17 (gk_X12 D I) (Nat.le_of_ble_eq_true rfl) wr_9_218 rfl ?_
    refine Gp_get 0 hmq216093 heq216093 dr_cX12_ways_20 (gk_X15 D I) (Nat.le_of_ble_eq_true rfl) wr_9_172 rfl ?_
    refine G_bipush 30 dr_cX12_ways_23 (by decide +kernel) ?_
    refine G_icmp_eq 39 dr_cX12_ways_25 (by decide +kernel) (fun hc216107 => ?_) (fun hc216107 => ?_)
    · have r216108 : p216097.toInt = 30 := gj_eq hc216107 (show Int32.toInt 30 = 30 by decide)
      have bp216097'' : gB p216097 30 30 := ⟨by omega, by omega⟩
      refine G_iconst 1 dr_cX12_ways_39 (by decide +kernel) ?_
      refine G_goto 44 dr_cX12_ways_40 (by decide +kernel) ?_
      exact G_iretA dr_cX12_ways_44 rfl (Nat.le_of_ble_eq_true rfl) (Nat.le_of_ble_eq_true rfl) ⟨1, rfl, rfl, (Nat.le_of_ble_eq_true rfl), (Nat.le_of_ble_eq_true rfl), (gB_w (gBl (show Int32.toInt 1 = 1 by decide)) (by decide) (by decide)), (by have qa0 : Int32.toInt 1 = 1 := (by decide); omega)⟩
    · have r216109 : p216097.toInt ≠ 30 := gj_neq hc216107 (show Int32.toInt 30 = 30 by decide)
      refine G_aload_n 0 dr_cX12_ways_28 rfl ?_
      refine Gp_get 2 hmq216092 heq216092 dr_cX12_ways_29 (gk_X12 D I) (Nat.le_of_ble_eq_true rfl) wr_9_222 rfl ?_
      refine G_aload_n 0 dr_cX12_ways_32 rfl ?_
      refine Gp_get 3 hmq216092 heq216092 dr_cX12_ways_33 (gk_X12 D I) (Nat.le_of_ble_eq_true rfl) wr_9_226 rfl ?_
      refine G_icmp_ne 43 dr_cX12_ways_36 (by decide +kernel) (fun hc216110 => ?_) (fun hc216110 => ?_)
      · have r216111 : p216095.toInt ≠ p216096.toInt := gC_ne hc216110
        refine G_iconst 2 dr_cX12_ways_43 (by decide +kernel) ?_
        exact G_iretA dr_cX12_ways_44 rfl (Nat.le_of_ble_eq_true rfl) (Nat.le_of_ble_eq_true rfl) ⟨2, rfl, rfl, (Nat.le_of_ble_eq_true rfl), (Nat.le_of_ble_eq_true rfl), (gB_w (gBl (show Int32.toInt 2 = 2 by decide)) (by decide) (by decide)), (by have qa0 : Int32.toInt 2 = 2 := (by decide); omega)⟩
      · have r216112 : p216095.toInt = p216096.toInt := gC_eq hc216110
        refine G_iconst 1 dr_cX12_ways_39 (by decide +kernel) ?_
        refine G_goto 44 dr_cX12_ways_40 (by decide +kernel) ?_
        exact G_iretA dr_cX12_ways_44 rfl (Nat.le_of_ble_eq_true rfl) (Nat.le_of_ble_eq_true rfl) ⟨1, rfl, rfl, (Nat.le_of_ble_eq_true rfl), (Nat.le_of_ble_eq_true rfl), (gB_w (gBl (show Int32.toInt 1 = 1 by decide)) (by decide) (by decide)), (by have qa0 : Int32.toInt 1 = 1 := (by decide); omega)⟩
  · have r216113 : p216097.toInt = 32 := gj_eq hc216105 (show Int32.toInt 32 = 32 by decide)
    have bp216097' : gB p216097 32 32 := ⟨by omega, by omega⟩
    refine G_iconst 0 dr_cX12_ways_12 (by decide +kernel) ?_
    refine G_goto 44 dr_cX12_ways_13 (by decide +kernel) ?_
    exact G_iretA dr_cX12_ways_44 rfl (Nat.le_of_ble_eq_true rfl) (Nat.le_of_ble_eq_true rfl) ⟨0, rfl, rfl, (Nat.le_of_ble_eq_true rfl), (Nat.le_of_ble_eq_true rfl), (gB_w (gBl (show Int32.toInt 0 = 0 by decide)) (by decide) (by decide)), (by have qa0 : Int32.toInt 0 = 0 := (by decide); omega)⟩
abbrev ky_216238_Block_way : gKey := (cX12_way, 2, "SpillForgeModel$Block", (some FieldType.int), [], "way", fun _ _ => True)
def pp_216238_Block_way (D : va_G) (I : FieldType → ClassId) (P216223 : List Nat) (F216224 : Nat → va_E) (q216225 : Nat) (q216226 : Nat) (p216227 : Int32) (qo216228 : Nat) (p216229 : Int32) (p216230 : Int32) (p216231 : Int32) (p216232 : Int32) (p216233 : Int32) (p216234 : Int32) (p216235 : Int32) (p216236 : Int32) (p216237 : Int32) : Option Value → va_W → Nat → Nat → Prop := fun r w dc ds => ∃ (o216242 : Int32), r = some (.int o216242) ∧ w = va_pl P216223 F216224 ∧ dc ≤ 0 ∧ ds ≤ 0 ∧ gB o216242 0 39 ∧ ((p216227.toInt = 0 ∧ o216242.toInt = p216229.toInt) ∨ (p216227.toInt ≠ 0 ∧ o216242.toInt = p216230.toInt))
set_option maxRecDepth 100000 in
set_option maxHeartbeats 4000000 in
theorem cp_216238_Block_way (l : Launch) (hl0 : l.stackTraces = false) (D : va_G) (I : FieldType → ClassId) (P216223 : List Nat) (F216224 : Nat → va_E) (q216225 : Nat) (q216226 : Nat) (p216227 : Int32) (qo216228 : Nat) (p216229 : Int32) (p216230 : Int32) (p216231 : Int32) (p216232 : Int32) (p216233 : Int32) (p216234 : Int32) (p216235 : Int32) (p216236 : Int32) (p216237 : Int32) (hmq216225 : q216225 ∈ P216223) (hmq216226 : q216226 ∈ P216223) (heq216225 : F216224 q216225 = .inr (17, [.ref qo216228, .ref q216226, .int p216229, .int p216230])) (heq216226 : F216224 q216226 = .inr (20, [.int p216231, .int p216232, .int p216233, .int p216234, .int p216235, .int p216236, .int p216237])) (bp216229 : gB p216229 0 39) (bp216230 : gB p216230 0 39) (bp216231 : gB p216231 0 32) (bp216232 : gB p216232 0 1999) (bp216235 : gB p216235 0 1999) (bp216236 : gB p216236 0 1) (bp216237 : gB p216237 0 1) : CtA (gV D I) l yX12_way cX12_way 2 (some FieldType.int) 0 0 0 0 [.ref q216225, .int p216227] (va_pl P216223 F216224) (pp_216238_Block_way D I P216223 F216224 q216225 q216226 p216227 qo216228 p216229 p216230 p216231 p216232 p216233 p216234 p216235 p216236 p216237) gNA := by
  refine CtA_of hl0 (by decide) (Nat.le_of_ble_eq_true rfl) ?_
  have bp216227 := gB_any p216227
  have bp216233 := gB_any p216233
  have bp216234 := gB_any p216234
  refine G_iload_n 1 dr_cX12_way_0 rfl ?_
  refine G_if_ne 11 dr_cX12_way_1 (by decide +kernel) (fun hc216239 => ?_) (fun hc216239 => ?_)
  · have r216240 : p216227.toInt ≠ 0 := gj_neq hc216239 (show Int32.toInt 0 = 0 by decide)
    refine G_aload_n 0 dr_cX12_way_11 rfl ?_
    refine Gp_get 3 hmq216225 heq216225 dr_cX12_way_12 (gk_X12 D I) (Nat.le_of_ble_eq_true rfl) wr_9_226 rfl ?_
    exact G_iretA dr_cX12_way_15 rfl (Nat.le_of_ble_eq_true rfl) (Nat.le_of_ble_eq_true rfl) ⟨p216230, rfl, rfl, (Nat.le_of_ble_eq_true rfl), (Nat.le_of_ble_eq_true rfl), bp216230, (by omega)⟩
  · have r216241 : p216227.toInt = 0 := gj_eq hc216239 (show Int32.toInt 0 = 0 by decide)
    have bp216227' : gB p216227 0 0 := ⟨by omega, by omega⟩
    refine G_aload_n 0 dr_cX12_way_4 rfl ?_
    refine Gp_get 2 hmq216225 heq216225 dr_cX12_way_5 (gk_X12 D I) (Nat.le_of_ble_eq_true rfl) wr_9_222 rfl ?_
    refine G_goto 15 dr_cX12_way_8 (by decide +kernel) ?_
    exact G_iretA dr_cX12_way_15 rfl (Nat.le_of_ble_eq_true rfl) (Nat.le_of_ble_eq_true rfl) ⟨p216229, rfl, rfl, (Nat.le_of_ble_eq_true rfl), (Nat.le_of_ble_eq_true rfl), bp216229, (by omega)⟩
abbrev ky_215846_SpillForgeModel_behind : gKey := (cX17_behind, 4, "SpillForgeModel", none, [], "behind", fun _ _ => True)
def pt_215846_SpillForgeModel_behind (D : va_G) (I : FieldType → ClassId) (γ el : Nat → Nat → Nat) (P215842 : List Nat) (F215843 : Nat → va_E) (q215844 : Nat) (q215845 : Nat) : Option Value → va_W → Nat → Nat → Prop := fun r w dc ds => ∃ (F218854 : Nat → va_E), r = none ∧ w = va_pl P215842 F218854 ∧ RS D I P215842 F218854 γ el ∧ rStr γ [] F215843 F218854 ∧ dc ≤ 0 ∧ ds ≤ 0 ∧ (∀ k : Nat, k < 2048 → rbt (cL (F218854 (γ 9 2))) k = bhV (fI (F215843 (γ 15 q215845)) 0).toInt (fI (F215843 q215845) 2).toInt (fI (F215843 q215845) 3).toInt (lvS γ F215843) k) ∧ rLv γ F215843 F218854 ∧ (F218854 q215844 = F215843 q215844)
set_option maxRecDepth 100000 in
set_option maxHeartbeats 4000000 in
theorem ct_215846_SpillForgeModel_behind (l : Launch) (hl0 : l.stackTraces = false) (D : va_G) (I : FieldType → ClassId) (γ el : Nat → Nat → Nat) (P215842 : List Nat) (F215843 : Nat → va_E) (q215844 : Nat) (q215845 : Nat) (hT : RS D I P215842 F215843 γ el) (htq215844 : rKd γ q215844 10) (htq215845 : rKd γ q215845 2) : CtA (gV D I) l yX17_behind cX17_behind 4 none 1 21 0 0 [.ref q215844, .ref q215845] (va_pl P215842 F215843) (pt_215846_SpillForgeModel_behind D I γ el P215842 F215843 q215844 q215845) gNA := by
  refine CtA_of hl0 (by decide) (Nat.le_of_ble_eq_true rfl) ?_
  have hm215847 : q215844 ∈ P215842 := RS_m hT htq215844 (by decide)
  obtain ⟨q215849, q215850, p215851, p215852, p215853, p215854, p215855, p215856, p215857, p215858, p215859, p215860, p215861, p215862, p215863, p215864, p215865, he215848, hB215892, ht215866, ht215867, ht215868, ht215869, ht215870, ht215871, ht215872, ht215873, ht215874, ht215875, ht215876, ht215877, ht215878, ht215879, ht215880, ht215881, ht215882, ht215883, ht215884, ht215885, ht215886, ht215887, ht215888, ht215889, hB215893⟩ := show rk_10 γ (F215843 q215844) from RS_o hT htq215844
  have hm215894 : (γ 9 2) ∈ P215842 := RS_m hT ht215870 (by decide)
  obtain ⟨f215896, he215895, wf215896⟩ := show rk_35 I (F215843 (γ 9 2)) from RS_o hT ht215870
  have hm215897 : q215845 ∈ P215842 := RS_m hT htq215845 (by decide)
  obtain ⟨q215899, q215900, p215901, p215902, he215898, ht215909, ht215903, ht215904, ht215905, ht215906, ht215907, bp215901, bp215902, r215908, r215910, r215911⟩ := show rk_2 γ q215845 (F215843 q215845) from RS_o hT htq215845
  have hm215912 : q215900 ∈ P215842 := RS_m hT ht215905 (by decide)
  obtain ⟨p215914, p215915, p215916, p215917, p215918, p215919, p215920, he215913, bp215914, bp215915, bp215918, bp215919, bp215920, r215921, r215922, r215923, r215924, r215925⟩ := show rk_1 γ q215900 (F215843 q215900) from RS_o hT ht215905
  have bp215916 := gB_any p215916
  have bp215917 := gB_any p215917
  have fe1 : (fI (F215843 q215845) 2).toInt = p215901.toInt := by rw [he215898]; rfl
  have fe2 : (fI (F215843 q215845) 3).toInt = p215902.toInt := by rw [he215898]; rfl
  have fe3 : (fI (F215843 (γ 15 q215845)) 0).toInt = p215914.toInt := by rw [ht215909.2.1, he215913]; rfl
  refine G_iconst 0 dr_cX17_behind_0 (by decide +kernel) ?_
  refine G_istore_n (L' := [(2, .int 0), (0, .ref q215844), (1, .ref q215845)]) dr_cX17_behind_1 (Nat.le_of_ble_eq_true rfl) rfl ?_
  have hlp2_218245 : ∀ (n2_218245 : Nat) (F218240 : Nat → va_E) (g218239 : Int32), gB g218239 0 32 → RS D I P215842 F218240 γ el → rStr γ [] F215843 F218240 → (∀ j : Nat, (j : Int) < g218239.toInt → cL (F218240 (γ 9 2)) j = 0) → rLv γ F215843 F218240 → (F218240 q215844 = F215843 q215844) → ((33 : Int) - g218239.toInt).toNat < n2_218245 → G (gV D I) l (gRm 1 21 0 0) (gMA (gV D I) (pt_215846_SpillForgeModel_behind D I γ el P215842 F215843 q215844 q215845) gNA 0 0) ky_215846_SpillForgeModel_behind 2 [(2, .int g218239), (0, .ref q215844), (1, .ref q215845)] [] (va_pl P215842 F218240) 0 0 := by
    intro n2_218245
    induction n2_218245 with
    | zero => intro F218240 g218239 bg218239 hT218241 hs218242 x218243 x218244 x218245 hm2_218245; exact absurd hm2_218245 (Nat.not_lt_zero _)
    | succ n2_218245 ih2_218245 =>
      intro F218240 g218239 bg218239 hT218241 hs218242 x218243 x218244 x218245 hm2_218245
      have hs218247 : rStr γ [] F215843 F218240 := fun b h0 hb hw => (hs218242 b h0 hb hw).trans ((rStr_rf (γ := γ) (W := []) (F := F215843)) b h0 hb hw).symm
      have he218248 : F218240 q215845 = .inr (17, [.ref q215899, .ref q215900, .int p215901, .int p215902]) := (hs218247 q215845 (rT0 htq215845 (by decide)) (rT1 htq215845 (by decide)) (rT2 htq215845 (by decide))).trans he215898
      have he218249 : F218240 q215900 = .inr (20, [.int p215914, .int p215915, .int p215916, .int p215917, .int p215918, .int p215919, .int p215920]) := (hs218247 q215900 (rT0 ht215905 (by decide)) (rT1 ht215905 (by decide)) (rT2 ht215905 (by decide))).trans he215913
      have hs218250 : rStr γ [] F215843 F218240 := rStr_tr (rStr_rf (γ := γ) (W := []) (F := F215843)) hs218247
      refine G_iload_n 0 dr_cX17_behind_2 rfl ?_
      refine G_bipush 32 dr_cX17_behind_3 (by decide +kernel) ?_
      refine G_icmp_ge 21 dr_cX17_behind_5 (by decide +kernel) (fun hc218251 => ?_) (fun hc218251 => ?_)
      · have r218252 : 32 ≤ g218239.toInt := gj_leL hc218251 (show Int32.toInt 32 = 32 by decide)
        have bg218239' : gB g218239 32 32 := ⟨by omega, by omega⟩
        refine G_iconst 0 dr_cX17_behind_21 (by decide +kernel) ?_
        refine G_istore_n (L' := [(2, .int 0), (0, .ref q215844), (1, .ref q215845)]) dr_cX17_behind_22 (Nat.le_of_ble_eq_true rfl) rfl ?_
        have hlp23_218526 : ∀ (n23_218526 : Nat) (F218520 : Nat → va_E) (g218519 : Int32), gB g218519 0 2 → RS D I P215842 F218520 γ el → rStr γ [] F215843 F218520 → (∀ k : Nat, k < 2048 → rbt (cL (F218520 (γ 9 2))) k = wyV g218519.toInt (fI (F215843 q215845) 2).toInt (fI (F215843 q215845) 3).toInt (lvS γ F215843) k) → rLv γ F215843 F218520 → (g218519.toInt = 0 ∨ ((fI (F215843 (γ 15 q215845)) 0).toInt ≠ 32 ∧ (g218519.toInt = 1 ∨ (g218519.toInt = 2 ∧ (fI (F215843 (γ 15 q215845)) 0).toInt ≠ 30 ∧ (fI (F215843 q215845) 2).toInt ≠ (fI (F215843 q215845) 3).toInt)))) → (F218520 q215844 = F215843 q215844) → ((3 : Int) - g218519.toInt).toNat < n23_218526 → G (gV D I) l (gRm 1 21 0 0) (gMA (gV D I) (pt_215846_SpillForgeModel_behind D I γ el P215842 F215843 q215844 q215845) gNA 0 0) ky_215846_SpillForgeModel_behind 23 [(2, .int g218519), (0, .ref q215844), (1, .ref q215845)] [] (va_pl P215842 F218520) 0 0 := by
          intro n23_218526
          induction n23_218526 with
          | zero => intro F218520 g218519 bg218519 hT218521 hs218522 x218523 x218524 x218525 x218526 hm23_218526; exact absurd hm23_218526 (Nat.not_lt_zero _)
          | succ n23_218526 ih23_218526 =>
            intro F218520 g218519 bg218519 hT218521 hs218522 x218523 x218524 x218525 x218526 hm23_218526
            have hs218528 : rStr γ [] F218240 F218520 := fun b h0 hb hw => (hs218522 b h0 hb hw).trans (hs218242 b h0 hb hw).symm
            have he218529 : F218520 q215845 = .inr (17, [.ref q215899, .ref q215900, .int p215901, .int p215902]) := (hs218528 q215845 (rT0 htq215845 (by decide)) (rT1 htq215845 (by decide)) (rT2 htq215845 (by decide))).trans he218248
            have he218530 : F218520 q215900 = .inr (20, [.int p215914, .int p215915, .int p215916, .int p215917, .int p215918, .int p215919, .int p215920]) := (hs218528 q215900 (rT0 ht215905 (by decide)) (rT1 ht215905 (by decide)) (rT2 ht215905 (by decide))).trans he218249
            have hs218531 : rStr γ [] F215843 F218520 := rStr_tr hs218242 hs218528
            refine G_iload_n 0 dr_cX17_behind_23 rfl ?_
            refine G_aload_n 2 dr_cX17_behind_24 rfl ?_
            refine Gw_callV (As := []) (gV_ok D I) (cp_216104_Block_ways l hl0 D I P215842 F218520 q215845 q215900 q215899 p215901 p215902 p215914 p215915 p215916 p215917 p215918 p215919 p215920 hm215897 hm215912 he218529 he218530 bp215901 bp215902 bp215914 bp215915 bp215918 bp215919 bp215920) dr_cX17_behind_25 ⟨wr_10_162, wr_1_38, wr_10_165, by decide, rfl, (Nat.le_of_ble_eq_true rfl), (Nat.le_of_ble_eq_true rfl)⟩ wr_10_163 wr_10_164 hm215897 he218529 rfl (show 0 + 0 ≤ 0 by first | omega | decide) (show 0 + 0 ≤ 0 by first | omega | decide) (Nat.le_of_ble_eq_true rfl) (fun r218535 w218536 dc218532 ds218533 hp218534 => ?_) (fun _ _ _ _ _ z => z.elim)
            obtain ⟨o218537, rfl, rfl, hdc, hds, bo218537, x218538⟩ := hp218534
            change G _ _ _ _ _ _ _ (.int o218537 :: _) _ _ _
            refine G_widen (cs' := 0) (sl' := 0) (by omega) (by omega) ?_
            refine G_icmp_ge 72 dr_cX17_behind_28 (by decide +kernel) (fun hc218539 => ?_) (fun hc218539 => ?_)
            · have r218540 : o218537.toInt ≤ g218519.toInt := gC_le hc218539
              have hm218541 : q215844 ∈ P215842 := RS_m hT218521 htq215844 (by decide)
              obtain ⟨q218543, q218544, p218545, p218546, p218547, p218548, p218549, p218550, p218551, p218552, p218553, p218554, p218555, p218556, p218557, p218558, p218559, he218542, hB218586, ht218560, ht218561, ht218562, ht218563, ht218564, ht218565, ht218566, ht218567, ht218568, ht218569, ht218570, ht218571, ht218572, ht218573, ht218574, ht218575, ht218576, ht218577, ht218578, ht218579, ht218580, ht218581, ht218582, ht218583, hB218587⟩ := show rk_10 γ (F218520 q215844) from RS_o hT218521 htq215844
              exact G_vretA dr_cX17_behind_72 rfl (Nat.le_of_ble_eq_true rfl) (Nat.le_of_ble_eq_true rfl) ⟨F218520, rfl, rfl, hT218521, hs218522, (Nat.le_of_ble_eq_true rfl), (Nat.le_of_ble_eq_true rfl), (fun k hk => (x218523 k hk).trans (bh_of (by omega))), x218524, x218526⟩
            · have r218588 : g218519.toInt < o218537.toInt := gC_nle hc218539
              have bg218519' : gB g218519 0 1 := ⟨by omega, by omega⟩
              have bo218537' : gB o218537 1 2 := ⟨by omega, by omega⟩
              refine G_iconst 0 dr_cX17_behind_31 (by decide +kernel) ?_
              refine G_istore_n (L' := [(3, .int 0), (2, .int g218519), (0, .ref q215844), (1, .ref q215845)]) dr_cX17_behind_32 (Nat.le_of_ble_eq_true rfl) rfl ?_
              have hlp33_218694 : ∀ (n33_218694 : Nat) (F218688 : Nat → va_E) (g218687 : Int32), gB g218687 0 32 → RS D I P215842 F218688 γ el → rStr γ [] F215843 F218688 → (∀ k : Nat, k < 2048 → rbt (cL (F218688 (γ 9 2))) k = if (k : Int) < 64 * g218687.toInt then wyV (g218519.toInt + 1) (fI (F215843 q215845) 2).toInt (fI (F215843 q215845) 3).toInt (lvS γ F215843) k else wyV g218519.toInt (fI (F215843 q215845) 2).toInt (fI (F215843 q215845) 3).toInt (lvS γ F215843) k) → rLv γ F215843 F218688 → ((g218519.toInt = 0 ∧ (fI (F215843 (γ 15 q215845)) 0).toInt ≠ 32) ∨ (g218519.toInt = 1 ∧ (fI (F215843 (γ 15 q215845)) 0).toInt ≠ 32 ∧ (fI (F215843 (γ 15 q215845)) 0).toInt ≠ 30 ∧ (fI (F215843 q215845) 2).toInt ≠ (fI (F215843 q215845) 3).toInt)) → (F218688 q215844 = F215843 q215844) → ((33 : Int) - g218687.toInt).toNat < n33_218694 → G (gV D I) l (gRm 1 21 0 0) (gMA (gV D I) (pt_215846_SpillForgeModel_behind D I γ el P215842 F215843 q215844 q215845) gNA 0 0) ky_215846_SpillForgeModel_behind 33 [(3, .int g218687), (2, .int g218519), (0, .ref q215844), (1, .ref q215845)] [] (va_pl P215842 F218688) 0 0 := by
                intro n33_218694
                induction n33_218694 with
                | zero => intro F218688 g218687 bg218687 hT218689 hs218690 x218691 x218692 x218693 x218694 hm33_218694; exact absurd hm33_218694 (Nat.not_lt_zero _)
                | succ n33_218694 ih33_218694 =>
                  intro F218688 g218687 bg218687 hT218689 hs218690 x218691 x218692 x218693 x218694 hm33_218694
                  have hs218696 : rStr γ [] F218520 F218688 := fun b h0 hb hw => (hs218690 b h0 hb hw).trans (hs218522 b h0 hb hw).symm
                  have he218697 : F218688 q215845 = .inr (17, [.ref q215899, .ref q215900, .int p215901, .int p215902]) := (hs218696 q215845 (rT0 htq215845 (by decide)) (rT1 htq215845 (by decide)) (rT2 htq215845 (by decide))).trans he218529
                  have he218698 : F218688 q215900 = .inr (20, [.int p215914, .int p215915, .int p215916, .int p215917, .int p215918, .int p215919, .int p215920]) := (hs218696 q215900 (rT0 ht215905 (by decide)) (rT1 ht215905 (by decide)) (rT2 ht215905 (by decide))).trans he218530
                  have hs218699 : rStr γ [] F215843 F218688 := rStr_tr hs218522 hs218696
                  refine G_iload_n 0 dr_cX17_behind_33 rfl ?_
                  refine G_bipush 32 dr_cX17_behind_34 (by decide +kernel) ?_
                  refine G_icmp_ge 66 dr_cX17_behind_36 (by decide +kernel) (fun hc218700 => ?_) (fun hc218700 => ?_)
                  · have r218701 : 32 ≤ g218687.toInt := gj_leL hc218700 (show Int32.toInt 32 = 32 by decide)
                    have bg218687' : gB g218687 32 32 := ⟨by omega, by omega⟩
                    obtain ⟨z218702, hz218702⟩ : ∃ z : Int32, z = g218519 + Int32.ofInt 1 := ⟨_, rfl⟩
                    have ez218702 : z218702.toInt = g218519.toInt + 1 := gI_inc hz218702 (by decide) bg218519' (by decide) (by decide)
                    have bz218702 : gB z218702 1 2 := ⟨by omega, by omega⟩
                    refine G_iinc (L' := [(2, .int z218702), (3, .int g218687), (0, .ref q215844), (1, .ref q215845)]) z218702 1 dr_cX17_behind_66 rfl hz218702.symm (Nat.le_of_ble_eq_true rfl) rfl ?_
                    refine G_goto 23 dr_cX17_behind_69 (by decide +kernel) ?_
                    refine G_lv (L' := [(2, .int z218702), (0, .ref q215844), (1, .ref q215845)]) [0, 2, 3] rfl ?_
                    exact ih23_218526 F218688 z218702 (gB_w bz218702 (by decide) (by decide)) hT218689 hs218690 (fun k hk => by have q := x218691 k hk; rw [if_pos (by omega)] at q; rw [ez218702]; exact q) x218692 (by rw [show fI (F215843 q215845) 2 = p215901 from by rw [he215898]; rfl, show fI (F215843 q215845) 3 = p215902 from by rw [he215898]; rfl] <;> (omega)) x218694 (by omega)
                  · have r218703 : g218687.toInt < 32 := gj_nleL hc218700 (show Int32.toInt 32 = 32 by decide)
                    have bg218687' : gB g218687 0 31 := ⟨by omega, by omega⟩
                    refine G_aload_n 2 dr_cX17_behind_39 rfl ?_
                    have hm218704 : q215844 ∈ P215842 := RS_m hT218689 htq215844 (by decide)
                    obtain ⟨q218706, q218707, p218708, p218709, p218710, p218711, p218712, p218713, p218714, p218715, p218716, p218717, p218718, p218719, p218720, p218721, p218722, he218705, hB218749, ht218723, ht218724, ht218725, ht218726, ht218727, ht218728, ht218729, ht218730, ht218731, ht218732, ht218733, ht218734, ht218735, ht218736, ht218737, ht218738, ht218739, ht218740, ht218741, ht218742, ht218743, ht218744, ht218745, ht218746, hB218750⟩ := show rk_10 γ (F218688 q215844) from RS_o hT218689 htq215844
                    refine Gp_get 2 hm218704 he218705 dr_cX17_behind_40 (gk_X17 D I) (Nat.le_of_ble_eq_true rfl) wr_7_76 rfl ?_
                    refine G_iload_n 0 dr_cX17_behind_43 rfl ?_
                    refine G_dup2_11 dr_cX17_behind_44 rfl rfl ?_
                    have hm218751 : (γ 9 2) ∈ P215842 := RS_m hT218689 ht218727 (by decide)
                    obtain ⟨f218753, he218752, wf218753⟩ := show rk_35 I (F218688 (γ 9 2)) from RS_o hT218689 ht218727
                    refine Gp_lald 2 hm218751 he218752 dr_cX17_behind_45 rfl (gB_in bg218687' (by decide) (by decide)) (G_namL fun u218754 hu218754 => ?_)
                    have qu218754 : lb_Q u218754 (2000 - 64 * g218687.toInt) := lb_Wld hu218754 wf218753 (by omega) (by omega) (lb_Mod0 (by omega) (by omega))
                    refine G_aload_n 2 dr_cX17_behind_46 rfl ?_
                    refine Gp_get 0 hm218704 he218705 dr_cX17_behind_47 (gk_X17 D I) (Nat.le_of_ble_eq_true rfl) wr_7_74 rfl ?_
                    refine G_aload_n 3 dr_cX17_behind_50 rfl ?_
                    refine G_iload_n 1 dr_cX17_behind_51 rfl ?_
                    refine Gw_callV (As := [.int g218519]) (gV_ok D I) (cp_216238_Block_way l hl0 D I P215842 F218688 q215845 q215900 g218519 q215899 p215901 p215902 p215914 p215915 p215916 p215917 p215918 p215919 p215920 hm215897 hm215912 he218697 he218698 bp215901 bp215902 bp215914 bp215915 bp215918 bp215919 bp215920) dr_cX17_behind_52 ⟨wr_10_166, wr_1_38, wr_10_169, by decide, rfl, (Nat.le_of_ble_eq_true rfl), (Nat.le_of_ble_eq_true rfl)⟩ wr_10_167 wr_10_168 hm215897 he218697 rfl (show 0 + 0 ≤ 0 by first | omega | decide) (show 0 + 0 ≤ 0 by first | omega | decide) (Nat.le_of_ble_eq_true rfl) (fun r218758 w218759 dc218755 ds218756 hp218757 => ?_) (fun _ _ _ _ _ z => z.elim)
                    obtain ⟨o218760, rfl, rfl, hdc, hds, bo218760, x218761⟩ := hp218757
                    change G _ _ _ _ _ _ _ (.int o218760 :: _) _ _ _
                    refine G_widen (cs' := 0) (sl' := 0) (by omega) (by omega) ?_
                    have hm218762 : (γ 9 0) ∈ P215842 := RS_m hT218689 ht218725 (by decide)
                    obtain ⟨f218764, he218763, hg218765⟩ := show rk_12 I γ (F218688 (γ 9 0)) from RS_o hT218689 ht218725
                    obtain ⟨q218766, hx218768⟩ : ∃ x, x = γ 10 o218760.toInt.toNat := ⟨_, rfl⟩
                    have ht218767 : rKd γ q218766 11 := by rw [hx218768]; exact (hg218765 _ (show o218760.toInt.toNat < 40 by omega)).2.1
                    refine Gp_aald 5 hm218762 he218763 dr_cX17_behind_55 rfl rfl (gB_in bo218760 (by decide) (by decide)) ?_
                    rw [show f218764 o218760.toNatClampNeg = some q218766 from (hg218765 _ (show o218760.toInt.toNat < 40 by omega)).1.trans (by rw [hx218768])]
                    change G _ _ _ _ _ _ _ (.ref q218766 :: _) _ _ _
                    refine G_iload_n 0 dr_cX17_behind_56 rfl ?_
                    have hm218769 : q218766 ∈ P215842 := RS_m hT218689 ht218767 (by decide)
                    obtain ⟨f218771, he218770, wf218771⟩ := show rk_11 I (F218688 q218766) from RS_o hT218689 ht218767
                    refine Gp_lald 2 hm218769 he218770 dr_cX17_behind_57 rfl (gB_in bg218687' (by decide) (by decide)) (G_namL fun u218772 hu218772 => ?_)
                    have qu218772 : lb_Q u218772 (2000 - 64 * g218687.toInt) := lb_Wld hu218772 wf218771 (by omega) (by omega) (lb_Mod0 (by omega) (by omega))
                    have hg218773 : ∀ k : Nat, lvS γ F215843 o218760.toInt.toNat k = rbt f218771 k := fun k => by unfold lvS; rw [← x218692 _ (show o218760.toInt.toNat < 40 by omega), ← hx218768, cL_of he218770]
                    refine G_lor dr_cX17_behind_58 (G_namL fun u218774 hu218774 => ?_)
                    have qu218774 : lb_Q u218774 (2000 - 64 * g218687.toInt) := lb_Qor hu218774 qu218754 qu218772
                    refine Gp_last 2 hm218751 he218752 dr_cX17_behind_59 rfl (gB_in bg218687' (by decide) (by decide)) (fun F218775 e218776 n218777 => ?_)
                    obtain ⟨f218778, hf218778⟩ : ∃ z, z = vp_updL f218753 g218687.toNatClampNeg u218774 := ⟨_, rfl⟩
                    rw [← hf218778] at e218776
                    have he218779 : F218775 q215845 = .inr (17, [.ref q215899, .ref q215900, .int p215901, .int p215902]) := (n218777 q215845 (rn_oa he218697 he218752)).trans he218697
                    have he218780 : F218775 q215900 = .inr (20, [.int p215914, .int p215915, .int p215916, .int p215917, .int p215918, .int p215919, .int p215920]) := (n218777 q215900 (rn_oa he218698 he218752)).trans he218698
                    have he218781 : F218775 q215844 = .inr (22, [.ref (γ 9 0), .ref (γ 9 1), .ref (γ 9 2), .ref (γ 9 3), .ref (γ 9 4), .ref (γ 9 5), .ref (γ 9 6), .ref (γ 9 7), .ref (γ 9 8), .int p218708, .int p218709, .int p218710, .int p218711, .int p218712, .int p218713, .ref (γ 9 15), .ref (γ 9 16), .ref (γ 9 17), .ref (γ 9 18), .ref (γ 9 19), .ref (γ 9 20), .ref (γ 9 21), .ref (γ 9 22), .int p218714, .int p218715, .int p218716, .int p218717, .int p218718, .ref q218706, .ref (γ 9 29), .int p218719, .ref (γ 9 31), .int p218720, .int p218721, .int p218722, .ref q218707]) := (n218777 q215844 (rn_oa he218705 he218752)).trans he218705
                    have he218782 : F218775 (γ 9 0) = .inl (I (.array .long), 40, .inr (.inr (.inr (.inr f218764)))) := (n218777 (γ 9 0) (rn_ref_long he218763 he218752)).trans he218763
                    have he218783 : F218775 q218766 = .inl (I .long, 32, .inr (.inl f218771)) := (n218777 q218766 (rn_ty ht218767 ht218727 (by decide))).trans he218770
                    have he218784 : F218775 (γ 9 2) = .inl (I .long, 32, .inr (.inl f218778)) := e218776
                    have hs218785 : rStr γ [] F215843 F218775 := rStr_put hs218690 n218777 ht218727 (by decide)
                    have kp218786 : F218775 q215844 = F215843 q215844 := (n218777 q215844 (rn_ty htq215844 ht218727 (by decide))).trans x218694
                    have wf218778 : lb_W f218778 (32) (32) (2000) := lb_Wst hf218778 wf218753 (by omega) (lb_Mod0 (by omega) (by omega)) qu218774
                    obtain ⟨z218787, hz218787⟩ : ∃ z : Int32, z = g218687 + Int32.ofInt 1 := ⟨_, rfl⟩
                    have ez218787 : z218787.toInt = g218687.toInt + 1 := gI_inc hz218787 (by decide) bg218687' (by decide) (by decide)
                    have bz218787 : gB z218787 1 32 := ⟨by omega, by omega⟩
                    refine G_iinc (L' := [(3, .int z218787), (2, .int g218519), (0, .ref q215844), (1, .ref q215845)]) z218787 0 dr_cX17_behind_60 rfl hz218787.symm (Nat.le_of_ble_eq_true rfl) rfl ?_
                    refine G_goto 33 dr_cX17_behind_63 (by decide +kernel) ?_
                    have hT218788 : RS D I P215842 F218775 γ el := RS_set hT218689 n218777 ht218727 (by decide) ⟨f218778, he218784, wf218778⟩
                    have lv218789 : rLv γ F215843 F218775 := rLv_put hT218689 ht218725 x218692 n218777 ht218727 (by decide)
                    exact ih33_218694 F218775 z218787 (gB_w bz218787 (by decide) (by decide)) hT218788 hs218785 (by rw [cL_of he218784]; exact or_st hu218754 hu218772 (by assumption) hf218778 bg218687'.1 ez218787 (by have q := x218691; rw [cL_of he218752] at q; exact q) (fun k => (wy_s (y := o218760.toInt) (by omega)).trans (by rw [hg218773 k]))) lv218789 (by rw [show fI (F215843 q215845) 2 = p215901 from by rw [he215898]; rfl, show fI (F215843 q215845) 3 = p215902 from by rw [he215898]; rfl] <;> (omega)) kp218786 (by omega)
              exact hlp33_218694 (((33 : Int) - 0).toNat + 1) F218520 0 (gB_w (gBl (show Int32.toInt 0 = 0 by decide)) (by decide) (by decide)) hT218521 hs218522 (fun k hk => by rw [if_neg (by have qa : Int32.toInt 0 = 0 := (by decide); omega)]; exact x218523 k hk) x218524 (by rw [show fI (F215843 q215845) 2 = p215901 from by rw [he215898]; rfl, show fI (F215843 q215845) 3 = p215902 from by rw [he215898]; rfl] <;> (omega)) x218526 (Nat.lt_succ_self _)
        exact hlp23_218526 (((3 : Int) - 0).toNat + 1) F218240 0 (gB_w (gBl (show Int32.toInt 0 = 0 by decide)) (by decide) (by decide)) hT218241 hs218242 (fun k hk => (rbt_z (x218243 _ (by omega))).trans wy_0.symm) x218244 (Or.inl (by decide)) x218245 (Nat.lt_succ_self _)
      · have r218790 : g218239.toInt < 32 := gj_nleL hc218251 (show Int32.toInt 32 = 32 by decide)
        have bg218239' : gB g218239 0 31 := ⟨by omega, by omega⟩
        refine G_aload_n 1 dr_cX17_behind_8 rfl ?_
        have hm218791 : q215844 ∈ P215842 := RS_m hT218241 htq215844 (by decide)
        obtain ⟨q218793, q218794, p218795, p218796, p218797, p218798, p218799, p218800, p218801, p218802, p218803, p218804, p218805, p218806, p218807, p218808, p218809, he218792, hB218836, ht218810, ht218811, ht218812, ht218813, ht218814, ht218815, ht218816, ht218817, ht218818, ht218819, ht218820, ht218821, ht218822, ht218823, ht218824, ht218825, ht218826, ht218827, ht218828, ht218829, ht218830, ht218831, ht218832, ht218833, hB218837⟩ := show rk_10 γ (F218240 q215844) from RS_o hT218241 htq215844
        refine Gp_get 2 hm218791 he218792 dr_cX17_behind_9 (gk_X17 D I) (Nat.le_of_ble_eq_true rfl) wr_7_76 rfl ?_
        refine G_iload_n 0 dr_cX17_behind_12 rfl ?_
        refine G_lconst 0 dr_cX17_behind_13 rfl ?_
        have hm218838 : (γ 9 2) ∈ P215842 := RS_m hT218241 ht218814 (by decide)
        obtain ⟨f218840, he218839, wf218840⟩ := show rk_35 I (F218240 (γ 9 2)) from RS_o hT218241 ht218814
        refine Gp_last 2 hm218838 he218839 dr_cX17_behind_14 rfl (gB_in bg218239' (by decide) (by decide)) (fun F218841 e218842 n218843 => ?_)
        obtain ⟨f218844, hf218844⟩ : ∃ z, z = vp_updL f218840 g218239.toNatClampNeg 0 := ⟨_, rfl⟩
        rw [← hf218844] at e218842
        have he218845 : F218841 q215845 = .inr (17, [.ref q215899, .ref q215900, .int p215901, .int p215902]) := (n218843 q215845 (rn_oa he218248 he218839)).trans he218248
        have he218846 : F218841 q215900 = .inr (20, [.int p215914, .int p215915, .int p215916, .int p215917, .int p215918, .int p215919, .int p215920]) := (n218843 q215900 (rn_oa he218249 he218839)).trans he218249
        have he218847 : F218841 q215844 = .inr (22, [.ref (γ 9 0), .ref (γ 9 1), .ref (γ 9 2), .ref (γ 9 3), .ref (γ 9 4), .ref (γ 9 5), .ref (γ 9 6), .ref (γ 9 7), .ref (γ 9 8), .int p218795, .int p218796, .int p218797, .int p218798, .int p218799, .int p218800, .ref (γ 9 15), .ref (γ 9 16), .ref (γ 9 17), .ref (γ 9 18), .ref (γ 9 19), .ref (γ 9 20), .ref (γ 9 21), .ref (γ 9 22), .int p218801, .int p218802, .int p218803, .int p218804, .int p218805, .ref q218793, .ref (γ 9 29), .int p218806, .ref (γ 9 31), .int p218807, .int p218808, .int p218809, .ref q218794]) := (n218843 q215844 (rn_oa he218792 he218839)).trans he218792
        have he218848 : F218841 (γ 9 2) = .inl (I .long, 32, .inr (.inl f218844)) := e218842
        have hs218849 : rStr γ [] F215843 F218841 := rStr_put hs218242 n218843 ht218814 (by decide)
        have kp218850 : F218841 q215844 = F215843 q215844 := (n218843 q215844 (rn_ty htq215844 ht218814 (by decide))).trans x218245
        have wf218844 : lb_W f218844 (32) (32) (2000) := lb_Wst hf218844 wf218840 (by omega) (lb_Mod0 (by omega) (by omega)) lb_Q0
        obtain ⟨z218851, hz218851⟩ : ∃ z : Int32, z = g218239 + Int32.ofInt 1 := ⟨_, rfl⟩
        have ez218851 : z218851.toInt = g218239.toInt + 1 := gI_inc hz218851 (by decide) bg218239' (by decide) (by decide)
        have bz218851 : gB z218851 1 32 := ⟨by omega, by omega⟩
        refine G_iinc (L' := [(2, .int z218851), (0, .ref q215844), (1, .ref q215845)]) z218851 0 dr_cX17_behind_15 rfl hz218851.symm (Nat.le_of_ble_eq_true rfl) rfl ?_
        refine G_goto 2 dr_cX17_behind_18 (by decide +kernel) ?_
        have hT218852 : RS D I P215842 F218841 γ el := RS_set hT218241 n218843 ht218814 (by decide) ⟨f218844, he218848, wf218844⟩
        have lv218853 : rLv γ F215843 F218841 := rLv_put hT218241 ht218812 x218244 n218843 ht218814 (by decide)
        exact ih2_218245 F218841 z218851 (gB_w bz218851 (by decide) (by decide)) hT218852 hs218849 (by rw [cL_of he218848]; exact zr_st hf218844 (by have q := x218243; rw [cL_of he218839] at q; exact q) ez218851 bg218239'.1) lv218853 kp218850 (by omega)
  exact hlp2_218245 (((33 : Int) - 0).toNat + 1) F215843 0 (gB_w (gBl (show Int32.toInt 0 = 0 by decide)) (by decide) (by decide)) hT (rStr_rf (γ := γ) (W := []) (F := F215843)) (fun j hj => absurd hj (by have qa : Int32.toInt 0 = 0 := (by decide); omega)) (rLv_rf (γ := γ) (F := F215843)) rfl (Nat.lt_succ_self _)
abbrev ky_218861_SpillForgeModel_findLive : gKey := (cX17_findLive, 7, "SpillForgeModel", none, [], "findLive", fun _ _ => True)
def pt_218861_SpillForgeModel_findLive (D : va_G) (I : FieldType → ClassId) (γ el : Nat → Nat → Nat) (P218855 : List Nat) (F218856 : Nat → va_E) (q218857 : Nat) (q218858 : Nat) (p218859 : Int32) : Option Value → va_W → Nat → Nat → Prop := fun r w dc ds => ∃ (F270162 : Nat → va_E), r = none ∧ w = va_pl P218855 F270162 ∧ RS D I P218855 F270162 γ el ∧ rStr γ [] F218856 F270162 ∧ dc ≤ 0 ∧ ds ≤ 0 ∧ (F270162 q218857 = F218856 q218857)
set_option maxRecDepth 100000 in
set_option maxHeartbeats 4000000 in
theorem ct_218861_SpillForgeModel_findLive (l : Launch) (hl0 : l.stackTraces = false) (D : va_G) (I : FieldType → ClassId) (γ el : Nat → Nat → Nat) (P218855 : List Nat) (F218856 : Nat → va_E) (q218857 : Nat) (q218858 : Nat) (p218859 : Int32) (hT : RS D I P218855 F218856 γ el) (htq218857 : rKd γ q218857 10) (htq218858 : rKd γ q218858 9) (bp218859 : gB p218859 0 1) (x218860 : 0 < γ 6 (γ 1 q218858)) : CtA (gV D I) l yX17_findLive cX17_findLive 7 none 4 85 0 0 [.ref q218857, .ref q218858, .int p218859] (va_pl P218855 F218856) (pt_218861_SpillForgeModel_findLive D I γ el P218855 F218856 q218857 q218858 p218859) gNA := by
  refine CtA_of hl0 (by decide) (Nat.le_of_ble_eq_true rfl) ?_
  have hm218862 : q218857 ∈ P218855 := RS_m hT htq218857 (by decide)
  obtain ⟨q218864, q218865, p218866, p218867, p218868, p218869, p218870, p218871, p218872, p218873, p218874, p218875, p218876, p218877, p218878, p218879, p218880, he218863, hB218907, ht218881, ht218882, ht218883, ht218884, ht218885, ht218886, ht218887, ht218888, ht218889, ht218890, ht218891, ht218892, ht218893, ht218894, ht218895, ht218896, ht218897, ht218898, ht218899, ht218900, ht218901, ht218902, ht218903, ht218904, hB218908⟩ := show rk_10 γ (F218856 q218857) from RS_o hT htq218857
  have hm218909 : (γ 9 2) ∈ P218855 := RS_m hT ht218885 (by decide)
  obtain ⟨f218911, he218910, wf218911⟩ := show rk_35 I (F218856 (γ 9 2)) from RS_o hT ht218885
  refine G_iconst 0 dr_cX17_findLive_0 (by decide +kernel) ?_
  refine G_istore_n (L' := [(3, .int 0), (0, .ref q218857), (1, .ref q218858), (2, .int p218859)]) dr_cX17_findLive_1 (Nat.le_of_ble_eq_true rfl) rfl ?_
  have hlp2_265051 : ∀ (n2_265051 : Nat) (F265047 : Nat → va_E) (g265046 : Int32), gB g265046 0 1000000 → RS D I P218855 F265047 γ el → rStr γ [] F218856 F265047 → (∀ i : Nat, (i : Int) < g265046.toInt → ∀ j : Nat, j < 32 → cL (F265047 (γ 10 i)) j = 0) → (F265047 q218857 = F218856 q218857) → ((1000001 : Int) - g265046.toInt).toNat < n2_265051 → G (gV D I) l (gRm 4 85 0 0) (gMA (gV D I) (pt_218861_SpillForgeModel_findLive D I γ el P218855 F218856 q218857 q218858 p218859) gNA 0 0) ky_218861_SpillForgeModel_findLive 2 [(3, .int g265046), (0, .ref q218857), (1, .ref q218858), (2, .int p218859)] [] (va_pl P218855 F265047) 0 0 := by
    intro n2_265051
    induction n2_265051 with
    | zero => intro F265047 g265046 bg265046 hT265048 hs265049 x265050 x265051 hm2_265051; exact absurd hm2_265051 (Nat.not_lt_zero _)
    | succ n2_265051 ih2_265051 =>
      intro F265047 g265046 bg265046 hT265048 hs265049 x265050 x265051 hm2_265051
      have hs265053 : rStr γ [] F218856 F265047 := fun b h0 hb hw => (hs265049 b h0 hb hw).trans ((rStr_rf (γ := γ) (W := []) (F := F218856)) b h0 hb hw).symm
      have hs265054 : rStr γ [] F218856 F265047 := rStr_tr (rStr_rf (γ := γ) (W := []) (F := F218856)) hs265053
      refine G_iload_n 0 dr_cX17_findLive_2 rfl ?_
      refine G_aload_n 2 dr_cX17_findLive_3 rfl ?_
      have hm265055 : q218858 ∈ P218855 := RS_m hT265048 htq218858 (by decide)
      obtain ⟨q265057, q265058, p265059, p265060, he265056, ht265076, ht265061, ht265062, ht265063, ht265064, r265065, r265066, r265067, r265068, r265069, r265070, r265071, r265072, r265073, r265074, r265075⟩ := show rk_9 γ el q218858 (F265047 q218858) from RS_o hT265048 htq218858
      have bp265059 : gB p265059 0 1000000 := ⟨by omega, by omega⟩
      have bp265060 : gB p265060 0 1000000 := ⟨by omega, by omega⟩
      refine Gw_callV (As := []) (gV_ok D I) (cp_12496_Code_size l hl0 D I P218855 F265047 q218858 q265057 q265058 p265059 p265060 hm265055 he265056) dr_cX17_findLive_4 ⟨wr_10_156, wr_1_15, wr_9_127, by decide, rfl, (Nat.le_of_ble_eq_true rfl), (Nat.le_of_ble_eq_true rfl)⟩ wr_9_125 wr_9_126 hm265055 he265056 rfl (show 0 + 0 ≤ 0 by first | omega | decide) (show 0 + 0 ≤ 0 by first | omega | decide) (Nat.le_of_ble_eq_true rfl) (fun r265080 w265081 dc265077 ds265078 hp265079 => ?_) (fun _ _ _ _ _ z => z.elim)
      obtain ⟨rfl, rfl, hdc, hds⟩ := hp265079
      change G _ _ _ _ _ _ _ (.int p265060 :: _) _ _ _
      refine G_widen (cs' := 0) (sl' := 0) (by omega) (by omega) ?_
      refine G_icmp_ge 42 dr_cX17_findLive_7 (by decide +kernel) (fun hc265082 => ?_) (fun hc265082 => ?_)
      · have r265083 : p265060.toInt ≤ g265046.toInt := gC_le hc265082
        refine G_iconst 1 dr_cX17_findLive_42 (by decide +kernel) ?_
        refine G_istore_n (L' := [(3, .int 1), (0, .ref q218857), (1, .ref q218858), (2, .int p218859)]) dr_cX17_findLive_43 (Nat.le_of_ble_eq_true rfl) rfl ?_
        have hlp44_267544 : ∀ (n44_267544 : Nat) (F267540 : Nat → va_E) (g267539 : Int32), gB g267539 0 1 → RS D I P218855 F267540 γ el → rStr γ [] F218856 F267540 → rJv γ el F218856 F267540 q218858 (decide (p218859.toInt = 1)) (γ 6 (γ 1 q218858)) → (F267540 q218857 = F218856 q218857) → ((81920 - lvT γ F267540) + (g267539.toInt : Int).toNat) < n44_267544 → G (gV D I) l (gRm 4 85 0 0) (gMA (gV D I) (pt_218861_SpillForgeModel_findLive D I γ el P218855 F218856 q218857 q218858 p218859) gNA 0 0) ky_218861_SpillForgeModel_findLive 44 [(3, .int g267539), (0, .ref q218857), (1, .ref q218858), (2, .int p218859)] [] (va_pl P218855 F267540) 0 0 := by
          intro n44_267544
          induction n44_267544 with
          | zero => intro F267540 g267539 bg267539 hT267541 hs267542 x267543 x267544 hm44_267544; exact absurd hm44_267544 (Nat.not_lt_zero _)
          | succ n44_267544 ih44_267544 =>
            intro F267540 g267539 bg267539 hT267541 hs267542 x267543 x267544 hm44_267544
            have hs267546 : rStr γ [] F265047 F267540 := fun b h0 hb hw => (hs267542 b h0 hb hw).trans (hs265049 b h0 hb hw).symm
            have he267547 : F267540 q218858 = .inr (18, [.ref q265057, .ref q265058, .int p265059, .int p265060]) := (hs267546 q218858 (rT0 htq218858 (by decide)) (rT1 htq218858 (by decide)) (rT2 htq218858 (by decide))).trans he265056
            have hs267548 : rStr γ [] F218856 F267540 := rStr_tr hs265049 hs267546
            refine G_iload_n 0 dr_cX17_findLive_44 rfl ?_
            refine G_if_eq 201 dr_cX17_findLive_45 (by decide +kernel) (fun hc267549 => ?_) (fun hc267549 => ?_)
            · have r267550 : g267539.toInt = 0 := gj_eq hc267549 (show Int32.toInt 0 = 0 by decide)
              have bg267539' : gB g267539 0 0 := ⟨by omega, by omega⟩
              exact G_vretA dr_cX17_findLive_201 rfl (Nat.le_of_ble_eq_true rfl) (Nat.le_of_ble_eq_true rfl) ⟨F267540, rfl, rfl, hT267541, hs267542, (Nat.le_of_ble_eq_true rfl), (Nat.le_of_ble_eq_true rfl), x267544⟩
            · have r267551 : g267539.toInt ≠ 0 := gj_neq hc267549 (show Int32.toInt 0 = 0 by decide)
              have bg267539' : gB g267539 1 1 := ⟨by omega, by omega⟩
              refine G_iconst 0 dr_cX17_findLive_48 (by decide +kernel) ?_
              refine G_istore_n (L' := [(3, .int 0), (0, .ref q218857), (1, .ref q218858), (2, .int p218859)]) dr_cX17_findLive_49 (Nat.le_of_ble_eq_true rfl) rfl ?_
              refine G_aload_n 2 dr_cX17_findLive_50 rfl ?_
              refine Gw_callV (As := []) (gV_ok D I) (cp_12496_Code_size l hl0 D I P218855 F267540 q218858 q265057 q265058 p265059 p265060 hm265055 he267547) dr_cX17_findLive_51 ⟨wr_10_156, wr_1_15, wr_9_127, by decide, rfl, (Nat.le_of_ble_eq_true rfl), (Nat.le_of_ble_eq_true rfl)⟩ wr_9_125 wr_9_126 hm265055 he267547 rfl (show 0 + 0 ≤ 0 by first | omega | decide) (show 0 + 0 ≤ 0 by first | omega | decide) (Nat.le_of_ble_eq_true rfl) (fun r267555 w267556 dc267552 ds267553 hp267554 => ?_) (fun _ _ _ _ _ z => z.elim)
              obtain ⟨rfl, rfl, hdc, hds⟩ := hp267554
              change G _ _ _ _ _ _ _ (.int p265060 :: _) _ _ _
              refine G_widen (cs' := 0) (sl' := 0) (by omega) (by omega) ?_
              refine G_iconst 1 dr_cX17_findLive_54 (by decide +kernel) ?_
              refine G_isub dr_cX17_findLive_55 (G_nam fun z267557 hz267557 => ?_)
              have ez267557 : z267557.toInt = p265060.toInt - 1 := by rw [gI_sub hz267557 bp265060 (gBl (show Int32.toInt 1 = 1 by decide)) (by decide) (by decide), show Int32.toInt 1 = 1 from by decide]
              have bz267557 : gB z267557 (-1) 999999 := gB_sub (gI_sub hz267557 bp265060 (gBl (show Int32.toInt 1 = 1 by decide)) (by decide) (by decide)) bp265060 (gBl (show Int32.toInt 1 = 1 by decide)) (by decide) (by decide)
              refine G_istore (L' := [(4, .int z267557), (3, .int 0), (0, .ref q218857), (1, .ref q218858), (2, .int p218859)]) dr_cX17_findLive_56 (Nat.le_of_ble_eq_true rfl) rfl ?_
              have hlp58_268783 : ∀ (n58_268783 : Nat) (F268777 : Nat → va_E) (g268775 : Int32) (g268776 : Int32), gB g268775 (-1) 999999 → gB g268776 0 1 → RS D I P218855 F268777 γ el → rStr γ [] F218856 F268777 → rJv γ el F218856 F268777 q218858 (decide (p218859.toInt = 1)) (γ 6 (γ 1 q218858)) → (lvT γ F267540 + (g268776.toInt : Int).toNat ≤ lvT γ F268777) → ((g268775.toInt : Int) < γ 6 (γ 1 q218858)) → (F268777 q218857 = F218856 q218857) → ((g268775.toInt : Int) - (-2)).toNat < n58_268783 → G (gV D I) l (gRm 4 85 0 0) (gMA (gV D I) (pt_218861_SpillForgeModel_findLive D I γ el P218855 F218856 q218857 q218858 p218859) gNA 0 0) ky_218861_SpillForgeModel_findLive 58 [(4, .int g268775), (3, .int g268776), (0, .ref q218857), (1, .ref q218858), (2, .int p218859)] [] (va_pl P218855 F268777) 0 0 := by
                intro n58_268783
                induction n58_268783 with
                | zero => intro F268777 g268775 g268776 bg268775 bg268776 hT268778 hs268779 x268780 x268781 x268782 x268783 hm58_268783; exact absurd hm58_268783 (Nat.not_lt_zero _)
                | succ n58_268783 ih58_268783 =>
                  intro F268777 g268775 g268776 bg268775 bg268776 hT268778 hs268779 x268780 x268781 x268782 x268783 hm58_268783
                  have hs268785 : rStr γ [] F267540 F268777 := fun b h0 hb hw => (hs268779 b h0 hb hw).trans (hs267542 b h0 hb hw).symm
                  have he268786 : F268777 q218858 = .inr (18, [.ref q265057, .ref q265058, .int p265059, .int p265060]) := (hs268785 q218858 (rT0 htq218858 (by decide)) (rT1 htq218858 (by decide)) (rT2 htq218858 (by decide))).trans he267547
                  have hs268787 : rStr γ [] F218856 F268777 := rStr_tr hs267542 hs268785
                  refine G_iload 0 dr_cX17_findLive_58 rfl ?_
                  refine G_if_lt 198 dr_cX17_findLive_60 (by decide +kernel) (fun hc268788 => ?_) (fun hc268788 => ?_)
                  · have r268789 : g268775.toInt < 0 := gj_lt hc268788 (show Int32.toInt 0 = 0 by decide)
                    have bg268775' : gB g268775 (-1) (-1) := ⟨by omega, by omega⟩
                    have lt268790 := lvT_le (γ := γ) (F := F268777)
                    have lt268791 := lvT_le (γ := γ) (F := F267540)
                    refine G_goto 44 dr_cX17_findLive_198 (by decide +kernel) ?_
                    refine G_lv (L' := [(3, .int g268776), (0, .ref q218857), (1, .ref q218858), (2, .int p218859)]) [1, 2, 3, 4] rfl ?_
                    exact ih44_267544 F268777 g268776 bg268776 hT268778 hs268779 x268780 x268783 (by omega)
                  · have r268792 : 0 ≤ g268775.toInt := gj_nlt hc268788 (show Int32.toInt 0 = 0 by decide)
                    have bg268775' : gB g268775 0 999999 := ⟨by omega, by omega⟩
                    refine G_aload_n 3 dr_cX17_findLive_63 rfl ?_
                    refine G_iload 0 dr_cX17_findLive_64 rfl ?_
                    have hm268793 : q265057 ∈ P218855 := RS_m hT268778 ht265061 (by decide)
                    obtain ⟨⟨p268795, p268796, q268797, he268794, r268798, r268799, r268800, r268802⟩, r268801⟩ := show rk_4 D I γ el F268777 q265057 from RS_o hT268778 ht265061
                    have bp268795 := gB_any p268795
                    have bp268796 : gB p268796 0 1000000 := ⟨by omega, by omega⟩
                    obtain ⟨r268803, r268804, n268811, f268812, r268805, r268806, r268807, r268808, r268809, r268810⟩ := rLC_n r268800 (by omega)
                    have hm268813 : q268797 ∈ P218855 := RS_m hT268778 r268803 (by decide)
                    obtain ⟨q268814, hx268815⟩ : ∃ x, x = el q265057 g268775.toInt.toNat := ⟨_, rfl⟩
                    have hx268816 : f268812 g268775.toNatClampNeg = some q268814 := (r268809 _ (show g268775.toInt.toNat < γ 2 q265057 by omega)).trans (by rw [hx268815])
                    have ht268819 : rKd γ q268814 2 := by rw [hx268815]; exact (r265072 _ (by omega)).resolve_right (fun z => absurd z.1 (by omega))
                    have ht268820 : rFm γ q268814 q265057 := by rw [hx268815]; exact (r268801 _ (show g268775.toInt.toNat < γ 2 q265057 by omega)).2.1
                    have hm268821 : q268814 ∈ P218855 := RS_m hT268778 ht268819 (by decide)
                    obtain ⟨q268823, q268824, p268825, p268826, he268822, ht268833, ht268827, ht268828, ht268829, ht268830, ht268831, bp268825, bp268826, r268832, r268834, r268835⟩ := show rk_2 γ q268814 (F268777 q268814) from RS_o hT268778 ht268819
                    refine Gw_callV (As := [.int g268775]) (gV_ok D I) (cp_7737_Code_get l hl0 D I P218855 F268777 q218858 q265057 q268797 g268775 q265058 p265059 p265060 p268795 p268796 f268812 n268811 q268814 q268823 q268824 p268825 p268826 hm265055 hm268793 hm268813 hm268821 he268786 he268794 r268805 he268822 (gB_w bg268775' (by decide) (by decide)) (gB_w bp268796 (by decide) (by decide)) (by omega) (by omega) (by assumption) (by omega)) dr_cX17_findLive_66 ⟨wr_10_157, wr_1_15, wr_10_137, by decide, rfl, (Nat.le_of_ble_eq_true rfl), (Nat.le_of_ble_eq_true rfl)⟩ wr_10_135 wr_10_136 hm265055 he268786 rfl (show 0 + 0 ≤ 0 by first | omega | decide) (show 0 + 0 ≤ 0 by first | omega | decide) (Nat.le_of_ble_eq_true rfl) (fun r268839 w268840 dc268836 ds268837 hp268838 => ?_) (fun _ _ _ _ _ z => z.elim)
                    obtain ⟨rfl, rfl, hdc, hds⟩ := hp268838
                    change G _ _ _ _ _ _ _ (.ref q268814 :: _) _ _ _
                    refine G_widen (cs' := 0) (sl' := 0) (by omega) (by omega) ?_
                    refine G_astore (L' := [(5, .ref q268814), (4, .int g268775), (3, .int g268776), (0, .ref q218857), (1, .ref q218858), (2, .int p218859)]) dr_cX17_findLive_69 (Nat.le_of_ble_eq_true rfl) rfl ?_
                    refine G_aload_n 3 dr_cX17_findLive_71 rfl ?_
                    refine G_aload 0 dr_cX17_findLive_72 rfl ?_
                    have fl268841 : F268777 q268814 = F218856 q268814 := hs268779 q268814 (rT0 ht268819 (by decide)) (rT1 ht268819 (by decide)) (rT2 ht268819 (by decide))
                    have fl268842 : F268777 q268824 = F218856 q268824 := hs268779 q268824 (rT0 ht268829 (by decide)) (rT1 ht268829 (by decide)) (rT2 ht268829 (by decide))
                    have fl268843 : (fI (F218856 q268814) 2).toInt = p268825.toInt := by rw [← fl268841, he268822]; rfl
                    have fl268844 : (fI (F218856 q268814) 3).toInt = p268826.toInt := by rw [← fl268841, he268822]; rfl
                    have fl268845 : γ 2 (γ 14 q268814) = γ 2 q268823 := by rw [ht268833.1]
                    have fl268846 : q268814 = el (γ 14 q218858) (g268775.toInt : Int).toNat := by rw [hx268815, ht265076.1]
                    have hm268852 : q218857 ∈ P218855 := RS_m hT268778 htq218857 (by decide)
                    obtain ⟨q268854, q268855, p268856, p268857, p268858, p268859, p268860, p268861, p268862, p268863, p268864, p268865, p268866, p268867, p268868, p268869, p268870, he268853, hB268897, ht268871, ht268872, ht268873, ht268874, ht268875, ht268876, ht268877, ht268878, ht268879, ht268880, ht268881, ht268882, ht268883, ht268884, ht268885, ht268886, ht268887, ht268888, ht268889, ht268890, ht268891, ht268892, ht268893, ht268894, hB268898⟩ := show rk_10 γ (F268777 q218857) from RS_o hT268778 htq218857
                    refine Gw_callV (As := [.ref q268814]) (gV_ok D I) (ct_215846_SpillForgeModel_behind l hl0 D I γ el P218855 F268777 q218857 q268814 hT268778 htq218857 ht268819) dr_cX17_findLive_74 ⟨wr_10_158, wr_1_14, wr_10_161, by decide, rfl, (Nat.le_of_ble_eq_true rfl), (Nat.le_of_ble_eq_true rfl)⟩ wr_10_160 wr_p_95 hm268852 he268853 rfl (show 0 + 0 ≤ 0 by first | omega | decide) (show 0 + 0 ≤ 0 by first | omega | decide) (Nat.le_of_ble_eq_true rfl) (fun r268850 w268851 dc268847 ds268848 hp268849 => ?_) (fun _ _ _ _ _ z => z.elim)
                    obtain ⟨F268902, rfl, rfl, hT268903, hs268904, hdc, hds, x268899, x268900, x268901⟩ := hp268849
                    have he268905 : F268902 q218858 = .inr (18, [.ref q265057, .ref q265058, .int p265059, .int p265060]) := (hs268904 q218858 (rT0 htq218858 (by decide)) (rT1 htq218858 (by decide)) (rT2 htq218858 (by decide))).trans he268786
                    have he268906 : F268902 q265057 = .inr (4, [.int p268795, .ref q268797, .int p268796]) := (hs268904 q265057 (rT0 ht265061 (by decide)) (rT1 ht265061 (by decide)) (rT2 ht265061 (by decide))).trans he268794
                    have he268907 : F268902 q268797 = .inl (I (.object "java/lang/Object"), n268811, .inr (.inr (.inr (.inr f268812)))) := (hs268904 q268797 (rT0 r268803 (by decide)) (rT1 r268803 (by decide)) (rT2 r268803 (by decide))).trans r268805
                    have he268908 : F268902 q268814 = .inr (17, [.ref q268823, .ref q268824, .int p268825, .int p268826]) := (hs268904 q268814 (rT0 ht268819 (by decide)) (rT1 ht268819 (by decide)) (rT2 ht268819 (by decide))).trans he268822
                    have hs268909 : rStr γ [] F218856 F268902 := rStr_tr hs268779 hs268904
                    have kp268910 : F268902 q218857 = F218856 q218857 := (x268901).trans x268783
                    have he268911 : F268902 q218857 = .inr (22, [.ref (γ 9 0), .ref (γ 9 1), .ref (γ 9 2), .ref (γ 9 3), .ref (γ 9 4), .ref (γ 9 5), .ref (γ 9 6), .ref (γ 9 7), .ref (γ 9 8), .int p268856, .int p268857, .int p268858, .int p268859, .int p268860, .int p268861, .ref (γ 9 15), .ref (γ 9 16), .ref (γ 9 17), .ref (γ 9 18), .ref (γ 9 19), .ref (γ 9 20), .ref (γ 9 21), .ref (γ 9 22), .int p268862, .int p268863, .int p268864, .int p268865, .int p268866, .ref q268854, .ref (γ 9 29), .int p268867, .ref (γ 9 31), .int p268868, .int p268869, .int p268870, .ref q268855]) := (x268901).trans he268853
                    change G _ _ _ _ _ _ _ _ _ _ _
                    refine G_widen (cs' := 0) (sl' := 0) (by omega) (by omega) ?_
                    refine G_aload_n 3 dr_cX17_findLive_77 rfl ?_
                    refine G_aload 0 dr_cX17_findLive_78 rfl ?_
                    refine Gp_get 1 hm268821 he268908 dr_cX17_findLive_80 (gk_X12 D I) (Nat.le_of_ble_eq_true rfl) wr_9_219 rfl ?_
                    refine G_iload_n 5 dr_cX17_findLive_83 rfl ?_
                    have fl268912 : F268902 q268824 = F218856 (γ 15 q268814) := by rw [ht268833.2.1]; exact hs268909 q268824 (rT0 ht268829 (by decide)) (rT1 ht268829 (by decide)) (rT2 ht268829 (by decide))
                    refine Gw_callV (As := [.ref q268824, .int p218859]) (gV_ok D I) (ct_215523_SpillForgeModel_back l hl0 D I γ el P218855 F268902 q218857 q268824 p218859 hT268903 htq218857 ht268829 bp218859) dr_cX17_findLive_84 ⟨wr_10_170, wr_1_14, wr_10_173, by decide, rfl, (Nat.le_of_ble_eq_true rfl), (Nat.le_of_ble_eq_true rfl)⟩ wr_10_172 wr_p_96 hm268852 he268911 rfl (show 0 + 0 ≤ 0 by first | omega | decide) (show 0 + 0 ≤ 0 by first | omega | decide) (Nat.le_of_ble_eq_true rfl) (fun r268916 w268917 dc268913 ds268914 hp268915 => ?_) (fun _ _ _ _ _ z => z.elim)
                    obtain ⟨F268921, rfl, rfl, hT268922, hs268923, hdc, hds, x268918, x268919, x268920⟩ := hp268915
                    have he268924 : F268921 q218858 = .inr (18, [.ref q265057, .ref q265058, .int p265059, .int p265060]) := (hs268923 q218858 (rT0 htq218858 (by decide)) (rT1 htq218858 (by decide)) (rT2 htq218858 (by decide))).trans he268905
                    have he268925 : F268921 q265057 = .inr (4, [.int p268795, .ref q268797, .int p268796]) := (hs268923 q265057 (rT0 ht265061 (by decide)) (rT1 ht265061 (by decide)) (rT2 ht265061 (by decide))).trans he268906
                    have he268926 : F268921 q268797 = .inl (I (.object "java/lang/Object"), n268811, .inr (.inr (.inr (.inr f268812)))) := (hs268923 q268797 (rT0 r268803 (by decide)) (rT1 r268803 (by decide)) (rT2 r268803 (by decide))).trans he268907
                    have he268927 : F268921 q268814 = .inr (17, [.ref q268823, .ref q268824, .int p268825, .int p268826]) := (hs268923 q268814 (rT0 ht268819 (by decide)) (rT1 ht268819 (by decide)) (rT2 ht268819 (by decide))).trans he268908
                    have hs268928 : rStr γ [] F218856 F268921 := rStr_tr hs268909 hs268923
                    have kp268929 : F268921 q218857 = F218856 q218857 := (x268920).trans kp268910
                    have he268930 : F268921 q218857 = .inr (22, [.ref (γ 9 0), .ref (γ 9 1), .ref (γ 9 2), .ref (γ 9 3), .ref (γ 9 4), .ref (γ 9 5), .ref (γ 9 6), .ref (γ 9 7), .ref (γ 9 8), .int p268856, .int p268857, .int p268858, .int p268859, .int p268860, .int p268861, .ref (γ 9 15), .ref (γ 9 16), .ref (γ 9 17), .ref (γ 9 18), .ref (γ 9 19), .ref (γ 9 20), .ref (γ 9 21), .ref (γ 9 22), .int p268862, .int p268863, .int p268864, .int p268865, .int p268866, .ref q268854, .ref (γ 9 29), .int p268867, .ref (γ 9 31), .int p268868, .int p268869, .int p268870, .ref q268855]) := (x268920).trans he268911
                    change G _ _ _ _ _ _ _ _ _ _ _
                    refine G_widen (cs' := 0) (sl' := 0) (by omega) (by omega) ?_
                    refine G_aload 0 dr_cX17_findLive_87 rfl ?_
                    refine Gp_get 0 hm268821 he268927 dr_cX17_findLive_89 (gk_X12 D I) (Nat.le_of_ble_eq_true rfl) wr_9_216 rfl ?_
                    have hm268931 : q268823 ∈ P218855 := RS_m hT268922 ht268827 (by decide)
                    obtain ⟨⟨p268933, p268934, q268935, he268932, r268936, r268937, r268938, r268940⟩, r268939⟩ := show rk_3 D I γ el F268921 q268823 from RS_o hT268922 ht268827
                    have bp268933 := gB_any p268933
                    have bp268934 : gB p268934 0 1000000 := ⟨by omega, by omega⟩
                    refine Gw_callV (As := []) (gV_ok D I) (cp_7_ArrayList_size l hl0 D I P218855 F268921 q268823 p268933 q268935 p268934 hm268931 he268932 (gB_w bp268934 (by decide) (by decide))) dr_cX17_findLive_92 ⟨wr_10_196, wr_1_18, wr_9_156, by decide, rfl, (Nat.le_of_ble_eq_true rfl), (Nat.le_of_ble_eq_true rfl)⟩ wr_9_154 wr_9_155 hm268931 he268932 rfl (show 0 + 0 ≤ 0 by first | omega | decide) (show 0 + 0 ≤ 0 by first | omega | decide) (Nat.le_of_ble_eq_true rfl) (fun r268944 w268945 dc268941 ds268942 hp268943 => ?_) (fun _ _ _ _ _ z => z.elim)
                    obtain ⟨rfl, rfl, hdc, hds⟩ := hp268943
                    change G _ _ _ _ _ _ _ (.int p268934 :: _) _ _ _
                    refine G_widen (cs' := 0) (sl' := 0) (by omega) (by omega) ?_
                    refine G_iconst 1 dr_cX17_findLive_95 (by decide +kernel) ?_
                    refine G_isub dr_cX17_findLive_96 (G_nam fun z268946 hz268946 => ?_)
                    have ez268946 : z268946.toInt = p268934.toInt - 1 := by rw [gI_sub hz268946 bp268934 (gBl (show Int32.toInt 1 = 1 by decide)) (by decide) (by decide), show Int32.toInt 1 = 1 from by decide]
                    have bz268946 : gB z268946 (-1) 999999 := gB_sub (gI_sub hz268946 bp268934 (gBl (show Int32.toInt 1 = 1 by decide)) (by decide) (by decide)) bp268934 (gBl (show Int32.toInt 1 = 1 by decide)) (by decide) (by decide)
                    refine G_istore (L' := [(6, .int z268946), (5, .ref q268814), (4, .int g268775), (3, .int g268776), (0, .ref q218857), (1, .ref q218858), (2, .int p218859)]) dr_cX17_findLive_97 (Nat.le_of_ble_eq_true rfl) rfl ?_
                    have hlp99_269477 : ∀ (n99_269477 : Nat) (F269470 : Nat → va_E) (g269469 : Int32), gB g269469 (-1) 999999 → RS D I P218855 F269470 γ el → rStr γ [] F218856 F269470 → rLv γ F268777 F269470 → (∀ k : Nat, k < 2048 → rbt (cL (F269470 (γ 9 2))) k = trS γ el F218856 (decide (p218859.toInt = 1)) q268814 (lvM γ F268777) ((((γ 2 (γ 14 q268814) : Nat) : Int) - 1 - g269469.toInt).toNat) k) → ((g269469.toInt : Int) < γ 2 (γ 14 q268814)) → (q268814 = el (γ 14 q218858) (g268775.toInt : Int).toNat) → (F269470 q218857 = F218856 q218857) → ((g269469.toInt : Int) - (-2)).toNat < n99_269477 → G (gV D I) l (gRm 4 85 0 0) (gMA (gV D I) (pt_218861_SpillForgeModel_findLive D I γ el P218855 F218856 q218857 q218858 p218859) gNA 0 0) ky_218861_SpillForgeModel_findLive 99 [(6, .int g269469), (5, .ref q268814), (4, .int g268775), (3, .int g268776), (0, .ref q218857), (1, .ref q218858), (2, .int p218859)] [] (va_pl P218855 F269470) 0 0 := by
                      intro n99_269477
                      induction n99_269477 with
                      | zero => intro F269470 g269469 bg269469 hT269471 hs269472 x269473 x269474 x269475 x269476 x269477 hm99_269477; exact absurd hm99_269477 (Nat.not_lt_zero _)
                      | succ n99_269477 ih99_269477 =>
                        intro F269470 g269469 bg269469 hT269471 hs269472 x269473 x269474 x269475 x269476 x269477 hm99_269477
                        have hs269479 : rStr γ [] F268921 F269470 := fun b h0 hb hw => (hs269472 b h0 hb hw).trans (hs268928 b h0 hb hw).symm
                        have he269480 : F269470 q218858 = .inr (18, [.ref q265057, .ref q265058, .int p265059, .int p265060]) := (hs269479 q218858 (rT0 htq218858 (by decide)) (rT1 htq218858 (by decide)) (rT2 htq218858 (by decide))).trans he268924
                        have he269481 : F269470 q265057 = .inr (4, [.int p268795, .ref q268797, .int p268796]) := (hs269479 q265057 (rT0 ht265061 (by decide)) (rT1 ht265061 (by decide)) (rT2 ht265061 (by decide))).trans he268925
                        have he269482 : F269470 q268797 = .inl (I (.object "java/lang/Object"), n268811, .inr (.inr (.inr (.inr f268812)))) := (hs269479 q268797 (rT0 r268803 (by decide)) (rT1 r268803 (by decide)) (rT2 r268803 (by decide))).trans he268926
                        have he269483 : F269470 q268814 = .inr (17, [.ref q268823, .ref q268824, .int p268825, .int p268826]) := (hs269479 q268814 (rT0 ht268819 (by decide)) (rT1 ht268819 (by decide)) (rT2 ht268819 (by decide))).trans he268927
                        have he269484 : F269470 q268823 = .inr (4, [.int p268933, .ref q268935, .int p268934]) := (hs269479 q268823 (rT0 ht268827 (by decide)) (rT1 ht268827 (by decide)) (rT2 ht268827 (by decide))).trans he268932
                        have hs269485 : rStr γ [] F218856 F269470 := rStr_tr hs268928 hs269479
                        refine G_iload 0 dr_cX17_findLive_99 rfl ?_
                        refine G_if_lt 128 dr_cX17_findLive_101 (by decide +kernel) (fun hc269486 => ?_) (fun hc269486 => ?_)
                        · have r269487 : g269469.toInt < 0 := gj_lt hc269486 (show Int32.toInt 0 = 0 by decide)
                          have bg269469' : gB g269469 (-1) (-1) := ⟨by omega, by omega⟩
                          refine G_iconst 0 dr_cX17_findLive_128 (by decide +kernel) ?_
                          refine G_istore (L' := [(6, .int 0), (5, .ref q268814), (4, .int g268775), (3, .int g268776), (0, .ref q218857), (1, .ref q218858), (2, .int p218859)]) dr_cX17_findLive_129 (Nat.le_of_ble_eq_true rfl) rfl ?_
                          have hlp131_269691 : ∀ (n131_269691 : Nat) (F269683 : Nat → va_E) (g269681 : Int32) (g269682 : Int32), gB g269681 0 32 → gB g269682 0 1 → RS D I P218855 F269683 γ el → rStr γ [] F218856 F269683 → (∀ i : Nat, i < 40 → (i : Int) ≠ g268775.toInt → F269683 (γ 10 i) = F268777 (γ 10 i)) → (∀ k : Nat, k < 2048 → rbt (cL (F269683 (γ 9 2))) k = trS γ el F218856 (decide (p218859.toInt = 1)) q268814 (lvM γ F268777) (γ 2 (γ 14 q268814)) k) → (∀ k : Nat, k < 2048 → lvS γ F269683 (g268775.toInt : Int).toNat k = if (k : Int) < 64 * g269681.toInt then trS γ el F218856 (decide (p218859.toInt = 1)) q268814 (lvM γ F268777) (γ 2 (γ 14 q268814)) k else lvS γ F268777 (g268775.toInt : Int).toNat k) → (lvT γ F267540 + (g269682.toInt : Int).toNat ≤ lvT γ F269683) → (q268814 = el (γ 14 q218858) (g268775.toInt : Int).toNat) → (F269683 q218857 = F218856 q218857) → ((33 : Int) - g269681.toInt).toNat < n131_269691 → G (gV D I) l (gRm 4 85 0 0) (gMA (gV D I) (pt_218861_SpillForgeModel_findLive D I γ el P218855 F218856 q218857 q218858 p218859) gNA 0 0) ky_218861_SpillForgeModel_findLive 131 [(6, .int g269681), (5, .ref q268814), (4, .int g268775), (3, .int g269682), (0, .ref q218857), (1, .ref q218858), (2, .int p218859)] [] (va_pl P218855 F269683) 0 0 := by
                            intro n131_269691
                            induction n131_269691 with
                            | zero => intro F269683 g269681 g269682 bg269681 bg269682 hT269684 hs269685 x269686 x269687 x269688 x269689 x269690 x269691 hm131_269691; exact absurd hm131_269691 (Nat.not_lt_zero _)
                            | succ n131_269691 ih131_269691 =>
                              intro F269683 g269681 g269682 bg269681 bg269682 hT269684 hs269685 x269686 x269687 x269688 x269689 x269690 x269691 hm131_269691
                              have hs269693 : rStr γ [] F269470 F269683 := fun b h0 hb hw => (hs269685 b h0 hb hw).trans (hs269472 b h0 hb hw).symm
                              have he269694 : F269683 q218858 = .inr (18, [.ref q265057, .ref q265058, .int p265059, .int p265060]) := (hs269693 q218858 (rT0 htq218858 (by decide)) (rT1 htq218858 (by decide)) (rT2 htq218858 (by decide))).trans he269480
                              have he269695 : F269683 q265057 = .inr (4, [.int p268795, .ref q268797, .int p268796]) := (hs269693 q265057 (rT0 ht265061 (by decide)) (rT1 ht265061 (by decide)) (rT2 ht265061 (by decide))).trans he269481
                              have he269696 : F269683 q268797 = .inl (I (.object "java/lang/Object"), n268811, .inr (.inr (.inr (.inr f268812)))) := (hs269693 q268797 (rT0 r268803 (by decide)) (rT1 r268803 (by decide)) (rT2 r268803 (by decide))).trans he269482
                              have he269697 : F269683 q268814 = .inr (17, [.ref q268823, .ref q268824, .int p268825, .int p268826]) := (hs269693 q268814 (rT0 ht268819 (by decide)) (rT1 ht268819 (by decide)) (rT2 ht268819 (by decide))).trans he269483
                              have hs269698 : rStr γ [] F218856 F269683 := rStr_tr hs269472 hs269693
                              refine G_iload 0 dr_cX17_findLive_131 rfl ?_
                              refine G_bipush 32 dr_cX17_findLive_133 (by decide +kernel) ?_
                              refine G_icmp_ge 192 dr_cX17_findLive_135 (by decide +kernel) (fun hc269699 => ?_) (fun hc269699 => ?_)
                              · have r269700 : 32 ≤ g269681.toInt := gj_leL hc269699 (show Int32.toInt 32 = 32 by decide)
                                have bg269681' : gB g269681 32 32 := ⟨by omega, by omega⟩
                                obtain ⟨z269701, hz269701⟩ : ∃ z : Int32, z = g268775 + Int32.ofInt (-1) := ⟨_, rfl⟩
                                have ez269701 : z269701.toInt = g268775.toInt + (-1) := gI_inc hz269701 (by decide) bg268775' (by decide) (by decide)
                                have bz269701 : gB z269701 (-1) 999998 := ⟨by omega, by omega⟩
                                refine G_iinc (L' := [(4, .int z269701), (6, .int g269681), (5, .ref q268814), (3, .int g269682), (0, .ref q218857), (1, .ref q218858), (2, .int p218859)]) z269701 2 dr_cX17_findLive_192 rfl hz269701.symm (Nat.le_of_ble_eq_true rfl) rfl ?_
                                refine G_goto 58 dr_cX17_findLive_195 (by decide +kernel) ?_
                                refine G_lv (L' := [(4, .int z269701), (3, .int g269682), (0, .ref q218857), (1, .ref q218858), (2, .int p218859)]) [0, 3, 4, 5, 6] rfl ?_
                                exact ih58_268783 F269683 z269701 g269682 (gB_w bz269701 (by decide) (by decide)) bg269682 hT269684 hs269685 (rJv_s x268780 (i0 := g268775.toInt.toNat) (by omega) (by omega) (fun i hi hne => x269686 i hi (by omega)) (fun k hk => by have q := x269688 k hk; rw [if_pos (by omega)] at q; rw [q, ← x269690])) (by have q := x269689; omega) (by omega) x269691 (by omega)
                              · have r269702 : g269681.toInt < 32 := gj_nleL hc269699 (show Int32.toInt 32 = 32 by decide)
                                have bg269681' : gB g269681 0 31 := ⟨by omega, by omega⟩
                                refine G_iload_n 3 dr_cX17_findLive_138 rfl ?_
                                refine G_if_ne 163 dr_cX17_findLive_139 (by decide +kernel) (fun hc269703 => ?_) (fun hc269703 => ?_)
                                · have r269704 : g269682.toInt ≠ 0 := gj_neq hc269703 (show Int32.toInt 0 = 0 by decide)
                                  have bg269682' : gB g269682 1 1 := ⟨by omega, by omega⟩
                                  refine G_iconst 1 dr_cX17_findLive_163 (by decide +kernel) ?_
                                  refine G_goto 168 dr_cX17_findLive_164 (by decide +kernel) ?_
                                  refine G_istore_n (L' := [(3, .int 1), (6, .int g269681), (5, .ref q268814), (4, .int g268775), (0, .ref q218857), (1, .ref q218858), (2, .int p218859)]) dr_cX17_findLive_168 (Nat.le_of_ble_eq_true rfl) rfl ?_
                                  refine G_aload_n 4 dr_cX17_findLive_169 rfl ?_
                                  have hm269705 : q218857 ∈ P218855 := RS_m hT269684 htq218857 (by decide)
                                  obtain ⟨q269707, q269708, p269709, p269710, p269711, p269712, p269713, p269714, p269715, p269716, p269717, p269718, p269719, p269720, p269721, p269722, p269723, he269706, hB269750, ht269724, ht269725, ht269726, ht269727, ht269728, ht269729, ht269730, ht269731, ht269732, ht269733, ht269734, ht269735, ht269736, ht269737, ht269738, ht269739, ht269740, ht269741, ht269742, ht269743, ht269744, ht269745, ht269746, ht269747, hB269751⟩ := show rk_10 γ (F269683 q218857) from RS_o hT269684 htq218857
                                  refine Gp_get 0 hm269705 he269706 dr_cX17_findLive_170 (gk_X17 D I) (Nat.le_of_ble_eq_true rfl) wr_7_74 rfl ?_
                                  refine G_iload 3 dr_cX17_findLive_173 rfl ?_
                                  have hm269752 : (γ 9 0) ∈ P218855 := RS_m hT269684 ht269726 (by decide)
                                  obtain ⟨f269754, he269753, hg269755⟩ := show rk_12 I γ (F269683 (γ 9 0)) from RS_o hT269684 ht269726
                                  obtain ⟨q269756, hx269758⟩ : ∃ x, x = γ 10 g268775.toInt.toNat := ⟨_, rfl⟩
                                  have ht269757 : rKd γ q269756 11 := by rw [hx269758]; exact (hg269755 _ (show g268775.toInt.toNat < 40 by omega)).2.1
                                  refine Gp_aald 5 hm269752 he269753 dr_cX17_findLive_175 rfl rfl (gB_inr (by omega) (by omega)) ?_
                                  rw [show f269754 g268775.toNatClampNeg = some q269756 from (hg269755 _ (show g268775.toInt.toNat < 40 by omega)).1.trans (by rw [hx269758])]
                                  change G _ _ _ _ _ _ _ (.ref q269756 :: _) _ _ _
                                  refine G_iload 1 dr_cX17_findLive_176 rfl ?_
                                  refine G_aload_n 4 dr_cX17_findLive_178 rfl ?_
                                  refine Gp_get 2 hm269705 he269706 dr_cX17_findLive_179 (gk_X17 D I) (Nat.le_of_ble_eq_true rfl) wr_7_76 rfl ?_
                                  refine G_iload 1 dr_cX17_findLive_182 rfl ?_
                                  have hm269759 : (γ 9 2) ∈ P218855 := RS_m hT269684 ht269728 (by decide)
                                  obtain ⟨f269761, he269760, wf269761⟩ := show rk_35 I (F269683 (γ 9 2)) from RS_o hT269684 ht269728
                                  refine Gp_lald 2 hm269759 he269760 dr_cX17_findLive_184 rfl (gB_in bg269681' (by decide) (by decide)) (G_namL fun u269762 hu269762 => ?_)
                                  have qu269762 : lb_Q u269762 (2000 - 64 * g269681.toInt) := lb_Wld hu269762 wf269761 (by omega) (by omega) (lb_Mod0 (by omega) (by omega))
                                  have hm269763 : q269756 ∈ P218855 := RS_m hT269684 ht269757 (by decide)
                                  obtain ⟨f269765, he269764, wf269765⟩ := show rk_11 I (F269683 q269756) from RS_o hT269684 ht269757
                                  refine Gp_last 2 hm269763 he269764 dr_cX17_findLive_185 rfl (gB_in bg269681' (by decide) (by decide)) (fun F269766 e269767 n269768 => ?_)
                                  obtain ⟨f269769, hf269769⟩ : ∃ z, z = vp_updL f269765 g269681.toNatClampNeg u269762 := ⟨_, rfl⟩
                                  rw [← hf269769] at e269767
                                  have he269770 : F269766 q218858 = .inr (18, [.ref q265057, .ref q265058, .int p265059, .int p265060]) := (n269768 q218858 (rn_oa he269694 he269764)).trans he269694
                                  have he269771 : F269766 q265057 = .inr (4, [.int p268795, .ref q268797, .int p268796]) := (n269768 q265057 (rn_oa he269695 he269764)).trans he269695
                                  have he269772 : F269766 q268797 = .inl (I (.object "java/lang/Object"), n268811, .inr (.inr (.inr (.inr f268812)))) := (n269768 q268797 (rn_ref_long he269696 he269764)).trans he269696
                                  have he269773 : F269766 q268814 = .inr (17, [.ref q268823, .ref q268824, .int p268825, .int p268826]) := (n269768 q268814 (rn_oa he269697 he269764)).trans he269697
                                  have he269774 : F269766 q218857 = .inr (22, [.ref (γ 9 0), .ref (γ 9 1), .ref (γ 9 2), .ref (γ 9 3), .ref (γ 9 4), .ref (γ 9 5), .ref (γ 9 6), .ref (γ 9 7), .ref (γ 9 8), .int p269709, .int p269710, .int p269711, .int p269712, .int p269713, .int p269714, .ref (γ 9 15), .ref (γ 9 16), .ref (γ 9 17), .ref (γ 9 18), .ref (γ 9 19), .ref (γ 9 20), .ref (γ 9 21), .ref (γ 9 22), .int p269715, .int p269716, .int p269717, .int p269718, .int p269719, .ref q269707, .ref (γ 9 29), .int p269720, .ref (γ 9 31), .int p269721, .int p269722, .int p269723, .ref q269708]) := (n269768 q218857 (rn_oa he269706 he269764)).trans he269706
                                  have he269775 : F269766 (γ 9 0) = .inl (I (.array .long), 40, .inr (.inr (.inr (.inr f269754)))) := (n269768 (γ 9 0) (rn_ref_long he269753 he269764)).trans he269753
                                  have he269776 : F269766 (γ 9 2) = .inl (I .long, 32, .inr (.inl f269761)) := (n269768 (γ 9 2) (rn_ty ht269728 ht269757 (by decide))).trans he269760
                                  have he269777 : F269766 q269756 = .inl (I .long, 32, .inr (.inl f269769)) := e269767
                                  have hs269778 : rStr γ [] F218856 F269766 := rStr_put hs269685 n269768 ht269757 (by decide)
                                  have kp269779 : F269766 q218857 = F218856 q218857 := (n269768 q218857 (rn_ty htq218857 ht269757 (by decide))).trans x269691
                                  have wf269769 : lb_W f269769 (32) (32) (2000) := lb_Wst hf269769 wf269765 (by omega) (lb_Mod0 (by omega) (by omega)) qu269762
                                  obtain ⟨z269780, hz269780⟩ : ∃ z : Int32, z = g269681 + Int32.ofInt 1 := ⟨_, rfl⟩
                                  have ez269780 : z269780.toInt = g269681.toInt + 1 := gI_inc hz269780 (by decide) bg269681' (by decide) (by decide)
                                  have bz269780 : gB z269780 1 32 := ⟨by omega, by omega⟩
                                  refine G_iinc (L' := [(6, .int z269780), (3, .int 1), (5, .ref q268814), (4, .int g268775), (0, .ref q218857), (1, .ref q218858), (2, .int p218859)]) z269780 1 dr_cX17_findLive_186 rfl hz269780.symm (Nat.le_of_ble_eq_true rfl) rfl ?_
                                  refine G_goto 131 dr_cX17_findLive_189 (by decide +kernel) ?_
                                  have hT269781 : RS D I P218855 F269766 γ el := RS_set hT269684 n269768 ht269757 (by decide) ⟨f269769, he269777, wf269769⟩
                                  refine G_lv (L' := [(6, .int z269780), (5, .ref q268814), (4, .int g268775), (3, .int 1), (0, .ref q218857), (1, .ref q218858), (2, .int p218859)]) [0, 2, 3, 1, 4, 5, 6] rfl ?_
                                  exact ih131_269691 F269766 z269780 1 (gB_w bz269780 (by decide) (by decide)) (gB_w (gBl (show Int32.toInt 1 = 1 by decide)) (by decide) (by decide)) hT269781 hs269778 (fun i hi hne => (n269768 _ (by rw [hx269758]; exact RS_lne hT269781 ht269726 hi (by omega) (by omega))).trans (x269686 i hi hne)) (fun k hk => by rw [n269768 (γ 9 2) (rn_ty ht269728 ht269757 (by decide))]; exact x269687 k hk) (fun k hk => by unfold lvS; rw [← hx269758, cL_of he269777]; exact cp_st hu269762 hf269769 bg269681'.1 ez269780 (fun k hk => by have q := x269688 k hk; unfold lvS at q; rw [← hx269758, cL_of he269764] at q; exact q) (fun k hk => by have q := x269687 k hk; rw [cL_of he269760] at q; exact q) k hk) (by have gz : (g269681.toNatClampNeg : Int) = g269681.toInt := g_nn bg269681'.1; have hU := lvT_u (γ := γ) (F := F269683) (i := g268775.toInt.toNat) (z := g269681.toNatClampNeg) (by omega) (cl32 bg269681'.1 (by omega)) (fun i hi hne => n269768 _ (by rw [hx269758]; exact RS_lne hT269781 ht269726 hi (by omega) hne)) (by rw [← hx269758]; exact cL_of he269764) (by rw [← hx269758]; exact cL_of he269777) hf269769; have hS := rpop_sub (lv_w (f := f269765) (g := f269761) (A := trS γ el F218856 (decide (p218859.toInt = 1)) q268814 (lvM γ F268777) (γ 2 (γ 14 q268814))) (z := g269681.toNatClampNeg) (cl32 bg269681'.1 (by omega)) (fun k' h1 h2 h3 => by have q := x269688 k' h1; unfold lvS at q; rw [← hx269758, cL_of he269764, if_neg (by omega)] at q; rw [q] at h3; rw [x269690]; exact x268780 _ (by omega) k' ((lvM_e (by omega) h1).trans (by unfold lvS; rw [← hx269758]; exact h3))) (fun k hk => by have q := x269687 k hk; rw [cL_of he269760] at q; exact q)); rw [← hu269762] at hS; have q := x269689; have qb0 : Int32.toInt 0 = 0 := (by decide); have qb1 : Int32.toInt 1 = 1 := (by decide); omega) x269690 kp269779 (by have qa0 : Int32.toInt 1 = 1 := (by decide); omega)
                                · have r269782 : g269682.toInt = 0 := gj_eq hc269703 (show Int32.toInt 0 = 0 by decide)
                                  have bg269682' : gB g269682 0 0 := ⟨by omega, by omega⟩
                                  refine G_aload_n 4 dr_cX17_findLive_142 rfl ?_
                                  have hm269783 : q218857 ∈ P218855 := RS_m hT269684 htq218857 (by decide)
                                  obtain ⟨q269785, q269786, p269787, p269788, p269789, p269790, p269791, p269792, p269793, p269794, p269795, p269796, p269797, p269798, p269799, p269800, p269801, he269784, hB269828, ht269802, ht269803, ht269804, ht269805, ht269806, ht269807, ht269808, ht269809, ht269810, ht269811, ht269812, ht269813, ht269814, ht269815, ht269816, ht269817, ht269818, ht269819, ht269820, ht269821, ht269822, ht269823, ht269824, ht269825, hB269829⟩ := show rk_10 γ (F269683 q218857) from RS_o hT269684 htq218857
                                  refine Gp_get 0 hm269783 he269784 dr_cX17_findLive_143 (gk_X17 D I) (Nat.le_of_ble_eq_true rfl) wr_7_74 rfl ?_
                                  refine G_iload 2 dr_cX17_findLive_146 rfl ?_
                                  have hm269830 : (γ 9 0) ∈ P218855 := RS_m hT269684 ht269804 (by decide)
                                  obtain ⟨f269832, he269831, hg269833⟩ := show rk_12 I γ (F269683 (γ 9 0)) from RS_o hT269684 ht269804
                                  obtain ⟨q269834, hx269836⟩ : ∃ x, x = γ 10 g268775.toInt.toNat := ⟨_, rfl⟩
                                  have ht269835 : rKd γ q269834 11 := by rw [hx269836]; exact (hg269833 _ (show g268775.toInt.toNat < 40 by omega)).2.1
                                  refine Gp_aald 5 hm269830 he269831 dr_cX17_findLive_148 rfl rfl (gB_inr (by omega) (by omega)) ?_
                                  rw [show f269832 g268775.toNatClampNeg = some q269834 from (hg269833 _ (show g268775.toInt.toNat < 40 by omega)).1.trans (by rw [hx269836])]
                                  change G _ _ _ _ _ _ _ (.ref q269834 :: _) _ _ _
                                  refine G_iload 0 dr_cX17_findLive_149 rfl ?_
                                  have hm269837 : q269834 ∈ P218855 := RS_m hT269684 ht269835 (by decide)
                                  obtain ⟨f269839, he269838, wf269839⟩ := show rk_11 I (F269683 q269834) from RS_o hT269684 ht269835
                                  refine Gp_lald 2 hm269837 he269838 dr_cX17_findLive_151 rfl (gB_in bg269681' (by decide) (by decide)) (G_namL fun u269840 hu269840 => ?_)
                                  have qu269840 : lb_Q u269840 (2000 - 64 * g269681.toInt) := lb_Wld hu269840 wf269839 (by omega) (by omega) (lb_Mod0 (by omega) (by omega))
                                  refine G_aload_n 4 dr_cX17_findLive_152 rfl ?_
                                  refine Gp_get 2 hm269783 he269784 dr_cX17_findLive_153 (gk_X17 D I) (Nat.le_of_ble_eq_true rfl) wr_7_76 rfl ?_
                                  refine G_iload 0 dr_cX17_findLive_156 rfl ?_
                                  have hm269841 : (γ 9 2) ∈ P218855 := RS_m hT269684 ht269806 (by decide)
                                  obtain ⟨f269843, he269842, wf269843⟩ := show rk_35 I (F269683 (γ 9 2)) from RS_o hT269684 ht269806
                                  refine Gp_lald 2 hm269841 he269842 dr_cX17_findLive_158 rfl (gB_in bg269681' (by decide) (by decide)) (G_namL fun u269844 hu269844 => ?_)
                                  have qu269844 : lb_Q u269844 (2000 - 64 * g269681.toInt) := lb_Wld hu269844 wf269843 (by omega) (by omega) (lb_Mod0 (by omega) (by omega))
                                  refine G_lcmp dr_cX17_findLive_159 (G_nam fun z269845 hz269845 => ?_)
                                  have bz269845 : gB z269845 (-1) 1 := gB_cmp hz269845
                                  refine G_if_eq 167 dr_cX17_findLive_160 (by decide +kernel) (fun hc269846 => ?_) (fun hc269846 => ?_)
                                  · have r269847 : z269845.toInt = 0 := gj_eq hc269846 (show Int32.toInt 0 = 0 by decide)
                                    have bz269845' : gB z269845 0 0 := ⟨by omega, by omega⟩
                                    have lhc269846 := gC_cmpE hz269845 hc269846
                                    refine G_iconst 0 dr_cX17_findLive_167 (by decide +kernel) ?_
                                    refine G_istore_n (L' := [(3, .int 0), (6, .int g269681), (5, .ref q268814), (4, .int g268775), (0, .ref q218857), (1, .ref q218858), (2, .int p218859)]) dr_cX17_findLive_168 (Nat.le_of_ble_eq_true rfl) rfl ?_
                                    refine G_aload_n 4 dr_cX17_findLive_169 rfl ?_
                                    refine Gp_get 0 hm269783 he269784 dr_cX17_findLive_170 (gk_X17 D I) (Nat.le_of_ble_eq_true rfl) wr_7_74 rfl ?_
                                    refine G_iload 3 dr_cX17_findLive_173 rfl ?_
                                    refine Gp_aald 5 hm269830 he269831 dr_cX17_findLive_175 rfl rfl (gB_inr (by omega) (by omega)) ?_
                                    rw [show f269832 g268775.toNatClampNeg = some q269834 from (hg269833 _ (show g268775.toInt.toNat < 40 by omega)).1.trans (by rw [hx269836])]
                                    change G _ _ _ _ _ _ _ (.ref q269834 :: _) _ _ _
                                    refine G_iload 1 dr_cX17_findLive_176 rfl ?_
                                    refine G_aload_n 4 dr_cX17_findLive_178 rfl ?_
                                    refine Gp_get 2 hm269783 he269784 dr_cX17_findLive_179 (gk_X17 D I) (Nat.le_of_ble_eq_true rfl) wr_7_76 rfl ?_
                                    refine G_iload 1 dr_cX17_findLive_182 rfl ?_
                                    refine Gp_lald 2 hm269841 he269842 dr_cX17_findLive_184 rfl (gB_in bg269681' (by decide) (by decide)) (G_eql (y := u269844) hu269844.symm ?_)
                                    refine Gp_last 2 hm269837 he269838 dr_cX17_findLive_185 rfl (gB_in bg269681' (by decide) (by decide)) (fun F269848 e269849 n269850 => ?_)
                                    obtain ⟨f269851, hf269851⟩ : ∃ z, z = vp_updL f269839 g269681.toNatClampNeg u269844 := ⟨_, rfl⟩
                                    rw [← hf269851] at e269849
                                    have he269852 : F269848 q218858 = .inr (18, [.ref q265057, .ref q265058, .int p265059, .int p265060]) := (n269850 q218858 (rn_oa he269694 he269838)).trans he269694
                                    have he269853 : F269848 q265057 = .inr (4, [.int p268795, .ref q268797, .int p268796]) := (n269850 q265057 (rn_oa he269695 he269838)).trans he269695
                                    have he269854 : F269848 q268797 = .inl (I (.object "java/lang/Object"), n268811, .inr (.inr (.inr (.inr f268812)))) := (n269850 q268797 (rn_ref_long he269696 he269838)).trans he269696
                                    have he269855 : F269848 q268814 = .inr (17, [.ref q268823, .ref q268824, .int p268825, .int p268826]) := (n269850 q268814 (rn_oa he269697 he269838)).trans he269697
                                    have he269856 : F269848 q218857 = .inr (22, [.ref (γ 9 0), .ref (γ 9 1), .ref (γ 9 2), .ref (γ 9 3), .ref (γ 9 4), .ref (γ 9 5), .ref (γ 9 6), .ref (γ 9 7), .ref (γ 9 8), .int p269787, .int p269788, .int p269789, .int p269790, .int p269791, .int p269792, .ref (γ 9 15), .ref (γ 9 16), .ref (γ 9 17), .ref (γ 9 18), .ref (γ 9 19), .ref (γ 9 20), .ref (γ 9 21), .ref (γ 9 22), .int p269793, .int p269794, .int p269795, .int p269796, .int p269797, .ref q269785, .ref (γ 9 29), .int p269798, .ref (γ 9 31), .int p269799, .int p269800, .int p269801, .ref q269786]) := (n269850 q218857 (rn_oa he269784 he269838)).trans he269784
                                    have he269857 : F269848 (γ 9 0) = .inl (I (.array .long), 40, .inr (.inr (.inr (.inr f269832)))) := (n269850 (γ 9 0) (rn_ref_long he269831 he269838)).trans he269831
                                    have he269858 : F269848 (γ 9 2) = .inl (I .long, 32, .inr (.inl f269843)) := (n269850 (γ 9 2) (rn_ty ht269806 ht269835 (by decide))).trans he269842
                                    have he269859 : F269848 q269834 = .inl (I .long, 32, .inr (.inl f269851)) := e269849
                                    have hs269860 : rStr γ [] F218856 F269848 := rStr_put hs269685 n269850 ht269835 (by decide)
                                    have kp269861 : F269848 q218857 = F218856 q218857 := (n269850 q218857 (rn_ty htq218857 ht269835 (by decide))).trans x269691
                                    have wf269851 : lb_W f269851 (32) (32) (2000) := lb_Wst hf269851 wf269839 (by omega) (lb_Mod0 (by omega) (by omega)) qu269844
                                    obtain ⟨z269862, hz269862⟩ : ∃ z : Int32, z = g269681 + Int32.ofInt 1 := ⟨_, rfl⟩
                                    have ez269862 : z269862.toInt = g269681.toInt + 1 := gI_inc hz269862 (by decide) bg269681' (by decide) (by decide)
                                    have bz269862 : gB z269862 1 32 := ⟨by omega, by omega⟩
                                    refine G_iinc (L' := [(6, .int z269862), (3, .int 0), (5, .ref q268814), (4, .int g268775), (0, .ref q218857), (1, .ref q218858), (2, .int p218859)]) z269862 1 dr_cX17_findLive_186 rfl hz269862.symm (Nat.le_of_ble_eq_true rfl) rfl ?_
                                    refine G_goto 131 dr_cX17_findLive_189 (by decide +kernel) ?_
                                    have hT269863 : RS D I P218855 F269848 γ el := RS_set hT269684 n269850 ht269835 (by decide) ⟨f269851, he269859, wf269851⟩
                                    refine G_lv (L' := [(6, .int z269862), (5, .ref q268814), (4, .int g268775), (3, .int 0), (0, .ref q218857), (1, .ref q218858), (2, .int p218859)]) [0, 2, 3, 1, 4, 5, 6] rfl ?_
                                    exact ih131_269691 F269848 z269862 0 (gB_w bz269862 (by decide) (by decide)) (gB_w (gBl (show Int32.toInt 0 = 0 by decide)) (by decide) (by decide)) hT269863 hs269860 (fun i hi hne => (n269850 _ (by rw [hx269836]; exact RS_lne hT269863 ht269804 hi (by omega) (by omega))).trans (x269686 i hi hne)) (fun k hk => by rw [n269850 (γ 9 2) (rn_ty ht269806 ht269835 (by decide))]; exact x269687 k hk) (fun k hk => by unfold lvS; rw [← hx269836, cL_of he269859]; exact cp_st hu269844 hf269851 bg269681'.1 ez269862 (fun k hk => by have q := x269688 k hk; unfold lvS at q; rw [← hx269836, cL_of he269838] at q; exact q) (fun k hk => by have q := x269687 k hk; rw [cL_of he269842] at q; exact q) k hk) (by have gz : (g269681.toNatClampNeg : Int) = g269681.toInt := g_nn bg269681'.1; have hU := lvT_u (γ := γ) (F := F269683) (i := g268775.toInt.toNat) (z := g269681.toNatClampNeg) (by omega) (cl32 bg269681'.1 (by omega)) (fun i hi hne => n269850 _ (by rw [hx269836]; exact RS_lne hT269863 ht269804 hi (by omega) hne)) (by rw [← hx269836]; exact cL_of he269838) (by rw [← hx269836]; exact cL_of he269859) hf269851; have hS := rpop_sub (lv_w (f := f269839) (g := f269843) (A := trS γ el F218856 (decide (p218859.toInt = 1)) q268814 (lvM γ F268777) (γ 2 (γ 14 q268814))) (z := g269681.toNatClampNeg) (cl32 bg269681'.1 (by omega)) (fun k' h1 h2 h3 => by have q := x269688 k' h1; unfold lvS at q; rw [← hx269836, cL_of he269838, if_neg (by omega)] at q; rw [q] at h3; rw [x269690]; exact x268780 _ (by omega) k' ((lvM_e (by omega) h1).trans (by unfold lvS; rw [← hx269836]; exact h3))) (fun k hk => by have q := x269687 k hk; rw [cL_of he269842] at q; exact q)); rw [← hu269844] at hS; have q := x269689; have qb0 : Int32.toInt 0 = 0 := (by decide); have qb1 : Int32.toInt 1 = 1 := (by decide); omega) x269690 kp269861 (by have qa0 : Int32.toInt 0 = 0 := (by decide); omega)
                                  · have r269864 : z269845.toInt ≠ 0 := gj_neq hc269846 (show Int32.toInt 0 = 0 by decide)
                                    have lhc269846 := gC_cmpN hz269845 hc269846
                                    refine G_iconst 1 dr_cX17_findLive_163 (by decide +kernel) ?_
                                    refine G_goto 168 dr_cX17_findLive_164 (by decide +kernel) ?_
                                    refine G_istore_n (L' := [(3, .int 1), (6, .int g269681), (5, .ref q268814), (4, .int g268775), (0, .ref q218857), (1, .ref q218858), (2, .int p218859)]) dr_cX17_findLive_168 (Nat.le_of_ble_eq_true rfl) rfl ?_
                                    refine G_aload_n 4 dr_cX17_findLive_169 rfl ?_
                                    refine Gp_get 0 hm269783 he269784 dr_cX17_findLive_170 (gk_X17 D I) (Nat.le_of_ble_eq_true rfl) wr_7_74 rfl ?_
                                    refine G_iload 3 dr_cX17_findLive_173 rfl ?_
                                    refine Gp_aald 5 hm269830 he269831 dr_cX17_findLive_175 rfl rfl (gB_inr (by omega) (by omega)) ?_
                                    rw [show f269832 g268775.toNatClampNeg = some q269834 from (hg269833 _ (show g268775.toInt.toNat < 40 by omega)).1.trans (by rw [hx269836])]
                                    change G _ _ _ _ _ _ _ (.ref q269834 :: _) _ _ _
                                    refine G_iload 1 dr_cX17_findLive_176 rfl ?_
                                    refine G_aload_n 4 dr_cX17_findLive_178 rfl ?_
                                    refine Gp_get 2 hm269783 he269784 dr_cX17_findLive_179 (gk_X17 D I) (Nat.le_of_ble_eq_true rfl) wr_7_76 rfl ?_
                                    refine G_iload 1 dr_cX17_findLive_182 rfl ?_
                                    refine Gp_lald 2 hm269841 he269842 dr_cX17_findLive_184 rfl (gB_in bg269681' (by decide) (by decide)) (G_eql (y := u269844) hu269844.symm ?_)
                                    refine Gp_last 2 hm269837 he269838 dr_cX17_findLive_185 rfl (gB_in bg269681' (by decide) (by decide)) (fun F269865 e269866 n269867 => ?_)
                                    obtain ⟨f269868, hf269868⟩ : ∃ z, z = vp_updL f269839 g269681.toNatClampNeg u269844 := ⟨_, rfl⟩
                                    rw [← hf269868] at e269866
                                    have he269869 : F269865 q218858 = .inr (18, [.ref q265057, .ref q265058, .int p265059, .int p265060]) := (n269867 q218858 (rn_oa he269694 he269838)).trans he269694
                                    have he269870 : F269865 q265057 = .inr (4, [.int p268795, .ref q268797, .int p268796]) := (n269867 q265057 (rn_oa he269695 he269838)).trans he269695
                                    have he269871 : F269865 q268797 = .inl (I (.object "java/lang/Object"), n268811, .inr (.inr (.inr (.inr f268812)))) := (n269867 q268797 (rn_ref_long he269696 he269838)).trans he269696
                                    have he269872 : F269865 q268814 = .inr (17, [.ref q268823, .ref q268824, .int p268825, .int p268826]) := (n269867 q268814 (rn_oa he269697 he269838)).trans he269697
                                    have he269873 : F269865 q218857 = .inr (22, [.ref (γ 9 0), .ref (γ 9 1), .ref (γ 9 2), .ref (γ 9 3), .ref (γ 9 4), .ref (γ 9 5), .ref (γ 9 6), .ref (γ 9 7), .ref (γ 9 8), .int p269787, .int p269788, .int p269789, .int p269790, .int p269791, .int p269792, .ref (γ 9 15), .ref (γ 9 16), .ref (γ 9 17), .ref (γ 9 18), .ref (γ 9 19), .ref (γ 9 20), .ref (γ 9 21), .ref (γ 9 22), .int p269793, .int p269794, .int p269795, .int p269796, .int p269797, .ref q269785, .ref (γ 9 29), .int p269798, .ref (γ 9 31), .int p269799, .int p269800, .int p269801, .ref q269786]) := (n269867 q218857 (rn_oa he269784 he269838)).trans he269784
                                    have he269874 : F269865 (γ 9 0) = .inl (I (.array .long), 40, .inr (.inr (.inr (.inr f269832)))) := (n269867 (γ 9 0) (rn_ref_long he269831 he269838)).trans he269831
                                    have he269875 : F269865 (γ 9 2) = .inl (I .long, 32, .inr (.inl f269843)) := (n269867 (γ 9 2) (rn_ty ht269806 ht269835 (by decide))).trans he269842
                                    have he269876 : F269865 q269834 = .inl (I .long, 32, .inr (.inl f269868)) := e269866
                                    have hs269877 : rStr γ [] F218856 F269865 := rStr_put hs269685 n269867 ht269835 (by decide)
                                    have kp269878 : F269865 q218857 = F218856 q218857 := (n269867 q218857 (rn_ty htq218857 ht269835 (by decide))).trans x269691
                                    have wf269868 : lb_W f269868 (32) (32) (2000) := lb_Wst hf269868 wf269839 (by omega) (lb_Mod0 (by omega) (by omega)) qu269844
                                    obtain ⟨z269879, hz269879⟩ : ∃ z : Int32, z = g269681 + Int32.ofInt 1 := ⟨_, rfl⟩
                                    have ez269879 : z269879.toInt = g269681.toInt + 1 := gI_inc hz269879 (by decide) bg269681' (by decide) (by decide)
                                    have bz269879 : gB z269879 1 32 := ⟨by omega, by omega⟩
                                    refine G_iinc (L' := [(6, .int z269879), (3, .int 1), (5, .ref q268814), (4, .int g268775), (0, .ref q218857), (1, .ref q218858), (2, .int p218859)]) z269879 1 dr_cX17_findLive_186 rfl hz269879.symm (Nat.le_of_ble_eq_true rfl) rfl ?_
                                    refine G_goto 131 dr_cX17_findLive_189 (by decide +kernel) ?_
                                    have hT269880 : RS D I P218855 F269865 γ el := RS_set hT269684 n269867 ht269835 (by decide) ⟨f269868, he269876, wf269868⟩
                                    refine G_lv (L' := [(6, .int z269879), (5, .ref q268814), (4, .int g268775), (3, .int 1), (0, .ref q218857), (1, .ref q218858), (2, .int p218859)]) [0, 2, 3, 1, 4, 5, 6] rfl ?_
                                    exact ih131_269691 F269865 z269879 1 (gB_w bz269879 (by decide) (by decide)) (gB_w (gBl (show Int32.toInt 1 = 1 by decide)) (by decide) (by decide)) hT269880 hs269877 (fun i hi hne => (n269867 _ (by rw [hx269836]; exact RS_lne hT269880 ht269804 hi (by omega) (by omega))).trans (x269686 i hi hne)) (fun k hk => by rw [n269867 (γ 9 2) (rn_ty ht269806 ht269835 (by decide))]; exact x269687 k hk) (fun k hk => by unfold lvS; rw [← hx269836, cL_of he269876]; exact cp_st hu269844 hf269868 bg269681'.1 ez269879 (fun k hk => by have q := x269688 k hk; unfold lvS at q; rw [← hx269836, cL_of he269838] at q; exact q) (fun k hk => by have q := x269687 k hk; rw [cL_of he269842] at q; exact q) k hk) (by have gz : (g269681.toNatClampNeg : Int) = g269681.toInt := g_nn bg269681'.1; have hU := lvT_u (γ := γ) (F := F269683) (i := g268775.toInt.toNat) (z := g269681.toNatClampNeg) (by omega) (cl32 bg269681'.1 (by omega)) (fun i hi hne => n269867 _ (by rw [hx269836]; exact RS_lne hT269880 ht269804 hi (by omega) hne)) (by rw [← hx269836]; exact cL_of he269838) (by rw [← hx269836]; exact cL_of he269876) hf269868; have hS := rpop_slt (lv_w (f := f269839) (g := f269843) (A := trS γ el F218856 (decide (p218859.toInt = 1)) q268814 (lvM γ F268777) (γ 2 (γ 14 q268814))) (z := g269681.toNatClampNeg) (cl32 bg269681'.1 (by omega)) (fun k' h1 h2 h3 => by have q := x269688 k' h1; unfold lvS at q; rw [← hx269836, cL_of he269838, if_neg (by omega)] at q; rw [q] at h3; rw [x269690]; exact x268780 _ (by omega) k' ((lvM_e (by omega) h1).trans (by unfold lvS; rw [← hx269836]; exact h3))) (fun k hk => by have q := x269687 k hk; rw [cL_of he269842] at q; exact q)) (fun e => lc_ne hz269845 (by omega) (hu269840.trans (e.trans hu269844.symm))); rw [← hu269844] at hS; have q := x269689; have qb0 : Int32.toInt 0 = 0 := (by decide); have qb1 : Int32.toInt 1 = 1 := (by decide); omega) x269690 kp269878 (by have qa0 : Int32.toInt 1 = 1 := (by decide); omega)
                          exact hlp131_269691 (((33 : Int) - 0).toNat + 1) F269470 0 g268776 (gB_w (gBl (show Int32.toInt 0 = 0 by decide)) (by decide) (by decide)) bg268776 hT269471 hs269472 (fun i hi _ => x269473 i hi) (fun k hk => by have q := x269474 k hk; rw [show ((((γ 2 (γ 14 q268814) : Nat) : Int) - 1 - g269469.toInt).toNat) = γ 2 (γ 14 q268814) by omega] at q; exact q) (fun k hk => by rw [if_neg (by have qa : Int32.toInt 0 = 0 := (by decide); omega)]; exact lvS_l x269473 (by omega)) (by have q := lvT_l x269473; have q2 := x268781; omega) x269476 x269477 (Nat.lt_succ_self _)
                        · have r269881 : 0 ≤ g269469.toInt := gj_nlt hc269486 (show Int32.toInt 0 = 0 by decide)
                          have bg269469' : gB g269469 0 999999 := ⟨by omega, by omega⟩
                          refine G_aload_n 4 dr_cX17_findLive_104 rfl ?_
                          refine G_aload 1 dr_cX17_findLive_105 rfl ?_
                          refine Gp_get 0 hm268821 he269483 dr_cX17_findLive_107 (gk_X12 D I) (Nat.le_of_ble_eq_true rfl) wr_9_216 rfl ?_
                          refine G_iload 0 dr_cX17_findLive_110 rfl ?_
                          have hm269882 : q268823 ∈ P218855 := RS_m hT269471 ht268827 (by decide)
                          obtain ⟨⟨p269884, p269885, q269886, he269883, r269887, r269888, r269889, r269891⟩, r269890⟩ := show rk_3 D I γ el F269470 q268823 from RS_o hT269471 ht268827
                          have bp269884 := gB_any p269884
                          have bp269885 : gB p269885 0 1000000 := ⟨by omega, by omega⟩
                          obtain ⟨r269892, r269893, n269900, f269901, r269894, r269895, r269896, r269897, r269898, r269899⟩ := rLC_n r269889 (by omega)
                          have hm269902 : q269886 ∈ P218855 := RS_m hT269471 r269892 (by decide)
                          obtain ⟨q269903, hx269904⟩ : ∃ x, x = el q268823 g269469.toInt.toNat := ⟨_, rfl⟩
                          have hx269905 : f269901 g269469.toNatClampNeg = some q269903 := (r269898 _ (show g269469.toInt.toNat < γ 2 q268823 by omega)).trans (by rw [hx269904])
                          have ht269906 : rKd γ q269903 1 := by rw [hx269904]; exact (r269890 _ (show g269469.toInt.toNat < γ 2 q268823 by omega)).1
                          have ht269907 : rFm γ q269903 q268823 := by rw [hx269904]; exact (r269890 _ (show g269469.toInt.toNat < γ 2 q268823 by omega)).2.1
                          refine Gw_callV (As := [.int g269469]) (gV_ok D I) (cp_22_ArrayList_get l hl0 D I P218855 F269470 q268823 q269886 g269469 p269884 p269885 f269901 n269900 q269903 hm269882 hm269902 he269883 r269894 (gB_w bg269469' (by decide) (by decide)) (gB_w bp269885 (by decide) (by decide)) (by omega) (by omega) (by assumption) (by omega)) dr_cX17_findLive_112 ⟨wr_10_197, wr_1_18, wr_10_61, by decide, rfl, (Nat.le_of_ble_eq_true rfl), (Nat.le_of_ble_eq_true rfl)⟩ wr_10_59 wr_10_60 hm269882 he269883 rfl (show 0 + 0 ≤ 0 by first | omega | decide) (show 0 + 0 ≤ 0 by first | omega | decide) (Nat.le_of_ble_eq_true rfl) (fun r269911 w269912 dc269908 ds269909 hp269910 => ?_) (fun _ _ _ _ _ z => z.elim)
                          obtain ⟨rfl, rfl, hdc, hds⟩ := hp269910
                          change G _ _ _ _ _ _ _ (.ref q269903 :: _) _ _ _
                          refine G_widen (cs' := 0) (sl' := 0) (by omega) (by omega) ?_
                          have hm269913 : q269903 ∈ P218855 := RS_m hT269471 ht269906 (by decide)
                          obtain ⟨p269915, p269916, p269917, p269918, p269919, p269920, p269921, he269914, bp269915, bp269916, bp269919, bp269920, bp269921, r269922, r269923, r269924, r269925, r269926⟩ := show rk_1 γ q269903 (F269470 q269903) from RS_o hT269471 ht269906
                          have bp269917 := gB_any p269917
                          have bp269918 := gB_any p269918
                          refine Gp_cast hm269913 he269914 rfl dr_cX17_findLive_115 wr_10_198 (gr_cast 1 rfl) ?_
                          refine G_iload_n 6 dr_cX17_findLive_118 rfl ?_
                          have fl269927 : F269470 q269903 = F218856 (el (γ 14 q268814) (γ 2 (γ 14 q268814) - 1 - ((((γ 2 (γ 14 q268814) : Nat) : Int) - 1 - g269469.toInt).toNat))) := by rw [show γ 2 (γ 14 q268814) - 1 - ((((γ 2 (γ 14 q268814) : Nat) : Int) - 1 - g269469.toInt).toNat) = g269469.toInt.toNat by omega, ht268833.1, ← hx269904]; exact hs269472 q269903 (rT0 ht269906 (by decide)) (rT1 ht269906 (by decide)) (rT2 ht269906 (by decide))
                          have hm269933 : q218857 ∈ P218855 := RS_m hT269471 htq218857 (by decide)
                          obtain ⟨q269935, q269936, p269937, p269938, p269939, p269940, p269941, p269942, p269943, p269944, p269945, p269946, p269947, p269948, p269949, p269950, p269951, he269934, hB269978, ht269952, ht269953, ht269954, ht269955, ht269956, ht269957, ht269958, ht269959, ht269960, ht269961, ht269962, ht269963, ht269964, ht269965, ht269966, ht269967, ht269968, ht269969, ht269970, ht269971, ht269972, ht269973, ht269974, ht269975, hB269979⟩ := show rk_10 γ (F269470 q218857) from RS_o hT269471 htq218857
                          refine Gw_callV (As := [.ref q269903, .int p218859]) (gV_ok D I) (ct_215523_SpillForgeModel_back l hl0 D I γ el P218855 F269470 q218857 q269903 p218859 hT269471 htq218857 ht269906 bp218859) dr_cX17_findLive_119 ⟨wr_10_170, wr_1_14, wr_10_173, by decide, rfl, (Nat.le_of_ble_eq_true rfl), (Nat.le_of_ble_eq_true rfl)⟩ wr_10_172 wr_p_96 hm269933 he269934 rfl (show 0 + 0 ≤ 0 by first | omega | decide) (show 0 + 0 ≤ 0 by first | omega | decide) (Nat.le_of_ble_eq_true rfl) (fun r269931 w269932 dc269928 ds269929 hp269930 => ?_) (fun _ _ _ _ _ z => z.elim)
                          obtain ⟨F269983, rfl, rfl, hT269984, hs269985, hdc, hds, x269980, x269981, x269982⟩ := hp269930
                          have he269986 : F269983 q218858 = .inr (18, [.ref q265057, .ref q265058, .int p265059, .int p265060]) := (hs269985 q218858 (rT0 htq218858 (by decide)) (rT1 htq218858 (by decide)) (rT2 htq218858 (by decide))).trans he269480
                          have he269987 : F269983 q265057 = .inr (4, [.int p268795, .ref q268797, .int p268796]) := (hs269985 q265057 (rT0 ht265061 (by decide)) (rT1 ht265061 (by decide)) (rT2 ht265061 (by decide))).trans he269481
                          have he269988 : F269983 q268797 = .inl (I (.object "java/lang/Object"), n268811, .inr (.inr (.inr (.inr f268812)))) := (hs269985 q268797 (rT0 r268803 (by decide)) (rT1 r268803 (by decide)) (rT2 r268803 (by decide))).trans he269482
                          have he269989 : F269983 q268814 = .inr (17, [.ref q268823, .ref q268824, .int p268825, .int p268826]) := (hs269985 q268814 (rT0 ht268819 (by decide)) (rT1 ht268819 (by decide)) (rT2 ht268819 (by decide))).trans he269483
                          have he269990 : F269983 q268823 = .inr (4, [.int p269884, .ref q269886, .int p269885]) := (hs269985 q268823 (rT0 ht268827 (by decide)) (rT1 ht268827 (by decide)) (rT2 ht268827 (by decide))).trans he269883
                          have he269991 : F269983 q269886 = .inl (I (.object "java/lang/Object"), n269900, .inr (.inr (.inr (.inr f269901)))) := (hs269985 q269886 (rT0 r269892 (by decide)) (rT1 r269892 (by decide)) (rT2 r269892 (by decide))).trans r269894
                          have he269992 : F269983 q269903 = .inr (20, [.int p269915, .int p269916, .int p269917, .int p269918, .int p269919, .int p269920, .int p269921]) := (hs269985 q269903 (rT0 ht269906 (by decide)) (rT1 ht269906 (by decide)) (rT2 ht269906 (by decide))).trans he269914
                          have hs269993 : rStr γ [] F218856 F269983 := rStr_tr hs269472 hs269985
                          have kp269994 : F269983 q218857 = F218856 q218857 := (x269982).trans x269477
                          have he269995 : F269983 q218857 = .inr (22, [.ref (γ 9 0), .ref (γ 9 1), .ref (γ 9 2), .ref (γ 9 3), .ref (γ 9 4), .ref (γ 9 5), .ref (γ 9 6), .ref (γ 9 7), .ref (γ 9 8), .int p269937, .int p269938, .int p269939, .int p269940, .int p269941, .int p269942, .ref (γ 9 15), .ref (γ 9 16), .ref (γ 9 17), .ref (γ 9 18), .ref (γ 9 19), .ref (γ 9 20), .ref (γ 9 21), .ref (γ 9 22), .int p269943, .int p269944, .int p269945, .int p269946, .int p269947, .ref q269935, .ref (γ 9 29), .int p269948, .ref (γ 9 31), .int p269949, .int p269950, .int p269951, .ref q269936]) := (x269982).trans he269934
                          change G _ _ _ _ _ _ _ _ _ _ _
                          refine G_widen (cs' := 0) (sl' := 0) (by omega) (by omega) ?_
                          obtain ⟨z269996, hz269996⟩ : ∃ z : Int32, z = g269469 + Int32.ofInt (-1) := ⟨_, rfl⟩
                          have ez269996 : z269996.toInt = g269469.toInt + (-1) := gI_inc hz269996 (by decide) bg269469' (by decide) (by decide)
                          have bz269996 : gB z269996 (-1) 999998 := ⟨by omega, by omega⟩
                          refine G_iinc (L' := [(6, .int z269996), (5, .ref q268814), (4, .int g268775), (3, .int g268776), (0, .ref q218857), (1, .ref q218858), (2, .int p218859)]) z269996 0 dr_cX17_findLive_122 rfl hz269996.symm (Nat.le_of_ble_eq_true rfl) rfl ?_
                          refine G_goto 99 dr_cX17_findLive_125 (by decide +kernel) ?_
                          exact ih99_269477 F269983 z269996 (gB_w bz269996 (by decide) (by decide)) hT269984 hs269993 (rLv_tr x269473 x269981) (by rw [show ((((γ 2 (γ 14 q268814) : Nat) : Int) - 1 - z269996.toInt).toNat) = ((((γ 2 (γ 14 q268814) : Nat) : Int) - 1 - g269469.toInt).toNat) + 1 by omega]; exact tr_b x269474 fl269927 x269980) (by omega) x269476 kp269994 (by omega)
                    exact hlp99_269477 (((z268946.toInt : Int) - (-2)).toNat + 1) F268921 z268946 bz268946 hT268922 hs268928 (rLv_tr x268900 x268919) (by rw [show ((((γ 2 (γ 14 q268814) : Nat) : Int) - 1 - z268946.toInt).toNat) = 0 by omega]; exact tr_0 (fun k hk => by have q := x268899 k hk; rw [ht268833.2.1, fl268842, fl268841] at q; rw [q, ht268833.2.1]; exact bhV_c ⟨by omega, by omega⟩ ⟨by omega, by omega⟩ (fun i hi => (lvM_e hi hk).symm)) fl268912 x268918) (by omega) fl268846 kp268929 (Nat.lt_succ_self _)
              exact hlp58_268783 (((z267557.toInt : Int) - (-2)).toNat + 1) F267540 z267557 0 bz267557 (gB_w (gBl (show Int32.toInt 0 = 0 by decide)) (by decide) (by decide)) hT267541 hs267542 x267543 (by have qa : Int32.toInt 0 = 0 := (by decide); rw [qa]; exact Nat.le_refl _) (by have qa0 : Int32.toInt 0 = 0 := (by decide); omega) x267544 (Nat.lt_succ_self _)
        exact hlp44_267544 (((81920 - lvT γ F265047) + (1 : Int).toNat) + 1) F265047 1 (gB_w (gBl (show Int32.toInt 1 = 1 by decide)) (by decide) (by decide)) hT265048 hs265049 (rJv_0 (fun i hi j hj => x265050 i (by omega) j hj)) x265051 (Nat.lt_succ_self _)
      · have r269997 : g265046.toInt < p265060.toInt := gC_nle hc265082
        have bg265046' : gB g265046 0 999999 := ⟨by omega, by omega⟩
        have bp265060' : gB p265060 1 1000000 := ⟨by omega, by omega⟩
        refine G_iconst 0 dr_cX17_findLive_10 (by decide +kernel) ?_
        refine G_istore (L' := [(4, .int 0), (3, .int g265046), (0, .ref q218857), (1, .ref q218858), (2, .int p218859)]) dr_cX17_findLive_11 (Nat.le_of_ble_eq_true rfl) rfl ?_
        have hlp13_270084 : ∀ (n13_270084 : Nat) (F270079 : Nat → va_E) (g270078 : Int32), gB g270078 0 32 → RS D I P218855 F270079 γ el → rStr γ [] F218856 F270079 → (∀ i : Nat, (i : Int) < g265046.toInt → ∀ j : Nat, j < 32 → cL (F270079 (γ 10 i)) j = 0) → (∀ j : Nat, (j : Int) < g270078.toInt → cL (F270079 (γ 10 (g265046.toInt : Int).toNat)) j = 0) → (F270079 q218857 = F218856 q218857) → ((33 : Int) - g270078.toInt).toNat < n13_270084 → G (gV D I) l (gRm 4 85 0 0) (gMA (gV D I) (pt_218861_SpillForgeModel_findLive D I γ el P218855 F218856 q218857 q218858 p218859) gNA 0 0) ky_218861_SpillForgeModel_findLive 13 [(4, .int g270078), (3, .int g265046), (0, .ref q218857), (1, .ref q218858), (2, .int p218859)] [] (va_pl P218855 F270079) 0 0 := by
          intro n13_270084
          induction n13_270084 with
          | zero => intro F270079 g270078 bg270078 hT270080 hs270081 x270082 x270083 x270084 hm13_270084; exact absurd hm13_270084 (Nat.not_lt_zero _)
          | succ n13_270084 ih13_270084 =>
            intro F270079 g270078 bg270078 hT270080 hs270081 x270082 x270083 x270084 hm13_270084
            have hs270086 : rStr γ [] F265047 F270079 := fun b h0 hb hw => (hs270081 b h0 hb hw).trans (hs265049 b h0 hb hw).symm
            have he270087 : F270079 q218858 = .inr (18, [.ref q265057, .ref q265058, .int p265059, .int p265060]) := (hs270086 q218858 (rT0 htq218858 (by decide)) (rT1 htq218858 (by decide)) (rT2 htq218858 (by decide))).trans he265056
            have hs270088 : rStr γ [] F218856 F270079 := rStr_tr hs265049 hs270086
            refine G_iload 0 dr_cX17_findLive_13 rfl ?_
            refine G_bipush 32 dr_cX17_findLive_15 (by decide +kernel) ?_
            refine G_icmp_ge 36 dr_cX17_findLive_17 (by decide +kernel) (fun hc270089 => ?_) (fun hc270089 => ?_)
            · have r270090 : 32 ≤ g270078.toInt := gj_leL hc270089 (show Int32.toInt 32 = 32 by decide)
              have bg270078' : gB g270078 32 32 := ⟨by omega, by omega⟩
              obtain ⟨z270091, hz270091⟩ : ∃ z : Int32, z = g265046 + Int32.ofInt 1 := ⟨_, rfl⟩
              have ez270091 : z270091.toInt = g265046.toInt + 1 := gI_inc hz270091 (by decide) bg265046' (by decide) (by decide)
              have bz270091 : gB z270091 1 1000000 := ⟨by omega, by omega⟩
              refine G_iinc (L' := [(3, .int z270091), (4, .int g270078), (0, .ref q218857), (1, .ref q218858), (2, .int p218859)]) z270091 1 dr_cX17_findLive_36 rfl hz270091.symm (Nat.le_of_ble_eq_true rfl) rfl ?_
              refine G_goto 2 dr_cX17_findLive_39 (by decide +kernel) ?_
              refine G_lv (L' := [(3, .int z270091), (0, .ref q218857), (1, .ref q218858), (2, .int p218859)]) [0, 2, 3, 4] rfl ?_
              exact ih2_265051 F270079 z270091 (gB_w bz270091 (by decide) (by decide)) hT270080 hs270081 (zl_s x270082 x270083 (by omega) ez270091 bg265046'.1) x270084 (by omega)
            · have r270092 : g270078.toInt < 32 := gj_nleL hc270089 (show Int32.toInt 32 = 32 by decide)
              have bg270078' : gB g270078 0 31 := ⟨by omega, by omega⟩
              refine G_aload_n 2 dr_cX17_findLive_20 rfl ?_
              have hm270093 : q218857 ∈ P218855 := RS_m hT270080 htq218857 (by decide)
              obtain ⟨q270095, q270096, p270097, p270098, p270099, p270100, p270101, p270102, p270103, p270104, p270105, p270106, p270107, p270108, p270109, p270110, p270111, he270094, hB270138, ht270112, ht270113, ht270114, ht270115, ht270116, ht270117, ht270118, ht270119, ht270120, ht270121, ht270122, ht270123, ht270124, ht270125, ht270126, ht270127, ht270128, ht270129, ht270130, ht270131, ht270132, ht270133, ht270134, ht270135, hB270139⟩ := show rk_10 γ (F270079 q218857) from RS_o hT270080 htq218857
              refine Gp_get 0 hm270093 he270094 dr_cX17_findLive_21 (gk_X17 D I) (Nat.le_of_ble_eq_true rfl) wr_7_74 rfl ?_
              refine G_iload_n 1 dr_cX17_findLive_24 rfl ?_
              have hm270140 : (γ 9 0) ∈ P218855 := RS_m hT270080 ht270114 (by decide)
              obtain ⟨f270142, he270141, hg270143⟩ := show rk_12 I γ (F270079 (γ 9 0)) from RS_o hT270080 ht270114
              obtain ⟨q270144, hx270146⟩ : ∃ x, x = γ 10 g265046.toInt.toNat := ⟨_, rfl⟩
              have ht270145 : rKd γ q270144 11 := by rw [hx270146]; exact (hg270143 _ (show g265046.toInt.toNat < 40 by omega)).2.1
              refine Gp_aald 5 hm270140 he270141 dr_cX17_findLive_25 rfl rfl (gB_inr (by omega) (by omega)) ?_
              rw [show f270142 g265046.toNatClampNeg = some q270144 from (hg270143 _ (show g265046.toInt.toNat < 40 by omega)).1.trans (by rw [hx270146])]
              change G _ _ _ _ _ _ _ (.ref q270144 :: _) _ _ _
              refine G_iload 0 dr_cX17_findLive_26 rfl ?_
              refine G_lconst 0 dr_cX17_findLive_28 rfl ?_
              have hm270147 : q270144 ∈ P218855 := RS_m hT270080 ht270145 (by decide)
              obtain ⟨f270149, he270148, wf270149⟩ := show rk_11 I (F270079 q270144) from RS_o hT270080 ht270145
              refine Gp_last 2 hm270147 he270148 dr_cX17_findLive_29 rfl (gB_in bg270078' (by decide) (by decide)) (fun F270150 e270151 n270152 => ?_)
              obtain ⟨f270153, hf270153⟩ : ∃ z, z = vp_updL f270149 g270078.toNatClampNeg 0 := ⟨_, rfl⟩
              rw [← hf270153] at e270151
              have he270154 : F270150 q218858 = .inr (18, [.ref q265057, .ref q265058, .int p265059, .int p265060]) := (n270152 q218858 (rn_oa he270087 he270148)).trans he270087
              have he270155 : F270150 q218857 = .inr (22, [.ref (γ 9 0), .ref (γ 9 1), .ref (γ 9 2), .ref (γ 9 3), .ref (γ 9 4), .ref (γ 9 5), .ref (γ 9 6), .ref (γ 9 7), .ref (γ 9 8), .int p270097, .int p270098, .int p270099, .int p270100, .int p270101, .int p270102, .ref (γ 9 15), .ref (γ 9 16), .ref (γ 9 17), .ref (γ 9 18), .ref (γ 9 19), .ref (γ 9 20), .ref (γ 9 21), .ref (γ 9 22), .int p270103, .int p270104, .int p270105, .int p270106, .int p270107, .ref q270095, .ref (γ 9 29), .int p270108, .ref (γ 9 31), .int p270109, .int p270110, .int p270111, .ref q270096]) := (n270152 q218857 (rn_oa he270094 he270148)).trans he270094
              have he270156 : F270150 (γ 9 0) = .inl (I (.array .long), 40, .inr (.inr (.inr (.inr f270142)))) := (n270152 (γ 9 0) (rn_ref_long he270141 he270148)).trans he270141
              have he270157 : F270150 q270144 = .inl (I .long, 32, .inr (.inl f270153)) := e270151
              have hs270158 : rStr γ [] F218856 F270150 := rStr_put hs270081 n270152 ht270145 (by decide)
              have kp270159 : F270150 q218857 = F218856 q218857 := (n270152 q218857 (rn_ty htq218857 ht270145 (by decide))).trans x270084
              have wf270153 : lb_W f270153 (32) (32) (2000) := lb_Wst hf270153 wf270149 (by omega) (lb_Mod0 (by omega) (by omega)) lb_Q0
              obtain ⟨z270160, hz270160⟩ : ∃ z : Int32, z = g270078 + Int32.ofInt 1 := ⟨_, rfl⟩
              have ez270160 : z270160.toInt = g270078.toInt + 1 := gI_inc hz270160 (by decide) bg270078' (by decide) (by decide)
              have bz270160 : gB z270160 1 32 := ⟨by omega, by omega⟩
              refine G_iinc (L' := [(4, .int z270160), (3, .int g265046), (0, .ref q218857), (1, .ref q218858), (2, .int p218859)]) z270160 0 dr_cX17_findLive_30 rfl hz270160.symm (Nat.le_of_ble_eq_true rfl) rfl ?_
              refine G_goto 13 dr_cX17_findLive_33 (by decide +kernel) ?_
              have hT270161 : RS D I P218855 F270150 γ el := RS_set hT270080 n270152 ht270145 (by decide) ⟨f270153, he270157, wf270153⟩
              exact ih13_270084 F270150 z270160 (gB_w bz270160 (by decide) (by decide)) hT270161 hs270158 (zl_r x270082 (fun i hi => n270152 _ (by rw [hx270146]; exact RS_lne hT270161 ht270114 (by omega) (by omega) (by omega)))) (by rw [← hx270146, cL_of he270157]; exact zr_st hf270153 (by have q := x270083; rw [← hx270146, cL_of he270148] at q; exact q) ez270160 bg270078'.1) kp270159 (by omega)
        exact hlp13_270084 (((33 : Int) - 0).toNat + 1) F265047 0 (gB_w (gBl (show Int32.toInt 0 = 0 by decide)) (by decide) (by decide)) hT265048 hs265049 x265050 (fun j hj => absurd hj (by have qa : Int32.toInt 0 = 0 := (by decide); omega)) x265051 (Nat.lt_succ_self _)
  exact hlp2_265051 (((1000001 : Int) - 0).toNat + 1) F218856 0 (gB_w (gBl (show Int32.toInt 0 = 0 by decide)) (by decide) (by decide)) hT (rStr_rf (γ := γ) (W := []) (F := F218856)) (fun i hi => absurd hi (by have qa : Int32.toInt 0 = 0 := (by decide); omega)) rfl (Nat.lt_succ_self _)
