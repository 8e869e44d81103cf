theorem dr_cX17_coloured_0 : decode cX17_coloured 0 = .ok (.aload_n 1, 1) := by decide +kernel
theorem dr_cX17_coloured_1 : decode cX17_coloured 1 = .ok (.invokevirtual 70, 3) := by decide +kernel
theorem dr_cX17_coloured_4 : decode cX17_coloured 4 = .ok (.ifCond .eq 16, 3) := by decide +kernel
theorem dr_cX17_coloured_20 : decode cX17_coloured 20 = .ok (.aload_n 1, 1) := by decide +kernel
theorem dr_cX17_coloured_21 : decode cX17_coloured 21 = .ok (.invokevirtual 76, 3) := by decide +kernel
theorem dr_cX17_coloured_24 : decode cX17_coloured 24 = .ok (.ifCond .eq 16, 3) := by decide +kernel
theorem dr_cX17_coloured_40 : decode cX17_coloured 40 = .ok (.aload_n 1, 1) := by decide +kernel
theorem dr_cX17_coloured_41 : decode cX17_coloured 41 = .ok (.invokevirtual 48, 3) := by decide +kernel
theorem dr_cX17_coloured_44 : decode cX17_coloured 44 = .ok (.ifCond .eq 16, 3) := by decide +kernel
theorem dr_cX17_coloured_60 : decode cX17_coloured 60 = .ok (.return_, 1) := by decide +kernel
theorem dr_cX17_coloured_47 : decode cX17_coloured 47 = .ok (.aload_n 1, 1) := by decide +kernel
theorem dr_cX17_coloured_48 : decode cX17_coloured 48 = .ok (.aload_n 0, 1) := by decide +kernel
theorem dr_cX17_coloured_49 : decode cX17_coloured 49 = .ok (.getfield 212, 3) := by decide +kernel
theorem dr_cX17_coloured_52 : decode cX17_coloured 52 = .ok (.aload_n 1, 1) := by decide +kernel
theorem dr_cX17_coloured_53 : decode cX17_coloured 53 = .ok (.getfield 52, 3) := by decide +kernel
theorem dr_cX17_coloured_56 : decode cX17_coloured 56 = .ok (.iaload, 1) := by decide +kernel
theorem dr_cX17_coloured_57 : decode cX17_coloured 57 = .ok (.putfield 52, 3) := by decide +kernel
theorem dr_cX17_coloured_27 : decode cX17_coloured 27 = .ok (.aload_n 1, 1) := by decide +kernel
theorem dr_cX17_coloured_28 : decode cX17_coloured 28 = .ok (.aload_n 0, 1) := by decide +kernel
theorem dr_cX17_coloured_29 : decode cX17_coloured 29 = .ok (.getfield 212, 3) := by decide +kernel
theorem dr_cX17_coloured_32 : decode cX17_coloured 32 = .ok (.aload_n 1, 1) := by decide +kernel
theorem dr_cX17_coloured_33 : decode cX17_coloured 33 = .ok (.getfield 79, 3) := by decide +kernel
theorem dr_cX17_coloured_36 : decode cX17_coloured 36 = .ok (.iaload, 1) := by decide +kernel
theorem dr_cX17_coloured_37 : decode cX17_coloured 37 = .ok (.putfield 79, 3) := by decide +kernel
theorem dr_cX17_coloured_7 : decode cX17_coloured 7 = .ok (.aload_n 1, 1) := by decide +kernel
theorem dr_cX17_coloured_8 : decode cX17_coloured 8 = .ok (.aload_n 0, 1) := by decide +kernel
theorem dr_cX17_coloured_9 : decode cX17_coloured 9 = .ok (.getfield 212, 3) := by decide +kernel
theorem dr_cX17_coloured_12 : decode cX17_coloured 12 = .ok (.aload_n 1, 1) := by decide +kernel
theorem dr_cX17_coloured_13 : decode cX17_coloured 13 = .ok (.getfield 73, 3) := by decide +kernel
theorem dr_cX17_coloured_16 : decode cX17_coloured 16 = .ok (.iaload, 1) := by decide +kernel
theorem dr_cX17_coloured_17 : decode cX17_coloured 17 = .ok (.putfield 73, 3) := by decide +kernel
theorem dr_cX17_share_0 : decode cX17_share 0 = .ok (.aload_n 0, 1) := by decide +kernel
theorem dr_cX17_share_1 : decode cX17_share 1 = .ok (.aload_n 1, 1) := by decide +kernel
theorem dr_cX17_share_2 : decode cX17_share 2 = .ok (.iconst 1, 1) := by decide +kernel
theorem dr_cX17_share_3 : decode cX17_share 3 = .ok (.invokevirtual 243, 3) := by decide +kernel
theorem wr_10_233 : (Jvm.Cond.methodLink "SpillForgeModel" (243 : Nat) ({ cls := "SpillForgeModel", name := "graph", desc := "(LSpillForgeModel$Code;Z)V" } : Jvm.MethodName)) ∈ gw := gw_10 233 rfl rfl
theorem wr_10_236 : (Jvm.Cond.code ({ cls := "SpillForgeModel", name := "graph", desc := "(LSpillForgeModel$Code;Z)V" } : Jvm.MethodName) prog_14_method_10_code (11 : Nat) (Option.none : Option Jvm.ClassFile.FieldType)) ∈ gw := gw_10 236 rfl rfl
theorem wr_10_235 : (Jvm.Cond.instanceMethod ({ cls := "SpillForgeModel", name := "graph", desc := "(LSpillForgeModel$Code;Z)V" } : Jvm.MethodName)) ∈ gw := gw_10 235 rfl rfl
theorem wr_p_99 : Cond.selects "SpillForgeModel" ⟨"SpillForgeModel", "graph", "(LSpillForgeModel$Code;Z)V"⟩ ⟨"SpillForgeModel", "graph", "(LSpillForgeModel$Code;Z)V"⟩ ∈ gw := gw_p _ 99 rfl rfl rfl
theorem dr_cX17_share_6 : decode cX17_share 6 = .ok (.iconst 0, 1) := by decide +kernel
theorem dr_cX17_share_7 : decode cX17_share 7 = .ok (.istore_n 2, 1) := by decide +kernel
theorem dr_cX17_share_8 : decode cX17_share 8 = .ok (.iconst 0, 1) := by decide +kernel
theorem dr_cX17_share_9 : decode cX17_share 9 = .ok (.istore_n 3, 1) := by decide +kernel
theorem dr_cX17_share_10 : decode cX17_share 10 = .ok (.iload_n 3, 1) := by decide +kernel
theorem dr_cX17_share_11 : decode cX17_share 11 = .ok (.aload_n 0, 1) := by decide +kernel
theorem dr_cX17_share_12 : decode cX17_share 12 = .ok (.getfield 224, 3) := by decide +kernel
theorem wr_7_85 : (Jvm.Cond.fieldLink "SpillForgeModel" (224 : Nat) "SpillForgeModel" "slots" "I") ∈ gw := gw_7 85 rfl rfl
theorem dr_cX17_share_15 : decode cX17_share 15 = .ok (.if_icmp .ge 136, 3) := by decide +kernel
theorem dr_cX17_share_151 : decode cX17_share 151 = .ok (.iconst 0, 1) := by decide +kernel
theorem dr_cX17_share_152 : decode cX17_share 152 = .ok (.istore_n 3, 1) := by decide +kernel
theorem dr_cX17_share_153 : decode cX17_share 153 = .ok (.iload_n 3, 1) := by decide +kernel
theorem dr_cX17_share_154 : decode cX17_share 154 = .ok (.aload_n 1, 1) := by decide +kernel
theorem dr_cX17_share_155 : decode cX17_share 155 = .ok (.invokevirtual 96, 3) := by decide +kernel
theorem dr_cX17_share_158 : decode cX17_share 158 = .ok (.if_icmp .ge 88, 3) := by decide +kernel
theorem dr_cX17_share_246 : decode cX17_share 246 = .ok (.aload_n 0, 1) := by decide +kernel
theorem dr_cX17_share_247 : decode cX17_share 247 = .ok (.iload_n 2, 1) := by decide +kernel
theorem dr_cX17_share_248 : decode cX17_share 248 = .ok (.putfield 224, 3) := by decide +kernel
theorem dr_cX17_share_251 : decode cX17_share 251 = .ok (.return_, 1) := by decide +kernel
theorem dr_cX17_share_161 : decode cX17_share 161 = .ok (.aload_n 1, 1) := by decide +kernel
theorem dr_cX17_share_162 : decode cX17_share 162 = .ok (.iload_n 3, 1) := by decide +kernel
theorem dr_cX17_share_163 : decode cX17_share 163 = .ok (.invokevirtual 101, 3) := by decide +kernel
theorem dr_cX17_share_166 : decode cX17_share 166 = .ok (.astore 4, 2) := by decide +kernel
theorem dr_cX17_share_168 : decode cX17_share 168 = .ok (.iconst 0, 1) := by decide +kernel
theorem dr_cX17_share_169 : decode cX17_share 169 = .ok (.istore 5, 2) := by decide +kernel
theorem dr_cX17_share_171 : decode cX17_share 171 = .ok (.iload 5, 2) := by decide +kernel
theorem dr_cX17_share_173 : decode cX17_share 173 = .ok (.aload 4, 2) := by decide +kernel
theorem dr_cX17_share_175 : decode cX17_share 175 = .ok (.getfield 117, 3) := by decide +kernel
theorem dr_cX17_share_178 : decode cX17_share 178 = .ok (.invokevirtual 121, 3) := by decide +kernel
theorem dr_cX17_share_181 : decode cX17_share 181 = .ok (.if_icmp .ge 59, 3) := by decide +kernel
theorem dr_cX17_share_240 : decode cX17_share 240 = .ok (.iinc 3 1, 3) := by decide +kernel
theorem dr_cX17_share_243 : decode cX17_share 243 = .ok (.goto (-90), 3) := by decide +kernel
theorem dr_cX17_share_184 : decode cX17_share 184 = .ok (.aload 4, 2) := by decide +kernel
theorem dr_cX17_share_186 : decode cX17_share 186 = .ok (.getfield 117, 3) := by decide +kernel
theorem dr_cX17_share_189 : decode cX17_share 189 = .ok (.iload 5, 2) := by decide +kernel
theorem dr_cX17_share_191 : decode cX17_share 191 = .ok (.invokevirtual 124, 3) := by decide +kernel
theorem dr_cX17_share_194 : decode cX17_share 194 = .ok (.checkcast 40, 3) := by decide +kernel
theorem dr_cX17_share_197 : decode cX17_share 197 = .ok (.astore 6, 2) := by decide +kernel
theorem dr_cX17_share_199 : decode cX17_share 199 = .ok (.aload 6, 2) := by decide +kernel
theorem dr_cX17_share_201 : decode cX17_share 201 = .ok (.getfield 39, 3) := by decide +kernel
theorem dr_cX17_share_204 : decode cX17_share 204 = .ok (.bipush 21, 2) := by decide +kernel
theorem dr_cX17_share_206 : decode cX17_share 206 = .ok (.if_icmp .eq 13, 3) := by decide +kernel
theorem dr_cX17_share_219 : decode cX17_share 219 = .ok (.aload 6, 2) := by decide +kernel
theorem dr_cX17_share_221 : decode cX17_share 221 = .ok (.aload_n 0, 1) := by decide +kernel
theorem dr_cX17_share_222 : decode cX17_share 222 = .ok (.getfield 221, 3) := by decide +kernel
theorem wr_7_93 : (Jvm.Cond.fieldLink "SpillForgeModel" (221 : Nat) "SpillForgeModel" "slotOf" "[I") ∈ gw := gw_7 93 rfl rfl
theorem dr_cX17_share_225 : decode cX17_share 225 = .ok (.aload 6, 2) := by decide +kernel
theorem dr_cX17_share_227 : decode cX17_share 227 = .ok (.getfield 45, 3) := by decide +kernel
theorem dr_cX17_share_230 : decode cX17_share 230 = .ok (.iaload, 1) := by decide +kernel
theorem dr_cX17_share_231 : decode cX17_share 231 = .ok (.putfield 45, 3) := by decide +kernel
theorem dr_cX17_share_234 : decode cX17_share 234 = .ok (.iinc 5 1, 3) := by decide +kernel
theorem dr_cX17_share_237 : decode cX17_share 237 = .ok (.goto (-66), 3) := by decide +kernel
theorem dr_cX17_share_209 : decode cX17_share 209 = .ok (.aload 6, 2) := by decide +kernel
theorem dr_cX17_share_211 : decode cX17_share 211 = .ok (.getfield 39, 3) := by decide +kernel
theorem dr_cX17_share_214 : decode cX17_share 214 = .ok (.bipush 23, 2) := by decide +kernel
theorem dr_cX17_share_216 : decode cX17_share 216 = .ok (.if_icmp .ne 18, 3) := by decide +kernel
theorem dr_cX17_share_18 : decode cX17_share 18 = .ok (.iconst 0, 1) := by decide +kernel
theorem dr_cX17_share_19 : decode cX17_share 19 = .ok (.istore 4, 2) := by decide +kernel
theorem dr_cX17_share_21 : decode cX17_share 21 = .ok (.iconst 0, 1) := by decide +kernel
theorem dr_cX17_share_22 : decode cX17_share 22 = .ok (.istore 5, 2) := by decide +kernel
theorem dr_cX17_share_24 : decode cX17_share 24 = .ok (.iload 5, 2) := by decide +kernel
theorem dr_cX17_share_26 : decode cX17_share 26 = .ok (.iload_n 3, 1) := by decide +kernel
theorem dr_cX17_share_27 : decode cX17_share 27 = .ok (.if_icmp .ge 17, 3) := by decide +kernel
theorem dr_cX17_share_44 : decode cX17_share 44 = .ok (.iconst 0, 1) := by decide +kernel
theorem dr_cX17_share_45 : decode cX17_share 45 = .ok (.istore 5, 2) := by decide +kernel
theorem dr_cX17_share_47 : decode cX17_share 47 = .ok (.iload 5, 2) := by decide +kernel
theorem dr_cX17_share_49 : decode cX17_share 49 = .ok (.iload_n 3, 1) := by decide +kernel
theorem dr_cX17_share_50 : decode cX17_share 50 = .ok (.if_icmp .ge 46, 3) := by decide +kernel
theorem dr_cX17_share_96 : decode cX17_share 96 = .ok (.iload 4, 2) := by decide +kernel
theorem dr_cX17_share_98 : decode cX17_share 98 = .ok (.iload_n 3, 1) := by decide +kernel
theorem dr_cX17_share_99 : decode cX17_share 99 = .ok (.if_icmp .ge 20, 3) := by decide +kernel
theorem dr_cX17_share_119 : decode cX17_share 119 = .ok (.aload_n 0, 1) := by decide +kernel
theorem dr_cX17_share_120 : decode cX17_share 120 = .ok (.getfield 221, 3) := by decide +kernel
theorem dr_cX17_share_123 : decode cX17_share 123 = .ok (.iload_n 3, 1) := by decide +kernel
theorem dr_cX17_share_124 : decode cX17_share 124 = .ok (.iload 4, 2) := by decide +kernel
theorem dr_cX17_share_126 : decode cX17_share 126 = .ok (.iastore, 1) := by decide +kernel
theorem dr_cX17_share_127 : decode cX17_share 127 = .ok (.aload_n 0, 1) := by decide +kernel
theorem dr_cX17_share_128 : decode cX17_share 128 = .ok (.getfield 131, 3) := by decide +kernel
theorem dr_cX17_share_131 : decode cX17_share 131 = .ok (.iload_n 3, 1) := by decide +kernel
theorem dr_cX17_share_132 : decode cX17_share 132 = .ok (.baload, 1) := by decide +kernel
theorem dr_cX17_share_133 : decode cX17_share 133 = .ok (.ifCond .eq 12, 3) := by decide +kernel
theorem dr_cX17_share_145 : decode cX17_share 145 = .ok (.iinc 3 1, 3) := by decide +kernel
theorem dr_cX17_share_148 : decode cX17_share 148 = .ok (.goto (-138), 3) := by decide +kernel
theorem dr_cX17_share_136 : decode cX17_share 136 = .ok (.iload_n 2, 1) := by decide +kernel
theorem dr_cX17_share_137 : decode cX17_share 137 = .ok (.iload 4, 2) := by decide +kernel
theorem dr_cX17_share_139 : decode cX17_share 139 = .ok (.iconst 1, 1) := by decide +kernel
theorem dr_cX17_share_140 : decode cX17_share 140 = .ok (.iadd, 1) := by decide +kernel
theorem dr_cX17_share_141 : decode cX17_share 141 = .ok (.invokestatic 189, 3) := by decide +kernel
theorem dr_cX17_share_144 : decode cX17_share 144 = .ok (.istore_n 2, 1) := by decide +kernel
theorem dr_cX17_share_102 : decode cX17_share 102 = .ok (.aload_n 0, 1) := by decide +kernel
theorem dr_cX17_share_103 : decode cX17_share 103 = .ok (.getfield 209, 3) := by decide +kernel
theorem dr_cX17_share_106 : decode cX17_share 106 = .ok (.iload 4, 2) := by decide +kernel
theorem dr_cX17_share_108 : decode cX17_share 108 = .ok (.iaload, 1) := by decide +kernel
theorem dr_cX17_share_109 : decode cX17_share 109 = .ok (.iconst 1, 1) := by decide +kernel
theorem dr_cX17_share_110 : decode cX17_share 110 = .ok (.if_icmp .ne 9, 3) := by decide +kernel
theorem dr_cX17_share_113 : decode cX17_share 113 = .ok (.iinc 4 1, 3) := by decide +kernel
theorem dr_cX17_share_116 : decode cX17_share 116 = .ok (.goto (-20), 3) := by decide +kernel
theorem dr_cX17_share_53 : decode cX17_share 53 = .ok (.aload_n 0, 1) := by decide +kernel
theorem dr_cX17_share_54 : decode cX17_share 54 = .ok (.getfield 131, 3) := by decide +kernel
theorem dr_cX17_share_57 : decode cX17_share 57 = .ok (.iload 5, 2) := by decide +kernel
theorem dr_cX17_share_59 : decode cX17_share 59 = .ok (.baload, 1) := by decide +kernel
theorem dr_cX17_share_60 : decode cX17_share 60 = .ok (.ifCond .eq 30, 3) := by decide +kernel
theorem dr_cX17_share_90 : decode cX17_share 90 = .ok (.iinc 5 1, 3) := by decide +kernel
theorem dr_cX17_share_93 : decode cX17_share 93 = .ok (.goto (-46), 3) := by decide +kernel
theorem dr_cX17_share_63 : decode cX17_share 63 = .ok (.aload_n 0, 1) := by decide +kernel
theorem dr_cX17_share_64 : decode cX17_share 64 = .ok (.getfield 135, 3) := by decide +kernel
theorem dr_cX17_share_67 : decode cX17_share 67 = .ok (.iload_n 3, 1) := by decide +kernel
theorem dr_cX17_share_68 : decode cX17_share 68 = .ok (.aaload, 1) := by decide +kernel
theorem dr_cX17_share_69 : decode cX17_share 69 = .ok (.iload 5, 2) := by decide +kernel
theorem dr_cX17_share_71 : decode cX17_share 71 = .ok (.invokestatic 145, 3) := by decide +kernel
theorem dr_cX17_share_74 : decode cX17_share 74 = .ok (.ifCond .eq 16, 3) := by decide +kernel
theorem dr_cX17_share_77 : decode cX17_share 77 = .ok (.aload_n 0, 1) := by decide +kernel
theorem dr_cX17_share_78 : decode cX17_share 78 = .ok (.getfield 209, 3) := by decide +kernel
theorem dr_cX17_share_81 : decode cX17_share 81 = .ok (.aload_n 0, 1) := by decide +kernel
theorem dr_cX17_share_82 : decode cX17_share 82 = .ok (.getfield 221, 3) := by decide +kernel
theorem dr_cX17_share_85 : decode cX17_share 85 = .ok (.iload 5, 2) := by decide +kernel
theorem dr_cX17_share_87 : decode cX17_share 87 = .ok (.iaload, 1) := by decide +kernel
theorem dr_cX17_share_88 : decode cX17_share 88 = .ok (.iconst 1, 1) := by decide +kernel
theorem dr_cX17_share_89 : decode cX17_share 89 = .ok (.iastore, 1) := by decide +kernel
theorem dr_cX17_share_30 : decode cX17_share 30 = .ok (.aload_n 0, 1) := by decide +kernel
theorem dr_cX17_share_31 : decode cX17_share 31 = .ok (.getfield 209, 3) := by decide +kernel
theorem dr_cX17_share_34 : decode cX17_share 34 = .ok (.iload 5, 2) := by decide +kernel
theorem dr_cX17_share_36 : decode cX17_share 36 = .ok (.iconst 0, 1) := by decide +kernel
theorem dr_cX17_share_37 : decode cX17_share 37 = .ok (.iastore, 1) := by decide +kernel
theorem dr_cX17_share_38 : decode cX17_share 38 = .ok (.iinc 5 1, 3) := by decide +kernel
theorem dr_cX17_share_41 : decode cX17_share 41 = .ok (.goto (-17), 3) := by decide +kernel
abbrev ky_334813_SpillForgeModel_coloured : gKey := (cX17_coloured, 2, "SpillForgeModel", none, [], "coloured", fun _ _ => True)
def pt_334813_SpillForgeModel_coloured (D : va_G) (I : FieldType → ClassId) (γ el : Nat → Nat → Nat) (P334808 : List Nat) (F334809 : Nat → va_E) (q334810 : Nat) (q334811 : Nat) : Option Value → va_W → Nat → Nat → Prop := fun r w dc ds => ∃ (F335046 : Nat → va_E), r = none ∧ w = va_pl P334808 F335046 ∧ RS D I P334808 F335046 γ el ∧ rStr γ [1] F334809 F335046 ∧ dc ≤ 0 ∧ ds ≤ 0 ∧ (∀ b, b ≠ q334811 → F335046 b = F334809 b) ∧ (F335046 q334810 = F334809 q334810) ∧ (F335046 (γ 9 3) = F334809 (γ 9 3)) ∧ (F335046 (γ 9 17) = F334809 (γ 9 17))
set_option maxRecDepth 100000 in
set_option maxHeartbeats 4000000 in
theorem ct_334813_SpillForgeModel_coloured (l : Launch) (hl0 : l.stackTraces = false) (D : va_G) (I : FieldType → ClassId) (γ el : Nat → Nat → Nat) (P334808 : List Nat) (F334809 : Nat → va_E) (q334810 : Nat) (q334811 : Nat) (hT : RS D I P334808 F334809 γ el) (htq334810 : rKd γ q334810 10) (htq334811 : rKd γ q334811 1) (x334812 : (rNm (fun n => 0 ≤ (cB (F334809 (γ 9 17)) n).toInt) (F334809 q334811))) : CtA (gV D I) l yX17_coloured cX17_coloured 2 none 1 20 0 0 [.ref q334810, .ref q334811] (va_pl P334808 F334809) (pt_334813_SpillForgeModel_coloured D I γ el P334808 F334809 q334810 q334811) gNA := by
  refine CtA_of hl0 (by decide) (Nat.le_of_ble_eq_true rfl) ?_
  have hm334814 : q334810 ∈ P334808 := RS_m hT htq334810 (by decide)
  obtain ⟨q334816, q334817, p334818, p334819, p334820, p334821, p334822, p334823, p334824, p334825, p334826, p334827, p334828, p334829, p334830, p334831, p334832, he334815, hB334859, ht334833, ht334834, ht334835, ht334836, ht334837, ht334838, ht334839, ht334840, ht334841, ht334842, ht334843, ht334844, ht334845, ht334846, ht334847, ht334848, ht334849, ht334850, ht334851, ht334852, ht334853, ht334854, ht334855, ht334856, hB334860⟩ := show rk_10 γ (F334809 q334810) from RS_o hT htq334810
  have hm334861 : (γ 9 17) ∈ P334808 := RS_m hT ht334846 (by decide)
  obtain ⟨f334863, he334862, bf334863⟩ := show rk_20 I (F334809 (γ 9 17)) from RS_o hT ht334846
  have hm334864 : q334811 ∈ P334808 := RS_m hT htq334811 (by decide)
  obtain ⟨p334866, p334867, p334868, p334869, p334870, p334871, p334872, he334865, bp334866, bp334867, bp334870, bp334871, bp334872, r334873, r334874, r334875, r334876⟩ := show rk_1 γ q334811 (F334809 q334811) from RS_o hT htq334811
  have bp334868 := gB_any p334868
  have bp334869 := gB_any p334869
  have cq334877 : ∀ n, nmV p334866.toInt p334867.toInt p334868.toInt p334869.toInt p334871.toInt p334872.toInt n → 0 ≤ (f334863 n).toInt := by have z := x334812; unfold rNm at z; rw [nmS_of he334865, cB_of he334862] at z; exact z
  refine G_aload_n 1 dr_cX17_coloured_0 rfl ?_
  refine Gw_callV (As := []) (gV_ok D I) (cp_214529_Row_usesA l hl0 D I P334808 F334809 q334811 p334866 p334867 p334868 p334869 p334870 p334871 p334872 hm334864 he334865 bp334866 bp334867 bp334870 bp334871 bp334872) dr_cX17_coloured_1 ⟨wr_10_192, wr_1_39, wr_10_195, by decide, rfl, (Nat.le_of_ble_eq_true rfl), (Nat.le_of_ble_eq_true rfl)⟩ wr_10_193 wr_10_194 hm334864 he334865 rfl (show 0 + 0 ≤ 0 by first | omega | decide) (show 0 + 0 ≤ 0 by first | omega | decide) (Nat.le_of_ble_eq_true rfl) (fun r334881 w334882 dc334878 ds334879 hp334880 => ?_) (fun _ _ _ _ _ z => z.elim)
  obtain ⟨o334883, rfl, rfl, hdc, hds, bo334883, x334884⟩ := hp334880
  change G _ _ _ _ _ _ _ (.int o334883 :: _) _ _ _
  refine G_widen (cs' := 0) (sl' := 0) (by omega) (by omega) ?_
  refine G_if_eq 20 dr_cX17_coloured_4 (by decide +kernel) (fun hc334885 => ?_) (fun hc334885 => ?_)
  · have r334886 : o334883.toInt = 0 := gj_eq hc334885 (show Int32.toInt 0 = 0 by decide)
    have bo334883' : gB o334883 0 0 := ⟨by omega, by omega⟩
    refine G_aload_n 1 dr_cX17_coloured_20 rfl ?_
    refine Gw_callV (As := []) (gV_ok D I) (cp_214553_Row_usesB l hl0 D I P334808 F334809 q334811 p334866 p334867 p334868 p334869 p334870 p334871 p334872 hm334864 he334865 bp334866 bp334867 bp334870 bp334871 bp334872) dr_cX17_coloured_21 ⟨wr_10_196, wr_1_39, wr_10_199, by decide, rfl, (Nat.le_of_ble_eq_true rfl), (Nat.le_of_ble_eq_true rfl)⟩ wr_10_197 wr_10_198 hm334864 he334865 rfl (show 0 + 0 ≤ 0 by first | omega | decide) (show 0 + 0 ≤ 0 by first | omega | decide) (Nat.le_of_ble_eq_true rfl) (fun r334890 w334891 dc334887 ds334888 hp334889 => ?_) (fun _ _ _ _ _ z => z.elim)
    obtain ⟨o334892, rfl, rfl, hdc, hds, bo334892, x334893⟩ := hp334889
    change G _ _ _ _ _ _ _ (.int o334892 :: _) _ _ _
    refine G_widen (cs' := 0) (sl' := 0) (by omega) (by omega) ?_
    refine G_if_eq 40 dr_cX17_coloured_24 (by decide +kernel) (fun hc334894 => ?_) (fun hc334894 => ?_)
    · have r334895 : o334892.toInt = 0 := gj_eq hc334894 (show Int32.toInt 0 = 0 by decide)
      have bo334892' : gB o334892 0 0 := ⟨by omega, by omega⟩
      refine G_aload_n 1 dr_cX17_coloured_40 rfl ?_
      refine Gw_callV (As := []) (gV_ok D I) (cp_214574_Row_sets l hl0 D I P334808 F334809 q334811 p334866 p334867 p334868 p334869 p334870 p334871 p334872 hm334864 he334865 bp334866 bp334867 bp334870 bp334871 bp334872) dr_cX17_coloured_41 ⟨wr_10_181, wr_1_39, wr_10_184, by decide, rfl, (Nat.le_of_ble_eq_true rfl), (Nat.le_of_ble_eq_true rfl)⟩ wr_10_182 wr_10_183 hm334864 he334865 rfl (show 0 + 0 ≤ 0 by first | omega | decide) (show 0 + 0 ≤ 0 by first | omega | decide) (Nat.le_of_ble_eq_true rfl) (fun r334899 w334900 dc334896 ds334897 hp334898 => ?_) (fun _ _ _ _ _ z => z.elim)
      obtain ⟨o334901, rfl, rfl, hdc, hds, bo334901, x334902⟩ := hp334898
      change G _ _ _ _ _ _ _ (.int o334901 :: _) _ _ _
      refine G_widen (cs' := 0) (sl' := 0) (by omega) (by omega) ?_
      refine G_if_eq 60 dr_cX17_coloured_44 (by decide +kernel) (fun hc334903 => ?_) (fun hc334903 => ?_)
      · have r334904 : o334901.toInt = 0 := gj_eq hc334903 (show Int32.toInt 0 = 0 by decide)
        have bo334901' : gB o334901 0 0 := ⟨by omega, by omega⟩
        exact G_vretA dr_cX17_coloured_60 rfl (Nat.le_of_ble_eq_true rfl) (Nat.le_of_ble_eq_true rfl) ⟨F334809, rfl, rfl, hT, (rStr_rf (γ := γ) (W := [1]) (F := F334809)), (Nat.le_of_ble_eq_true rfl), (Nat.le_of_ble_eq_true rfl), (fun _ _ => rfl), rfl, rfl, rfl⟩
      · have r334905 : o334901.toInt ≠ 0 := gj_neq hc334903 (show Int32.toInt 0 = 0 by decide)
        have bo334901' : gB o334901 1 1 := ⟨by omega, by omega⟩
        refine G_aload_n 1 dr_cX17_coloured_47 rfl ?_
        refine G_aload_n 0 dr_cX17_coloured_48 rfl ?_
        refine Gp_get 17 hm334814 he334815 dr_cX17_coloured_49 (gk_X17 D I) (Nat.le_of_ble_eq_true rfl) wr_7_91 rfl ?_
        refine G_aload_n 1 dr_cX17_coloured_52 rfl ?_
        refine Gp_get 1 hm334864 he334865 dr_cX17_coloured_53 (gk_X15 D I) (Nat.le_of_ble_eq_true rfl) wr_9_182 rfl ?_
        refine Gp_iald 0 hm334861 he334862 dr_cX17_coloured_56 rfl (gB_in bp334867 (by decide) (by decide)) (G_nam fun z334906 hz334906 => ?_)
        have bz334906 : gB z334906 (-1) 31 := by rw [hz334906]; exact bf334863 _
        have r334907 : 0 ≤ z334906.toInt := by rw [hz334906]; exact cq334877 _ (Or.inl ⟨by omega, rfl⟩)
        have bz334906' : gB z334906 0 31 := ⟨by omega, by omega⟩
        refine Gp_put 1 hm334864 he334865 dr_cX17_coloured_57 (gk_X15 D I) (Nat.le_of_ble_eq_true rfl) wr_9_182 rfl rfl rfl (Nat.le_of_ble_eq_true rfl) (fun F334908 e334909 n334910 => ?_)
        have he334911 : F334908 q334810 = .inr (22, [.ref (γ 9 0), .ref (γ 9 1), .ref (γ 9 2), .ref (γ 9 3), .ref (γ 9 4), .ref (γ 9 5), .ref (γ 9 6), .ref (γ 9 7), .ref (γ 9 8), .int p334818, .int p334819, .int p334820, .int p334821, .int p334822, .int p334823, .ref (γ 9 15), .ref (γ 9 16), .ref (γ 9 17), .ref (γ 9 18), .ref (γ 9 19), .ref (γ 9 20), .ref (γ 9 21), .ref (γ 9 22), .int p334824, .int p334825, .int p334826, .int p334827, .int p334828, .ref q334816, .ref (γ 9 29), .int p334829, .ref (γ 9 31), .int p334830, .int p334831, .int p334832, .ref q334817]) := (n334910 q334810 (rn_oo he334815 he334865 (by decide))).trans he334815
        have he334912 : F334908 (γ 9 17) = .inl (I .int, 2000, .inl f334863) := (n334910 (γ 9 17) (rn_ao he334862 he334865)).trans he334862
        have he334913 : F334908 q334811 = .inr (20, [.int p334866, .int z334906, .int p334868, .int p334869, .int p334870, .int p334871, .int p334872]) := e334909
        have hs334914 : rStr γ [1] F334809 F334908 := rStr_pu2 (rStr_rf (γ := γ) (W := [1]) (F := F334809)) n334910 htq334811 (by decide)
        have kp334915 : F334908 q334810 = F334809 q334810 := n334910 q334810 (rn_ty htq334810 htq334811 (by decide))
        have kp334916 : F334908 (γ 9 3) = F334809 (γ 9 3) := n334910 (γ 9 3) (rn_ty ht334838 htq334811 (by decide))
        have kp334917 : F334908 (γ 9 17) = F334809 (γ 9 17) := n334910 (γ 9 17) (rn_ty ht334846 htq334811 (by decide))
        have hT334918 : RS D I P334808 F334908 γ el := RS_set hT n334910 htq334811 (by decide) ⟨p334866, z334906, p334868, p334869, p334870, p334871, p334872, he334913, bp334866, (gB_w bz334906' (by decide) (by decide)), bp334870, bp334871, bp334872, (by omega), (by omega), (by omega), (by omega)⟩
        have of334919 : ∀ b, b ≠ q334811 → F334908 b = F334809 b := fun b hb => n334910 b hb
        exact G_vretA dr_cX17_coloured_60 rfl (Nat.le_of_ble_eq_true rfl) (Nat.le_of_ble_eq_true rfl) ⟨F334908, rfl, rfl, hT334918, hs334914, (Nat.le_of_ble_eq_true rfl), (Nat.le_of_ble_eq_true rfl), of334919, kp334915, kp334916, kp334917⟩
    · have r334920 : o334892.toInt ≠ 0 := gj_neq hc334894 (show Int32.toInt 0 = 0 by decide)
      have bo334892' : gB o334892 1 1 := ⟨by omega, by omega⟩
      refine G_aload_n 1 dr_cX17_coloured_27 rfl ?_
      refine G_aload_n 0 dr_cX17_coloured_28 rfl ?_
      refine Gp_get 17 hm334814 he334815 dr_cX17_coloured_29 (gk_X17 D I) (Nat.le_of_ble_eq_true rfl) wr_7_91 rfl ?_
      refine G_aload_n 1 dr_cX17_coloured_32 rfl ?_
      refine Gp_get 3 hm334864 he334865 dr_cX17_coloured_33 (gk_X15 D I) (Nat.le_of_ble_eq_true rfl) wr_9_190 rfl ?_
      refine Gp_iald 0 hm334861 he334862 dr_cX17_coloured_36 rfl (gB_inr (by omega) (by omega)) (G_nam fun z334921 hz334921 => ?_)
      have bz334921 : gB z334921 (-1) 31 := by rw [hz334921]; exact bf334863 _
      have r334922 : 0 ≤ z334921.toInt := by rw [hz334921]; exact cq334877 _ (Or.inr (Or.inr ⟨by omega, rfl⟩))
      have bz334921' : gB z334921 0 31 := ⟨by omega, by omega⟩
      refine Gp_put 3 hm334864 he334865 dr_cX17_coloured_37 (gk_X15 D I) (Nat.le_of_ble_eq_true rfl) wr_9_190 rfl rfl rfl (Nat.le_of_ble_eq_true rfl) (fun F334923 e334924 n334925 => ?_)
      have he334926 : F334923 q334810 = .inr (22, [.ref (γ 9 0), .ref (γ 9 1), .ref (γ 9 2), .ref (γ 9 3), .ref (γ 9 4), .ref (γ 9 5), .ref (γ 9 6), .ref (γ 9 7), .ref (γ 9 8), .int p334818, .int p334819, .int p334820, .int p334821, .int p334822, .int p334823, .ref (γ 9 15), .ref (γ 9 16), .ref (γ 9 17), .ref (γ 9 18), .ref (γ 9 19), .ref (γ 9 20), .ref (γ 9 21), .ref (γ 9 22), .int p334824, .int p334825, .int p334826, .int p334827, .int p334828, .ref q334816, .ref (γ 9 29), .int p334829, .ref (γ 9 31), .int p334830, .int p334831, .int p334832, .ref q334817]) := (n334925 q334810 (rn_oo he334815 he334865 (by decide))).trans he334815
      have he334927 : F334923 (γ 9 17) = .inl (I .int, 2000, .inl f334863) := (n334925 (γ 9 17) (rn_ao he334862 he334865)).trans he334862
      have he334928 : F334923 q334811 = .inr (20, [.int p334866, .int p334867, .int p334868, .int z334921, .int p334870, .int p334871, .int p334872]) := e334924
      have hs334929 : rStr γ [1] F334809 F334923 := rStr_pu2 (rStr_rf (γ := γ) (W := [1]) (F := F334809)) n334925 htq334811 (by decide)
      have kp334930 : F334923 q334810 = F334809 q334810 := n334925 q334810 (rn_ty htq334810 htq334811 (by decide))
      have kp334931 : F334923 (γ 9 3) = F334809 (γ 9 3) := n334925 (γ 9 3) (rn_ty ht334838 htq334811 (by decide))
      have kp334932 : F334923 (γ 9 17) = F334809 (γ 9 17) := n334925 (γ 9 17) (rn_ty ht334846 htq334811 (by decide))
      refine G_aload_n 1 dr_cX17_coloured_40 rfl ?_
      have hT334933 : RS D I P334808 F334923 γ el := RS_set hT n334925 htq334811 (by decide) ⟨p334866, p334867, p334868, z334921, p334870, p334871, p334872, he334928, bp334866, bp334867, bp334870, bp334871, bp334872, (by omega), (by omega), (by omega), (by omega)⟩
      have of334934 : ∀ b, b ≠ q334811 → F334923 b = F334809 b := fun b hb => n334925 b hb
      refine Gw_callV (As := []) (gV_ok D I) (cp_214574_Row_sets l hl0 D I P334808 F334923 q334811 p334866 p334867 p334868 z334921 p334870 p334871 p334872 hm334864 he334928 bp334866 bp334867 bp334870 bp334871 bp334872) dr_cX17_coloured_41 ⟨wr_10_181, wr_1_39, wr_10_184, by decide, rfl, (Nat.le_of_ble_eq_true rfl), (Nat.le_of_ble_eq_true rfl)⟩ wr_10_182 wr_10_183 hm334864 he334928 rfl (show 0 + 0 ≤ 0 by first | omega | decide) (show 0 + 0 ≤ 0 by first | omega | decide) (Nat.le_of_ble_eq_true rfl) (fun r334938 w334939 dc334935 ds334936 hp334937 => ?_) (fun _ _ _ _ _ z => z.elim)
      obtain ⟨o334940, rfl, rfl, hdc, hds, bo334940, x334941⟩ := hp334937
      change G _ _ _ _ _ _ _ (.int o334940 :: _) _ _ _
      refine G_widen (cs' := 0) (sl' := 0) (by omega) (by omega) ?_
      refine G_if_eq 60 dr_cX17_coloured_44 (by decide +kernel) (fun hc334942 => ?_) (fun hc334942 => ?_)
      · have r334943 : o334940.toInt = 0 := gj_eq hc334942 (show Int32.toInt 0 = 0 by decide)
        have bo334940' : gB o334940 0 0 := ⟨by omega, by omega⟩
        exact G_vretA dr_cX17_coloured_60 rfl (Nat.le_of_ble_eq_true rfl) (Nat.le_of_ble_eq_true rfl) ⟨F334923, rfl, rfl, hT334933, hs334929, (Nat.le_of_ble_eq_true rfl), (Nat.le_of_ble_eq_true rfl), of334934, kp334930, kp334931, kp334932⟩
      · have r334944 : o334940.toInt ≠ 0 := gj_neq hc334942 (show Int32.toInt 0 = 0 by decide)
        have bo334940' : gB o334940 1 1 := ⟨by omega, by omega⟩
        refine G_aload_n 1 dr_cX17_coloured_47 rfl ?_
        refine G_aload_n 0 dr_cX17_coloured_48 rfl ?_
        refine Gp_get 17 hm334814 he334926 dr_cX17_coloured_49 (gk_X17 D I) (Nat.le_of_ble_eq_true rfl) wr_7_91 rfl ?_
        refine G_aload_n 1 dr_cX17_coloured_52 rfl ?_
        refine Gp_get 1 hm334864 he334928 dr_cX17_coloured_53 (gk_X15 D I) (Nat.le_of_ble_eq_true rfl) wr_9_182 rfl ?_
        refine Gp_iald 0 hm334861 he334927 dr_cX17_coloured_56 rfl (gB_in bp334867 (by decide) (by decide)) (G_nam fun z334945 hz334945 => ?_)
        have bz334945 : gB z334945 (-1) 31 := by rw [hz334945]; exact bf334863 _
        have r334946 : 0 ≤ z334945.toInt := by rw [hz334945]; exact cq334877 _ (Or.inl ⟨by omega, rfl⟩)
        have bz334945' : gB z334945 0 31 := ⟨by omega, by omega⟩
        refine Gp_put 1 hm334864 he334928 dr_cX17_coloured_57 (gk_X15 D I) (Nat.le_of_ble_eq_true rfl) wr_9_182 rfl rfl rfl (Nat.le_of_ble_eq_true rfl) (fun F334947 e334948 n334949 => ?_)
        have he334950 : F334947 q334810 = .inr (22, [.ref (γ 9 0), .ref (γ 9 1), .ref (γ 9 2), .ref (γ 9 3), .ref (γ 9 4), .ref (γ 9 5), .ref (γ 9 6), .ref (γ 9 7), .ref (γ 9 8), .int p334818, .int p334819, .int p334820, .int p334821, .int p334822, .int p334823, .ref (γ 9 15), .ref (γ 9 16), .ref (γ 9 17), .ref (γ 9 18), .ref (γ 9 19), .ref (γ 9 20), .ref (γ 9 21), .ref (γ 9 22), .int p334824, .int p334825, .int p334826, .int p334827, .int p334828, .ref q334816, .ref (γ 9 29), .int p334829, .ref (γ 9 31), .int p334830, .int p334831, .int p334832, .ref q334817]) := (n334949 q334810 (rn_oo he334926 he334928 (by decide))).trans he334926
        have he334951 : F334947 (γ 9 17) = .inl (I .int, 2000, .inl f334863) := (n334949 (γ 9 17) (rn_ao he334927 he334928)).trans he334927
        have he334952 : F334947 q334811 = .inr (20, [.int p334866, .int z334945, .int p334868, .int z334921, .int p334870, .int p334871, .int p334872]) := e334948
        have hs334953 : rStr γ [1] F334809 F334947 := rStr_pu2 hs334929 n334949 htq334811 (by decide)
        have kp334954 : F334947 q334810 = F334809 q334810 := (n334949 q334810 (rn_ty htq334810 htq334811 (by decide))).trans kp334930
        have kp334955 : F334947 (γ 9 3) = F334809 (γ 9 3) := (n334949 (γ 9 3) (rn_ty ht334838 htq334811 (by decide))).trans kp334931
        have kp334956 : F334947 (γ 9 17) = F334809 (γ 9 17) := (n334949 (γ 9 17) (rn_ty ht334846 htq334811 (by decide))).trans kp334932
        have hT334957 : RS D I P334808 F334947 γ el := RS_set hT334933 n334949 htq334811 (by decide) ⟨p334866, z334945, p334868, z334921, p334870, p334871, p334872, he334952, bp334866, (gB_w bz334945' (by decide) (by decide)), bp334870, bp334871, bp334872, (by omega), (by omega), (by omega), (by omega)⟩
        have of334958 : ∀ b, b ≠ q334811 → F334947 b = F334809 b := fun b hb => (n334949 b hb).trans (of334934 b hb)
        exact G_vretA dr_cX17_coloured_60 rfl (Nat.le_of_ble_eq_true rfl) (Nat.le_of_ble_eq_true rfl) ⟨F334947, rfl, rfl, hT334957, hs334953, (Nat.le_of_ble_eq_true rfl), (Nat.le_of_ble_eq_true rfl), of334958, kp334954, kp334955, kp334956⟩
  · have r334959 : o334883.toInt ≠ 0 := gj_neq hc334885 (show Int32.toInt 0 = 0 by decide)
    have bo334883' : gB o334883 1 1 := ⟨by omega, by omega⟩
    refine G_aload_n 1 dr_cX17_coloured_7 rfl ?_
    refine G_aload_n 0 dr_cX17_coloured_8 rfl ?_
    refine Gp_get 17 hm334814 he334815 dr_cX17_coloured_9 (gk_X17 D I) (Nat.le_of_ble_eq_true rfl) wr_7_91 rfl ?_
    refine G_aload_n 1 dr_cX17_coloured_12 rfl ?_
    refine Gp_get 2 hm334864 he334865 dr_cX17_coloured_13 (gk_X15 D I) (Nat.le_of_ble_eq_true rfl) wr_9_186 rfl ?_
    refine Gp_iald 0 hm334861 he334862 dr_cX17_coloured_16 rfl (gB_inr (by omega) (by omega)) (G_nam fun z334960 hz334960 => ?_)
    have bz334960 : gB z334960 (-1) 31 := by rw [hz334960]; exact bf334863 _
    have r334961 : 0 ≤ z334960.toInt := by rw [hz334960]; exact cq334877 _ (Or.inr (Or.inl ⟨by omega, rfl⟩))
    have bz334960' : gB z334960 0 31 := ⟨by omega, by omega⟩
    refine Gp_put 2 hm334864 he334865 dr_cX17_coloured_17 (gk_X15 D I) (Nat.le_of_ble_eq_true rfl) wr_9_186 rfl rfl rfl (Nat.le_of_ble_eq_true rfl) (fun F334962 e334963 n334964 => ?_)
    have he334965 : F334962 q334810 = .inr (22, [.ref (γ 9 0), .ref (γ 9 1), .ref (γ 9 2), .ref (γ 9 3), .ref (γ 9 4), .ref (γ 9 5), .ref (γ 9 6), .ref (γ 9 7), .ref (γ 9 8), .int p334818, .int p334819, .int p334820, .int p334821, .int p334822, .int p334823, .ref (γ 9 15), .ref (γ 9 16), .ref (γ 9 17), .ref (γ 9 18), .ref (γ 9 19), .ref (γ 9 20), .ref (γ 9 21), .ref (γ 9 22), .int p334824, .int p334825, .int p334826, .int p334827, .int p334828, .ref q334816, .ref (γ 9 29), .int p334829, .ref (γ 9 31), .int p334830, .int p334831, .int p334832, .ref q334817]) := (n334964 q334810 (rn_oo he334815 he334865 (by decide))).trans he334815
    have he334966 : F334962 (γ 9 17) = .inl (I .int, 2000, .inl f334863) := (n334964 (γ 9 17) (rn_ao he334862 he334865)).trans he334862
    have he334967 : F334962 q334811 = .inr (20, [.int p334866, .int p334867, .int z334960, .int p334869, .int p334870, .int p334871, .int p334872]) := e334963
    have hs334968 : rStr γ [1] F334809 F334962 := rStr_pu2 (rStr_rf (γ := γ) (W := [1]) (F := F334809)) n334964 htq334811 (by decide)
    have kp334969 : F334962 q334810 = F334809 q334810 := n334964 q334810 (rn_ty htq334810 htq334811 (by decide))
    have kp334970 : F334962 (γ 9 3) = F334809 (γ 9 3) := n334964 (γ 9 3) (rn_ty ht334838 htq334811 (by decide))
    have kp334971 : F334962 (γ 9 17) = F334809 (γ 9 17) := n334964 (γ 9 17) (rn_ty ht334846 htq334811 (by decide))
    refine G_aload_n 1 dr_cX17_coloured_20 rfl ?_
    have hT334972 : RS D I P334808 F334962 γ el := RS_set hT n334964 htq334811 (by decide) ⟨p334866, p334867, z334960, p334869, p334870, p334871, p334872, he334967, bp334866, bp334867, bp334870, bp334871, bp334872, (by omega), (by omega), (by omega), (by omega)⟩
    have of334973 : ∀ b, b ≠ q334811 → F334962 b = F334809 b := fun b hb => n334964 b hb
    refine Gw_callV (As := []) (gV_ok D I) (cp_214553_Row_usesB l hl0 D I P334808 F334962 q334811 p334866 p334867 z334960 p334869 p334870 p334871 p334872 hm334864 he334967 bp334866 bp334867 bp334870 bp334871 bp334872) dr_cX17_coloured_21 ⟨wr_10_196, wr_1_39, wr_10_199, by decide, rfl, (Nat.le_of_ble_eq_true rfl), (Nat.le_of_ble_eq_true rfl)⟩ wr_10_197 wr_10_198 hm334864 he334967 rfl (show 0 + 0 ≤ 0 by first | omega | decide) (show 0 + 0 ≤ 0 by first | omega | decide) (Nat.le_of_ble_eq_true rfl) (fun r334977 w334978 dc334974 ds334975 hp334976 => ?_) (fun _ _ _ _ _ z => z.elim)
    obtain ⟨o334979, rfl, rfl, hdc, hds, bo334979, x334980⟩ := hp334976
    change G _ _ _ _ _ _ _ (.int o334979 :: _) _ _ _
    refine G_widen (cs' := 0) (sl' := 0) (by omega) (by omega) ?_
    refine G_if_eq 40 dr_cX17_coloured_24 (by decide +kernel) (fun hc334981 => ?_) (fun hc334981 => ?_)
    · have r334982 : o334979.toInt = 0 := gj_eq hc334981 (show Int32.toInt 0 = 0 by decide)
      have bo334979' : gB o334979 0 0 := ⟨by omega, by omega⟩
      refine G_aload_n 1 dr_cX17_coloured_40 rfl ?_
      refine Gw_callV (As := []) (gV_ok D I) (cp_214574_Row_sets l hl0 D I P334808 F334962 q334811 p334866 p334867 z334960 p334869 p334870 p334871 p334872 hm334864 he334967 bp334866 bp334867 bp334870 bp334871 bp334872) dr_cX17_coloured_41 ⟨wr_10_181, wr_1_39, wr_10_184, by decide, rfl, (Nat.le_of_ble_eq_true rfl), (Nat.le_of_ble_eq_true rfl)⟩ wr_10_182 wr_10_183 hm334864 he334967 rfl (show 0 + 0 ≤ 0 by first | omega | decide) (show 0 + 0 ≤ 0 by first | omega | decide) (Nat.le_of_ble_eq_true rfl) (fun r334986 w334987 dc334983 ds334984 hp334985 => ?_) (fun _ _ _ _ _ z => z.elim)
      obtain ⟨o334988, rfl, rfl, hdc, hds, bo334988, x334989⟩ := hp334985
      change G _ _ _ _ _ _ _ (.int o334988 :: _) _ _ _
      refine G_widen (cs' := 0) (sl' := 0) (by omega) (by omega) ?_
      refine G_if_eq 60 dr_cX17_coloured_44 (by decide +kernel) (fun hc334990 => ?_) (fun hc334990 => ?_)
      · have r334991 : o334988.toInt = 0 := gj_eq hc334990 (show Int32.toInt 0 = 0 by decide)
        have bo334988' : gB o334988 0 0 := ⟨by omega, by omega⟩
        exact G_vretA dr_cX17_coloured_60 rfl (Nat.le_of_ble_eq_true rfl) (Nat.le_of_ble_eq_true rfl) ⟨F334962, rfl, rfl, hT334972, hs334968, (Nat.le_of_ble_eq_true rfl), (Nat.le_of_ble_eq_true rfl), of334973, kp334969, kp334970, kp334971⟩
      · have r334992 : o334988.toInt ≠ 0 := gj_neq hc334990 (show Int32.toInt 0 = 0 by decide)
        have bo334988' : gB o334988 1 1 := ⟨by omega, by omega⟩
        refine G_aload_n 1 dr_cX17_coloured_47 rfl ?_
        refine G_aload_n 0 dr_cX17_coloured_48 rfl ?_
        refine Gp_get 17 hm334814 he334965 dr_cX17_coloured_49 (gk_X17 D I) (Nat.le_of_ble_eq_true rfl) wr_7_91 rfl ?_
        refine G_aload_n 1 dr_cX17_coloured_52 rfl ?_
        refine Gp_get 1 hm334864 he334967 dr_cX17_coloured_53 (gk_X15 D I) (Nat.le_of_ble_eq_true rfl) wr_9_182 rfl ?_
        refine Gp_iald 0 hm334861 he334966 dr_cX17_coloured_56 rfl (gB_in bp334867 (by decide) (by decide)) (G_nam fun z334993 hz334993 => ?_)
        have bz334993 : gB z334993 (-1) 31 := by rw [hz334993]; exact bf334863 _
        have r334994 : 0 ≤ z334993.toInt := by rw [hz334993]; exact cq334877 _ (Or.inl ⟨by omega, rfl⟩)
        have bz334993' : gB z334993 0 31 := ⟨by omega, by omega⟩
        refine Gp_put 1 hm334864 he334967 dr_cX17_coloured_57 (gk_X15 D I) (Nat.le_of_ble_eq_true rfl) wr_9_182 rfl rfl rfl (Nat.le_of_ble_eq_true rfl) (fun F334995 e334996 n334997 => ?_)
        have he334998 : F334995 q334810 = .inr (22, [.ref (γ 9 0), .ref (γ 9 1), .ref (γ 9 2), .ref (γ 9 3), .ref (γ 9 4), .ref (γ 9 5), .ref (γ 9 6), .ref (γ 9 7), .ref (γ 9 8), .int p334818, .int p334819, .int p334820, .int p334821, .int p334822, .int p334823, .ref (γ 9 15), .ref (γ 9 16), .ref (γ 9 17), .ref (γ 9 18), .ref (γ 9 19), .ref (γ 9 20), .ref (γ 9 21), .ref (γ 9 22), .int p334824, .int p334825, .int p334826, .int p334827, .int p334828, .ref q334816, .ref (γ 9 29), .int p334829, .ref (γ 9 31), .int p334830, .int p334831, .int p334832, .ref q334817]) := (n334997 q334810 (rn_oo he334965 he334967 (by decide))).trans he334965
        have he334999 : F334995 (γ 9 17) = .inl (I .int, 2000, .inl f334863) := (n334997 (γ 9 17) (rn_ao he334966 he334967)).trans he334966
        have he335000 : F334995 q334811 = .inr (20, [.int p334866, .int z334993, .int z334960, .int p334869, .int p334870, .int p334871, .int p334872]) := e334996
        have hs335001 : rStr γ [1] F334809 F334995 := rStr_pu2 hs334968 n334997 htq334811 (by decide)
        have kp335002 : F334995 q334810 = F334809 q334810 := (n334997 q334810 (rn_ty htq334810 htq334811 (by decide))).trans kp334969
        have kp335003 : F334995 (γ 9 3) = F334809 (γ 9 3) := (n334997 (γ 9 3) (rn_ty ht334838 htq334811 (by decide))).trans kp334970
        have kp335004 : F334995 (γ 9 17) = F334809 (γ 9 17) := (n334997 (γ 9 17) (rn_ty ht334846 htq334811 (by decide))).trans kp334971
        have hT335005 : RS D I P334808 F334995 γ el := RS_set hT334972 n334997 htq334811 (by decide) ⟨p334866, z334993, z334960, p334869, p334870, p334871, p334872, he335000, bp334866, (gB_w bz334993' (by decide) (by decide)), bp334870, bp334871, bp334872, (by omega), (by omega), (by omega), (by omega)⟩
        have of335006 : ∀ b, b ≠ q334811 → F334995 b = F334809 b := fun b hb => (n334997 b hb).trans (of334973 b hb)
        exact G_vretA dr_cX17_coloured_60 rfl (Nat.le_of_ble_eq_true rfl) (Nat.le_of_ble_eq_true rfl) ⟨F334995, rfl, rfl, hT335005, hs335001, (Nat.le_of_ble_eq_true rfl), (Nat.le_of_ble_eq_true rfl), of335006, kp335002, kp335003, kp335004⟩
    · have r335007 : o334979.toInt ≠ 0 := gj_neq hc334981 (show Int32.toInt 0 = 0 by decide)
      have bo334979' : gB o334979 1 1 := ⟨by omega, by omega⟩
      refine G_aload_n 1 dr_cX17_coloured_27 rfl ?_
      refine G_aload_n 0 dr_cX17_coloured_28 rfl ?_
      refine Gp_get 17 hm334814 he334965 dr_cX17_coloured_29 (gk_X17 D I) (Nat.le_of_ble_eq_true rfl) wr_7_91 rfl ?_
      refine G_aload_n 1 dr_cX17_coloured_32 rfl ?_
      refine Gp_get 3 hm334864 he334967 dr_cX17_coloured_33 (gk_X15 D I) (Nat.le_of_ble_eq_true rfl) wr_9_190 rfl ?_
      refine Gp_iald 0 hm334861 he334966 dr_cX17_coloured_36 rfl (gB_inr (by omega) (by omega)) (G_nam fun z335008 hz335008 => ?_)
      have bz335008 : gB z335008 (-1) 31 := by rw [hz335008]; exact bf334863 _
      have r335009 : 0 ≤ z335008.toInt := by rw [hz335008]; exact cq334877 _ (Or.inr (Or.inr ⟨by omega, rfl⟩))
      have bz335008' : gB z335008 0 31 := ⟨by omega, by omega⟩
      refine Gp_put 3 hm334864 he334967 dr_cX17_coloured_37 (gk_X15 D I) (Nat.le_of_ble_eq_true rfl) wr_9_190 rfl rfl rfl (Nat.le_of_ble_eq_true rfl) (fun F335010 e335011 n335012 => ?_)
      have he335013 : F335010 q334810 = .inr (22, [.ref (γ 9 0), .ref (γ 9 1), .ref (γ 9 2), .ref (γ 9 3), .ref (γ 9 4), .ref (γ 9 5), .ref (γ 9 6), .ref (γ 9 7), .ref (γ 9 8), .int p334818, .int p334819, .int p334820, .int p334821, .int p334822, .int p334823, .ref (γ 9 15), .ref (γ 9 16), .ref (γ 9 17), .ref (γ 9 18), .ref (γ 9 19), .ref (γ 9 20), .ref (γ 9 21), .ref (γ 9 22), .int p334824, .int p334825, .int p334826, .int p334827, .int p334828, .ref q334816, .ref (γ 9 29), .int p334829, .ref (γ 9 31), .int p334830, .int p334831, .int p334832, .ref q334817]) := (n335012 q334810 (rn_oo he334965 he334967 (by decide))).trans he334965
      have he335014 : F335010 (γ 9 17) = .inl (I .int, 2000, .inl f334863) := (n335012 (γ 9 17) (rn_ao he334966 he334967)).trans he334966
      have he335015 : F335010 q334811 = .inr (20, [.int p334866, .int p334867, .int z334960, .int z335008, .int p334870, .int p334871, .int p334872]) := e335011
      have hs335016 : rStr γ [1] F334809 F335010 := rStr_pu2 hs334968 n335012 htq334811 (by decide)
      have kp335017 : F335010 q334810 = F334809 q334810 := (n335012 q334810 (rn_ty htq334810 htq334811 (by decide))).trans kp334969
      have kp335018 : F335010 (γ 9 3) = F334809 (γ 9 3) := (n335012 (γ 9 3) (rn_ty ht334838 htq334811 (by decide))).trans kp334970
      have kp335019 : F335010 (γ 9 17) = F334809 (γ 9 17) := (n335012 (γ 9 17) (rn_ty ht334846 htq334811 (by decide))).trans kp334971
      refine G_aload_n 1 dr_cX17_coloured_40 rfl ?_
      have hT335020 : RS D I P334808 F335010 γ el := RS_set hT334972 n335012 htq334811 (by decide) ⟨p334866, p334867, z334960, z335008, p334870, p334871, p334872, he335015, bp334866, bp334867, bp334870, bp334871, bp334872, (by omega), (by omega), (by omega), (by omega)⟩
      have of335021 : ∀ b, b ≠ q334811 → F335010 b = F334809 b := fun b hb => (n335012 b hb).trans (of334973 b hb)
      refine Gw_callV (As := []) (gV_ok D I) (cp_214574_Row_sets l hl0 D I P334808 F335010 q334811 p334866 p334867 z334960 z335008 p334870 p334871 p334872 hm334864 he335015 bp334866 bp334867 bp334870 bp334871 bp334872) dr_cX17_coloured_41 ⟨wr_10_181, wr_1_39, wr_10_184, by decide, rfl, (Nat.le_of_ble_eq_true rfl), (Nat.le_of_ble_eq_true rfl)⟩ wr_10_182 wr_10_183 hm334864 he335015 rfl (show 0 + 0 ≤ 0 by first | omega | decide) (show 0 + 0 ≤ 0 by first | omega | decide) (Nat.le_of_ble_eq_true rfl) (fun r335025 w335026 dc335022 ds335023 hp335024 => ?_) (fun _ _ _ _ _ z => z.elim)
      obtain ⟨o335027, rfl, rfl, hdc, hds, bo335027, x335028⟩ := hp335024
      change G _ _ _ _ _ _ _ (.int o335027 :: _) _ _ _
      refine G_widen (cs' := 0) (sl' := 0) (by omega) (by omega) ?_
      refine G_if_eq 60 dr_cX17_coloured_44 (by decide +kernel) (fun hc335029 => ?_) (fun hc335029 => ?_)
      · have r335030 : o335027.toInt = 0 := gj_eq hc335029 (show Int32.toInt 0 = 0 by decide)
        have bo335027' : gB o335027 0 0 := ⟨by omega, by omega⟩
        exact G_vretA dr_cX17_coloured_60 rfl (Nat.le_of_ble_eq_true rfl) (Nat.le_of_ble_eq_true rfl) ⟨F335010, rfl, rfl, hT335020, hs335016, (Nat.le_of_ble_eq_true rfl), (Nat.le_of_ble_eq_true rfl), of335021, kp335017, kp335018, kp335019⟩
      · have r335031 : o335027.toInt ≠ 0 := gj_neq hc335029 (show Int32.toInt 0 = 0 by decide)
        have bo335027' : gB o335027 1 1 := ⟨by omega, by omega⟩
        refine G_aload_n 1 dr_cX17_coloured_47 rfl ?_
        refine G_aload_n 0 dr_cX17_coloured_48 rfl ?_
        refine Gp_get 17 hm334814 he335013 dr_cX17_coloured_49 (gk_X17 D I) (Nat.le_of_ble_eq_true rfl) wr_7_91 rfl ?_
        refine G_aload_n 1 dr_cX17_coloured_52 rfl ?_
        refine Gp_get 1 hm334864 he335015 dr_cX17_coloured_53 (gk_X15 D I) (Nat.le_of_ble_eq_true rfl) wr_9_182 rfl ?_
        refine Gp_iald 0 hm334861 he335014 dr_cX17_coloured_56 rfl (gB_in bp334867 (by decide) (by decide)) (G_nam fun z335032 hz335032 => ?_)
        have bz335032 : gB z335032 (-1) 31 := by rw [hz335032]; exact bf334863 _
        have r335033 : 0 ≤ z335032.toInt := by rw [hz335032]; exact cq334877 _ (Or.inl ⟨by omega, rfl⟩)
        have bz335032' : gB z335032 0 31 := ⟨by omega, by omega⟩
        refine Gp_put 1 hm334864 he335015 dr_cX17_coloured_57 (gk_X15 D I) (Nat.le_of_ble_eq_true rfl) wr_9_182 rfl rfl rfl (Nat.le_of_ble_eq_true rfl) (fun F335034 e335035 n335036 => ?_)
        have he335037 : F335034 q334810 = .inr (22, [.ref (γ 9 0), .ref (γ 9 1), .ref (γ 9 2), .ref (γ 9 3), .ref (γ 9 4), .ref (γ 9 5), .ref (γ 9 6), .ref (γ 9 7), .ref (γ 9 8), .int p334818, .int p334819, .int p334820, .int p334821, .int p334822, .int p334823, .ref (γ 9 15), .ref (γ 9 16), .ref (γ 9 17), .ref (γ 9 18), .ref (γ 9 19), .ref (γ 9 20), .ref (γ 9 21), .ref (γ 9 22), .int p334824, .int p334825, .int p334826, .int p334827, .int p334828, .ref q334816, .ref (γ 9 29), .int p334829, .ref (γ 9 31), .int p334830, .int p334831, .int p334832, .ref q334817]) := (n335036 q334810 (rn_oo he335013 he335015 (by decide))).trans he335013
        have he335038 : F335034 (γ 9 17) = .inl (I .int, 2000, .inl f334863) := (n335036 (γ 9 17) (rn_ao he335014 he335015)).trans he335014
        have he335039 : F335034 q334811 = .inr (20, [.int p334866, .int z335032, .int z334960, .int z335008, .int p334870, .int p334871, .int p334872]) := e335035
        have hs335040 : rStr γ [1] F334809 F335034 := rStr_pu2 hs335016 n335036 htq334811 (by decide)
        have kp335041 : F335034 q334810 = F334809 q334810 := (n335036 q334810 (rn_ty htq334810 htq334811 (by decide))).trans kp335017
        have kp335042 : F335034 (γ 9 3) = F334809 (γ 9 3) := (n335036 (γ 9 3) (rn_ty ht334838 htq334811 (by decide))).trans kp335018
        have kp335043 : F335034 (γ 9 17) = F334809 (γ 9 17) := (n335036 (γ 9 17) (rn_ty ht334846 htq334811 (by decide))).trans kp335019
        have hT335044 : RS D I P334808 F335034 γ el := RS_set hT335020 n335036 htq334811 (by decide) ⟨p334866, z335032, z334960, z335008, p334870, p334871, p334872, he335039, bp334866, (gB_w bz335032' (by decide) (by decide)), bp334870, bp334871, bp334872, (by omega), (by omega), (by omega), (by omega)⟩
        have of335045 : ∀ b, b ≠ q334811 → F335034 b = F334809 b := fun b hb => (n335036 b hb).trans (of335021 b hb)
        exact G_vretA dr_cX17_coloured_60 rfl (Nat.le_of_ble_eq_true rfl) (Nat.le_of_ble_eq_true rfl) ⟨F335034, rfl, rfl, hT335044, hs335040, (Nat.le_of_ble_eq_true rfl), (Nat.le_of_ble_eq_true rfl), of335045, kp335041, kp335042, kp335043⟩
abbrev ky_335053_SpillForgeModel_share : gKey := (cX17_share, 7, "SpillForgeModel", none, [], "share", fun _ _ => True)
def pt_335053_SpillForgeModel_share (D : va_G) (I : FieldType → ClassId) (γ el : Nat → Nat → Nat) (P335047 : List Nat) (F335048 : Nat → va_E) (q335049 : Nat) (q335050 : Nat) : Option Value → va_W → Nat → Nat → Prop := fun r w dc ds => ∃ (F355890 : Nat → va_E), r = none ∧ w = va_pl P335047 F355890 ∧ RS D I P335047 F355890 γ el ∧ rStr γ [1] F335048 F355890 ∧ dc ≤ 0 ∧ ds ≤ 0 ∧ mKp (F335048 q335049) (F355890 q335049)
set_option maxRecDepth 100000 in
set_option maxHeartbeats 4000000 in
theorem ct_335053_SpillForgeModel_share (l : Launch) (hl0 : l.stackTraces = false) (D : va_G) (I : FieldType → ClassId) (γ el : Nat → Nat → Nat) (P335047 : List Nat) (F335048 : Nat → va_E) (q335049 : Nat) (q335050 : Nat) (hT : RS D I P335047 F335048 γ el) (htq335049 : rKd γ q335049 10) (htq335050 : rKd γ q335050 9) (x335051 : 0 < γ 6 (γ 1 q335050)) (x335052 : (((γ 7 (γ 1 q335050) : Nat) : Int) ≤ (fI (F335048 q335049) 11).toInt)) : CtA (gV D I) l yX17_share cX17_share 7 none 6 141 0 0 [.ref q335049, .ref q335050] (va_pl P335047 F335048) (pt_335053_SpillForgeModel_share D I γ el P335047 F335048 q335049 q335050) gNA := by
  refine CtA_of hl0 (by decide) (Nat.le_of_ble_eq_true rfl) ?_
  have hm335054 : q335049 ∈ P335047 := RS_m hT htq335049 (by decide)
  refine rk10_e (show rk_10 γ (F335048 q335049) from RS_o hT htq335049) (fun q335056 q335057 p335058 p335059 p335060 p335061 p335062 p335063 p335064 p335065 p335066 p335067 p335068 p335069 p335070 p335071 p335072 he335055 hB335099 ht335073 ht335074 ht335075 ht335076 ht335077 ht335078 ht335079 ht335080 ht335081 ht335082 ht335083 ht335084 ht335085 ht335086 ht335087 ht335088 ht335089 ht335090 ht335091 ht335092 ht335093 ht335094 ht335095 ht335096 hB335100 => ?_)
  have hm335101 : (γ 9 19) ∈ P335047 := RS_m hT ht335088 (by decide)
  obtain ⟨f335103, he335102, bf335103⟩ := show rk_21 I (F335048 (γ 9 19)) from RS_o hT ht335088
  have r335104 : (γ 7 (γ 1 q335050) : Int) ≤ p335060.toInt := by have z := x335052; rw [he335055] at z; exact z
  have bp335060 : gB p335060 0 100 := (hB335099.2.2.1)
  refine G_aload_n 0 dr_cX17_share_0 rfl ?_
  refine G_aload_n 1 dr_cX17_share_1 rfl ?_
  refine G_iconst 1 dr_cX17_share_2 (by decide +kernel) ?_
  refine Gw_callV (As := [.ref q335050, .int 1]) (gV_ok D I) (ct_269178_SpillForgeModel_graph l hl0 D I γ el P335047 F335048 q335049 q335050 1 hT htq335049 htq335050 (gB_w (gBl (show Int32.toInt 1 = 1 by decide)) (by decide) (by decide)) (by omega)) dr_cX17_share_3 ⟨wr_10_233, wr_1_14, wr_10_236, by decide, rfl, (Nat.le_of_ble_eq_true rfl), (Nat.le_of_ble_eq_true rfl)⟩ wr_10_235 wr_p_99 hm335054 he335055 rfl (show 0 + 0 ≤ 0 by first | omega | decide) (show 0 + 0 ≤ 0 by first | omega | decide) (Nat.le_of_ble_eq_true rfl) (fun r335108 w335109 dc335105 ds335106 hp335107 => ?_) (fun _ _ _ _ _ z => z.elim)
  obtain ⟨F335112, rfl, rfl, hT335113, hs335114, hdc, hds, x335110, x335111⟩ := hp335107
  have hs335115 : rStr γ [1] F335048 F335112 := rStr_tr (rStr_rf (γ := γ) (W := [1]) (F := F335048)) (rStr_w hs335114 (by decide))
  have kp335116 : F335112 q335049 = F335048 q335049 := x335111
  have mk335117 : mKp (F335048 q335049) (F335112 q335049) := mKp_tr mKp_rf (mKp_eq x335111)
  have he335118 : F335112 q335049 = .inr (22, [.ref (γ 9 0), .ref (γ 9 1), .ref (γ 9 2), .ref (γ 9 3), .ref (γ 9 4), .ref (γ 9 5), .ref (γ 9 6), .ref (γ 9 7), .ref (γ 9 8), .int p335058, .int p335059, .int p335060, .int p335061, .int p335062, .int p335063, .ref (γ 9 15), .ref (γ 9 16), .ref (γ 9 17), .ref (γ 9 18), .ref (γ 9 19), .ref (γ 9 20), .ref (γ 9 21), .ref (γ 9 22), .int p335064, .int p335065, .int p335066, .int p335067, .int p335068, .ref q335056, .ref (γ 9 29), .int p335069, .ref (γ 9 31), .int p335070, .int p335071, .int p335072, .ref q335057]) := (x335111).trans he335055
  rw [show Int32.toInt 1 = 1 from by decide] at x335110
  change G _ _ _ _ _ _ _ _ _ _ _
  refine G_widen (cs' := 0) (sl' := 0) (by omega) (by omega) ?_
  refine G_iconst 0 dr_cX17_share_6 (by decide +kernel) ?_
  refine G_istore_n (L' := [(2, .int 0), (0, .ref q335049), (1, .ref q335050)]) dr_cX17_share_7 (Nat.le_of_ble_eq_true rfl) rfl ?_
  refine G_iconst 0 dr_cX17_share_8 (by decide +kernel) ?_
  refine G_istore_n (L' := [(3, .int 0), (2, .int 0), (0, .ref q335049), (1, .ref q335050)]) dr_cX17_share_9 (Nat.le_of_ble_eq_true rfl) rfl ?_
  have hlp10_354398 : ∀ (n10_354398 : Nat) (F354392 : Nat → va_E) (g354390 : Int32) (g354391 : Int32), gB g354390 0 100 → gB g354391 0 1999 → RS D I P335047 F354392 γ el → rStr γ [1] F335048 F354392 → (∀ q : Nat, (q : Int) < g354390.toInt → 0 ≤ (cB (F354392 (γ 9 19)) q).toInt ∧ (cB (F354392 (γ 9 19)) q).toInt ≤ q) → (g354391.toInt ≤ 100) → (F354392 q335049 = F335048 q335049) → mKp (F335048 q335049) (F354392 q335049) → ((101 : Int) - g354390.toInt).toNat < n10_354398 → G (gV D I) l (gRm 6 141 0 0) (gMA (gV D I) (pt_335053_SpillForgeModel_share D I γ el P335047 F335048 q335049 q335050) gNA 0 0) ky_335053_SpillForgeModel_share 10 [(3, .int g354390), (2, .int g354391), (0, .ref q335049), (1, .ref q335050)] [] (va_pl P335047 F354392) 0 0 := by
    intro n10_354398
    induction n10_354398 with
    | zero => intro F354392 g354390 g354391 bg354390 bg354391 hT354393 hs354394 x354395 x354396 x354397 x354398 hm10_354398; exact absurd hm10_354398 (Nat.not_lt_zero _)
    | succ n10_354398 ih10_354398 =>
      intro F354392 g354390 g354391 bg354390 bg354391 hT354393 hs354394 x354395 x354396 x354397 x354398 hm10_354398
      have hs354400 : rStr γ [1] F335112 F354392 := fun b h0 hb hw => (hs354394 b h0 hb hw).trans (hs335115 b h0 hb hw).symm
      have hs354401 : rStr γ [1] F335048 F354392 := rStr_tr hs335115 hs354400
      have he354402 : F354392 q335049 = .inr (22, [.ref (γ 9 0), .ref (γ 9 1), .ref (γ 9 2), .ref (γ 9 3), .ref (γ 9 4), .ref (γ 9 5), .ref (γ 9 6), .ref (γ 9 7), .ref (γ 9 8), .int p335058, .int p335059, .int p335060, .int p335061, .int p335062, .int p335063, .ref (γ 9 15), .ref (γ 9 16), .ref (γ 9 17), .ref (γ 9 18), .ref (γ 9 19), .ref (γ 9 20), .ref (γ 9 21), .ref (γ 9 22), .int p335064, .int p335065, .int p335066, .int p335067, .int p335068, .ref q335056, .ref (γ 9 29), .int p335069, .ref (γ 9 31), .int p335070, .int p335071, .int p335072, .ref q335057]) := x354397.trans he335055
      have hm354403 : q335049 ∈ P335047 := RS_m hT354393 htq335049 (by decide)
      have hm354404 : (γ 9 19) ∈ P335047 := RS_m hT354393 ht335088 (by decide)
      obtain ⟨f354406, he354405, bf354406⟩ := show rk_21 I (F354392 (γ 9 19)) from RS_o hT354393 ht335088
      have cq354407 := x354395
      rw [cB_of he354405] at cq354407
      refine G_iload_n 0 dr_cX17_share_10 rfl ?_
      refine G_aload_n 2 dr_cX17_share_11 rfl ?_
      refine Gp_get 11 hm354403 he354402 dr_cX17_share_12 (gk_X17 D I) (Nat.le_of_ble_eq_true rfl) wr_7_85 rfl ?_
      refine G_icmp_ge 151 dr_cX17_share_15 (by decide +kernel) (fun hc354408 => ?_) (fun hc354408 => ?_)
      · have r354409 : p335060.toInt ≤ g354390.toInt := gC_le hc354408
        refine G_iconst 0 dr_cX17_share_151 (by decide +kernel) ?_
        refine G_istore_n (L' := [(3, .int 0), (2, .int g354391), (0, .ref q335049), (1, .ref q335050)]) dr_cX17_share_152 (Nat.le_of_ble_eq_true rfl) rfl ?_
        have hlp153_354748 : ∀ (n153_354748 : Nat) (F354743 : Nat → va_E) (g354742 : Int32), gB g354742 0 1000000 → RS D I P335047 F354743 γ el → rStr γ [1] F335048 F354743 → (∀ q : Nat, (q : Int) < ((γ 7 (γ 1 q335050) : Nat) : Int) → 0 ≤ (cB (F354743 (γ 9 19)) q).toInt ∧ (cB (F354743 (γ 9 19)) q).toInt ≤ q) → (F354743 q335049 = F335048 q335049) → mKp (F335048 q335049) (F354743 q335049) → ((1000001 : Int) - g354742.toInt).toNat < n153_354748 → G (gV D I) l (gRm 6 141 0 0) (gMA (gV D I) (pt_335053_SpillForgeModel_share D I γ el P335047 F335048 q335049 q335050) gNA 0 0) ky_335053_SpillForgeModel_share 153 [(3, .int g354742), (2, .int g354391), (0, .ref q335049), (1, .ref q335050)] [] (va_pl P335047 F354743) 0 0 := by
          intro n153_354748
          induction n153_354748 with
          | zero => intro F354743 g354742 bg354742 hT354744 hs354745 x354746 x354747 x354748 hm153_354748; exact absurd hm153_354748 (Nat.not_lt_zero _)
          | succ n153_354748 ih153_354748 =>
            intro F354743 g354742 bg354742 hT354744 hs354745 x354746 x354747 x354748 hm153_354748
            have hs354750 : rStr γ [1] F354392 F354743 := fun b h0 hb hw => (hs354745 b h0 hb hw).trans (hs354394 b h0 hb hw).symm
            have hs354751 : rStr γ [1] F335048 F354743 := rStr_tr hs354394 hs354750
            have he354752 : F354743 q335049 = .inr (22, [.ref (γ 9 0), .ref (γ 9 1), .ref (γ 9 2), .ref (γ 9 3), .ref (γ 9 4), .ref (γ 9 5), .ref (γ 9 6), .ref (γ 9 7), .ref (γ 9 8), .int p335058, .int p335059, .int p335060, .int p335061, .int p335062, .int p335063, .ref (γ 9 15), .ref (γ 9 16), .ref (γ 9 17), .ref (γ 9 18), .ref (γ 9 19), .ref (γ 9 20), .ref (γ 9 21), .ref (γ 9 22), .int p335064, .int p335065, .int p335066, .int p335067, .int p335068, .ref q335056, .ref (γ 9 29), .int p335069, .ref (γ 9 31), .int p335070, .int p335071, .int p335072, .ref q335057]) := x354747.trans he335055
            have hm354753 : q335049 ∈ P335047 := RS_m hT354744 htq335049 (by decide)
            have hm354754 : (γ 9 19) ∈ P335047 := RS_m hT354744 ht335088 (by decide)
            obtain ⟨f354756, he354755, bf354756⟩ := show rk_21 I (F354743 (γ 9 19)) from RS_o hT354744 ht335088
            have cq354757 := x354746
            rw [cB_of he354755] at cq354757
            refine G_iload_n 0 dr_cX17_share_153 rfl ?_
            refine G_aload_n 3 dr_cX17_share_154 rfl ?_
            have hm354758 : q335050 ∈ P335047 := RS_m hT354744 htq335050 (by decide)
            obtain ⟨q354760, q354761, p354762, p354763, he354759, ht354779, ht354764, ht354765, ht354766, ht354767, r354768, r354769, r354770, r354771, r354772, r354773, r354774, r354775, r354776, r354777, r354778⟩ := show rk_9 γ el q335050 (F354743 q335050) from RS_o hT354744 htq335050
            have bp354762 : gB p354762 0 1000000 := ⟨by omega, by omega⟩
            have bp354763 : gB p354763 0 1000000 := ⟨by omega, by omega⟩
            refine Gw_callV (As := []) (gV_ok D I) (cp_12451_Code_size l hl0 D I P335047 F354743 q335050 q354760 q354761 p354762 p354763 hm354758 he354759) dr_cX17_share_155 ⟨wr_10_160, wr_1_15, wr_9_131, by decide, rfl, (Nat.le_of_ble_eq_true rfl), (Nat.le_of_ble_eq_true rfl)⟩ wr_9_129 wr_9_130 hm354758 he354759 rfl (show 0 + 0 ≤ 0 by first | omega | decide) (show 0 + 0 ≤ 0 by first | omega | decide) (Nat.le_of_ble_eq_true rfl) (fun r354783 w354784 dc354780 ds354781 hp354782 => ?_) (fun _ _ _ _ _ z => z.elim)
            obtain ⟨rfl, rfl, hdc, hds⟩ := hp354782
            change G _ _ _ _ _ _ _ (.int p354763 :: _) _ _ _
            refine G_widen (cs' := 0) (sl' := 0) (by omega) (by omega) ?_
            refine G_icmp_ge 246 dr_cX17_share_158 (by decide +kernel) (fun hc354785 => ?_) (fun hc354785 => ?_)
            · have r354786 : p354763.toInt ≤ g354742.toInt := gC_le hc354785
              refine G_aload_n 2 dr_cX17_share_246 rfl ?_
              refine G_iload_n 1 dr_cX17_share_247 rfl ?_
              refine Gp_put 11 hm354753 he354752 dr_cX17_share_248 (gk_X17 D I) (Nat.le_of_ble_eq_true rfl) wr_7_85 rfl rfl rfl (Nat.le_of_ble_eq_true rfl) (fun F354787 e354788 n354789 => ?_)
              have he354790 : F354787 (γ 9 19) = .inl (I .int, 2000, .inl f354756) := (n354789 (γ 9 19) (rn_ao he354755 he354752)).trans he354755
              have he354791 : F354787 q335050 = .inr (18, [.ref q354760, .ref q354761, .int p354762, .int p354763]) := (n354789 q335050 (rn_oo he354759 he354752 (by decide))).trans he354759
              have he354792 : F354787 q335049 = .inr (22, [.ref (γ 9 0), .ref (γ 9 1), .ref (γ 9 2), .ref (γ 9 3), .ref (γ 9 4), .ref (γ 9 5), .ref (γ 9 6), .ref (γ 9 7), .ref (γ 9 8), .int p335058, .int p335059, .int g354391, .int p335061, .int p335062, .int p335063, .ref (γ 9 15), .ref (γ 9 16), .ref (γ 9 17), .ref (γ 9 18), .ref (γ 9 19), .ref (γ 9 20), .ref (γ 9 21), .ref (γ 9 22), .int p335064, .int p335065, .int p335066, .int p335067, .int p335068, .ref q335056, .ref (γ 9 29), .int p335069, .ref (γ 9 31), .int p335070, .int p335071, .int p335072, .ref q335057]) := e354788
              have mk354793 : mKp (F335048 q335049) (F354787 q335049) := mKp_tr x354748 (by rw [he354752, he354792]; exact ⟨rfl, rfl⟩)
              have hs354794 : rStr γ [1] F335048 F354787 := rStr_put hs354745 n354789 htq335049 (by decide)
              have hT354795 : RS D I P335047 F354787 γ el := RS_set hT354744 n354789 htq335049 (by decide) ⟨q335056, q335057, p335058, p335059, g354391, p335061, p335062, p335063, p335064, p335065, p335066, p335067, p335068, p335069, p335070, p335071, p335072, he354792, ⟨(hB335099.1), (hB335099.2.1), ⟨by omega, by omega⟩, (hB335099.2.2.2.1), (hB335099.2.2.2.2.1), (hB335099.2.2.2.2.2.1), (hB335099.2.2.2.2.2.2.1), (hB335099.2.2.2.2.2.2.2.1), (hB335099.2.2.2.2.2.2.2.2)⟩, ht335073, ht335074, ht335075, ht335076, ht335077, ht335078, ht335079, ht335080, ht335081, ht335082, ht335083, ht335084, ht335085, ht335086, ht335087, ht335088, ht335089, ht335090, ht335091, ht335092, ht335093, ht335094, ht335095, ht335096, hB335100⟩
              exact G_vretA dr_cX17_share_251 rfl (Nat.le_of_ble_eq_true rfl) (Nat.le_of_ble_eq_true rfl) ⟨F354787, rfl, rfl, hT354795, hs354794, (Nat.le_of_ble_eq_true rfl), (Nat.le_of_ble_eq_true rfl), mk354793⟩
            · have r354796 : g354742.toInt < p354763.toInt := gC_nle hc354785
              have bg354742' : gB g354742 0 999999 := ⟨by omega, by omega⟩
              have bp354763' : gB p354763 1 1000000 := ⟨by omega, by omega⟩
              refine G_aload_n 3 dr_cX17_share_161 rfl ?_
              refine G_iload_n 0 dr_cX17_share_162 rfl ?_
              have hm354797 : q354760 ∈ P335047 := RS_m hT354744 ht354764 (by decide)
              obtain ⟨⟨p354799, p354800, q354801, he354798, r354802, r354803, r354804, r354806⟩, r354805⟩ := show rk_4 D I γ el F354743 q354760 from RS_o hT354744 ht354764
              have bp354799 := gB_any p354799
              have bp354800 : gB p354800 0 1000000 := ⟨by omega, by omega⟩
              obtain ⟨r354807, r354808, n354815, f354816, r354809, r354810, r354811, r354812, r354813, r354814⟩ := rLC_n r354804 (by omega)
              have hm354817 : q354801 ∈ P335047 := RS_m hT354744 r354807 (by decide)
              obtain ⟨q354818, hx354819⟩ : ∃ x, x = el q354760 g354742.toInt.toNat := ⟨_, rfl⟩
              have hx354820 : f354816 g354742.toNatClampNeg = some q354818 := (r354813 _ (show g354742.toInt.toNat < γ 2 q354760 by omega)).trans (by rw [hx354819])
              have ht354823 : rKd γ q354818 2 := by rw [hx354819]; exact (r354775 _ (by omega)).resolve_right (fun z => absurd z.1 (by omega))
              have ht354824 : rFm γ q354818 q354760 := by rw [hx354819]; exact (r354805 _ (show g354742.toInt.toNat < γ 2 q354760 by omega)).2.1
              have hm354825 : q354818 ∈ P335047 := RS_m hT354744 ht354823 (by decide)
              obtain ⟨q354827, q354828, p354829, p354830, he354826, ht354837, ht354831, ht354832, ht354833, ht354834, ht354835, bp354829, bp354830, r354836, r354838, r354839⟩ := show rk_2 γ q354818 (F354743 q354818) from RS_o hT354744 ht354823
              refine Gw_callV (As := [.int g354742]) (gV_ok D I) (cp_7723_Code_get l hl0 D I P335047 F354743 q335050 q354760 q354801 g354742 q354761 p354762 p354763 p354799 p354800 f354816 n354815 q354818 q354827 q354828 p354829 p354830 hm354758 hm354797 hm354817 hm354825 he354759 he354798 r354809 he354826 (gB_w bg354742' (by decide) (by decide)) (gB_w bp354800 (by decide) (by decide)) (by omega) (by omega) (by assumption) (by omega)) dr_cX17_share_163 ⟨wr_10_161, wr_1_15, wr_10_141, by decide, rfl, (Nat.le_of_ble_eq_true rfl), (Nat.le_of_ble_eq_true rfl)⟩ wr_10_139 wr_10_140 hm354758 he354759 rfl (show 0 + 0 ≤ 0 by first | omega | decide) (show 0 + 0 ≤ 0 by first | omega | decide) (Nat.le_of_ble_eq_true rfl) (fun r354843 w354844 dc354840 ds354841 hp354842 => ?_) (fun _ _ _ _ _ z => z.elim)
              obtain ⟨rfl, rfl, hdc, hds⟩ := hp354842
              change G _ _ _ _ _ _ _ (.ref q354818 :: _) _ _ _
              refine G_widen (cs' := 0) (sl' := 0) (by omega) (by omega) ?_
              refine G_astore (L' := [(4, .ref q354818), (3, .int g354742), (2, .int g354391), (0, .ref q335049), (1, .ref q335050)]) dr_cX17_share_166 (Nat.le_of_ble_eq_true rfl) rfl ?_
              refine G_iconst 0 dr_cX17_share_168 (by decide +kernel) ?_
              refine G_istore (L' := [(5, .int 0), (4, .ref q354818), (3, .int g354742), (2, .int g354391), (0, .ref q335049), (1, .ref q335050)]) dr_cX17_share_169 (Nat.le_of_ble_eq_true rfl) rfl ?_
              have hlp171_354966 : ∀ (n171_354966 : Nat) (F354961 : Nat → va_E) (g354960 : Int32), gB g354960 0 1000000 → RS D I P335047 F354961 γ el → rStr γ [1] F335048 F354961 → (∀ q : Nat, (q : Int) < ((γ 7 (γ 1 q335050) : Nat) : Int) → 0 ≤ (cB (F354961 (γ 9 19)) q).toInt ∧ (cB (F354961 (γ 9 19)) q).toInt ≤ q) → (F354961 q335049 = F335048 q335049) → mKp (F335048 q335049) (F354961 q335049) → ((1000001 : Int) - g354960.toInt).toNat < n171_354966 → G (gV D I) l (gRm 6 141 0 0) (gMA (gV D I) (pt_335053_SpillForgeModel_share D I γ el P335047 F335048 q335049 q335050) gNA 0 0) ky_335053_SpillForgeModel_share 171 [(5, .int g354960), (4, .ref q354818), (3, .int g354742), (2, .int g354391), (0, .ref q335049), (1, .ref q335050)] [] (va_pl P335047 F354961) 0 0 := by
                intro n171_354966
                induction n171_354966 with
                | zero => intro F354961 g354960 bg354960 hT354962 hs354963 x354964 x354965 x354966 hm171_354966; exact absurd hm171_354966 (Nat.not_lt_zero _)
                | succ n171_354966 ih171_354966 =>
                  intro F354961 g354960 bg354960 hT354962 hs354963 x354964 x354965 x354966 hm171_354966
                  have hs354968 : rStr γ [1] F354743 F354961 := fun b h0 hb hw => (hs354963 b h0 hb hw).trans (hs354745 b h0 hb hw).symm
                  have he354969 : F354961 q335050 = .inr (18, [.ref q354760, .ref q354761, .int p354762, .int p354763]) := (hs354968 q335050 (rT0 htq335050 (by decide)) (rT1 htq335050 (by decide)) (rT2 htq335050 (by decide))).trans he354759
                  have he354970 : F354961 q354760 = .inr (4, [.int p354799, .ref q354801, .int p354800]) := (hs354968 q354760 (rT0 ht354764 (by decide)) (rT1 ht354764 (by decide)) (rT2 ht354764 (by decide))).trans he354798
                  have he354971 : F354961 q354801 = .inl (I (.object "java/lang/Object"), n354815, .inr (.inr (.inr (.inr f354816)))) := (hs354968 q354801 (rT0 r354807 (by decide)) (rT1 r354807 (by decide)) (rT2 r354807 (by decide))).trans r354809
                  have he354972 : F354961 q354818 = .inr (17, [.ref q354827, .ref q354828, .int p354829, .int p354830]) := (hs354968 q354818 (rT0 ht354823 (by decide)) (rT1 ht354823 (by decide)) (rT2 ht354823 (by decide))).trans he354826
                  have hs354973 : rStr γ [1] F335048 F354961 := rStr_tr hs354745 hs354968
                  have he354974 : F354961 q335049 = .inr (22, [.ref (γ 9 0), .ref (γ 9 1), .ref (γ 9 2), .ref (γ 9 3), .ref (γ 9 4), .ref (γ 9 5), .ref (γ 9 6), .ref (γ 9 7), .ref (γ 9 8), .int p335058, .int p335059, .int p335060, .int p335061, .int p335062, .int p335063, .ref (γ 9 15), .ref (γ 9 16), .ref (γ 9 17), .ref (γ 9 18), .ref (γ 9 19), .ref (γ 9 20), .ref (γ 9 21), .ref (γ 9 22), .int p335064, .int p335065, .int p335066, .int p335067, .int p335068, .ref q335056, .ref (γ 9 29), .int p335069, .ref (γ 9 31), .int p335070, .int p335071, .int p335072, .ref q335057]) := x354965.trans he335055
                  have hm354975 : q335049 ∈ P335047 := RS_m hT354962 htq335049 (by decide)
                  have hm354976 : (γ 9 19) ∈ P335047 := RS_m hT354962 ht335088 (by decide)
                  obtain ⟨f354978, he354977, bf354978⟩ := show rk_21 I (F354961 (γ 9 19)) from RS_o hT354962 ht335088
                  have cq354979 := x354964
                  rw [cB_of he354977] at cq354979
                  refine G_iload 0 dr_cX17_share_171 rfl ?_
                  refine G_aload 1 dr_cX17_share_173 rfl ?_
                  refine Gp_get 0 hm354825 he354972 dr_cX17_share_175 (gk_X12 D I) (Nat.le_of_ble_eq_true rfl) wr_9_220 rfl ?_
                  have hm354980 : q354827 ∈ P335047 := RS_m hT354962 ht354831 (by decide)
                  obtain ⟨⟨p354982, p354983, q354984, he354981, r354985, r354986, r354987, r354989⟩, r354988⟩ := show rk_3 D I γ el F354961 q354827 from RS_o hT354962 ht354831
                  have bp354982 := gB_any p354982
                  have bp354983 : gB p354983 0 1000000 := ⟨by omega, by omega⟩
                  refine Gw_callV (As := []) (gV_ok D I) (cp_7_ArrayList_size l hl0 D I P335047 F354961 q354827 p354982 q354984 p354983 hm354980 he354981 (gB_w bp354983 (by decide) (by decide))) dr_cX17_share_178 ⟨wr_10_200, wr_1_18, wr_9_160, by decide, rfl, (Nat.le_of_ble_eq_true rfl), (Nat.le_of_ble_eq_true rfl)⟩ wr_9_158 wr_9_159 hm354980 he354981 rfl (show 0 + 0 ≤ 0 by first | omega | decide) (show 0 + 0 ≤ 0 by first | omega | decide) (Nat.le_of_ble_eq_true rfl) (fun r354993 w354994 dc354990 ds354991 hp354992 => ?_) (fun _ _ _ _ _ z => z.elim)
                  obtain ⟨rfl, rfl, hdc, hds⟩ := hp354992
                  change G _ _ _ _ _ _ _ (.int p354983 :: _) _ _ _
                  refine G_widen (cs' := 0) (sl' := 0) (by omega) (by omega) ?_
                  refine G_icmp_ge 240 dr_cX17_share_181 (by decide +kernel) (fun hc354995 => ?_) (fun hc354995 => ?_)
                  · have r354996 : p354983.toInt ≤ g354960.toInt := gC_le hc354995
                    obtain ⟨z354997, hz354997⟩ : ∃ z : Int32, z = g354742 + Int32.ofInt 1 := ⟨_, rfl⟩
                    have ez354997 : z354997.toInt = g354742.toInt + 1 := gI_inc hz354997 (by decide) bg354742' (by decide) (by decide)
                    have bz354997 : gB z354997 1 1000000 := ⟨by omega, by omega⟩
                    refine G_iinc (L' := [(3, .int z354997), (5, .int g354960), (4, .ref q354818), (2, .int g354391), (0, .ref q335049), (1, .ref q335050)]) z354997 2 dr_cX17_share_240 rfl hz354997.symm (Nat.le_of_ble_eq_true rfl) rfl ?_
                    refine G_goto 153 dr_cX17_share_243 (by decide +kernel) ?_
                    refine G_lv (L' := [(3, .int z354997), (2, .int g354391), (0, .ref q335049), (1, .ref q335050)]) [0, 3, 4, 5] rfl ?_
                    exact ih153_354748 F354961 z354997 (gB_w bz354997 (by decide) (by decide)) hT354962 hs354963 (by rw [cB_of he354977]; exact cq354979) x354965 x354966 (mz_up ez354997 (Int.le_trans bg354742'.2 (by decide)) hm153_354748)
                  · have r354998 : g354960.toInt < p354983.toInt := gC_nle hc354995
                    have bg354960' : gB g354960 0 999999 := ⟨by omega, by omega⟩
                    have bp354983' : gB p354983 1 1000000 := ⟨by omega, by omega⟩
                    refine G_aload 1 dr_cX17_share_184 rfl ?_
                    refine Gp_get 0 hm354825 he354972 dr_cX17_share_186 (gk_X12 D I) (Nat.le_of_ble_eq_true rfl) wr_9_220 rfl ?_
                    refine G_iload 0 dr_cX17_share_189 rfl ?_
                    obtain ⟨r354999, r355000, n355007, f355008, r355001, r355002, r355003, r355004, r355005, r355006⟩ := rLC_n r354987 (by omega)
                    have hm355009 : q354984 ∈ P335047 := RS_m hT354962 r354999 (by decide)
                    obtain ⟨q355010, hx355011⟩ : ∃ x, x = el q354827 g354960.toInt.toNat := ⟨_, rfl⟩
                    have hx355012 : f355008 g354960.toNatClampNeg = some q355010 := (r355005 _ (show g354960.toInt.toNat < γ 2 q354827 by omega)).trans (by rw [hx355011])
                    have ht355013 : rKd γ q355010 1 := by rw [hx355011]; exact (r354988 _ (show g354960.toInt.toNat < γ 2 q354827 by omega)).1
                    have ht355014 : rFm γ q355010 q354827 := by rw [hx355011]; exact (r354988 _ (show g354960.toInt.toNat < γ 2 q354827 by omega)).2.1
                    refine Gw_callV (As := [.int g354960]) (gV_ok D I) (cp_22_ArrayList_get l hl0 D I P335047 F354961 q354827 q354984 g354960 p354982 p354983 f355008 n355007 q355010 hm354980 hm355009 he354981 r355001 (gB_w bg354960' (by decide) (by decide)) (gB_w bp354983' (by decide) (by decide)) (by omega) (by omega) (by assumption) (by omega)) dr_cX17_share_191 ⟨wr_10_201, wr_1_18, wr_10_65, by decide, rfl, (Nat.le_of_ble_eq_true rfl), (Nat.le_of_ble_eq_true rfl)⟩ wr_10_63 wr_10_64 hm354980 he354981 rfl (show 0 + 0 ≤ 0 by first | omega | decide) (show 0 + 0 ≤ 0 by first | omega | decide) (Nat.le_of_ble_eq_true rfl) (fun r355018 w355019 dc355015 ds355016 hp355017 => ?_) (fun _ _ _ _ _ z => z.elim)
                    obtain ⟨rfl, rfl, hdc, hds⟩ := hp355017
                    change G _ _ _ _ _ _ _ (.ref q355010 :: _) _ _ _
                    refine G_widen (cs' := 0) (sl' := 0) (by omega) (by omega) ?_
                    have hm355020 : q355010 ∈ P335047 := RS_m hT354962 ht355013 (by decide)
                    obtain ⟨p355022, p355023, p355024, p355025, p355026, p355027, p355028, he355021, bp355022, bp355023, bp355026, bp355027, bp355028, r355029, r355030, r355031, r355032⟩ := show rk_1 γ q355010 (F354961 q355010) from RS_o hT354962 ht355013
                    have bp355024 := gB_any p355024
                    have bp355025 := gB_any p355025
                    refine Gp_cast hm355020 he355021 rfl dr_cX17_share_194 wr_10_202 (gr_cast 1 rfl) ?_
                    refine G_astore (L' := [(6, .ref q355010), (5, .int g354960), (4, .ref q354818), (3, .int g354742), (2, .int g354391), (0, .ref q335049), (1, .ref q335050)]) dr_cX17_share_197 (Nat.le_of_ble_eq_true rfl) rfl ?_
                    refine G_aload 0 dr_cX17_share_199 rfl ?_
                    refine Gp_get 0 hm355020 he355021 dr_cX17_share_201 (gk_X15 D I) (Nat.le_of_ble_eq_true rfl) wr_9_177 rfl ?_
                    refine G_bipush 21 dr_cX17_share_204 (by decide +kernel) ?_
                    refine G_icmp_eq 219 dr_cX17_share_206 (by decide +kernel) (fun hc355033 => ?_) (fun hc355033 => ?_)
                    · have r355034 : p355022.toInt = 21 := gj_eq hc355033 (show Int32.toInt 21 = 21 by decide)
                      have bp355022' : gB p355022 21 21 := ⟨by omega, by omega⟩
                      refine G_aload 0 dr_cX17_share_219 rfl ?_
                      refine G_aload_n 5 dr_cX17_share_221 rfl ?_
                      refine Gp_get 19 hm354975 he354974 dr_cX17_share_222 (gk_X17 D I) (Nat.le_of_ble_eq_true rfl) wr_7_93 rfl ?_
                      refine G_aload 0 dr_cX17_share_225 rfl ?_
                      refine Gp_get 4 hm355020 he355021 dr_cX17_share_227 (gk_X15 D I) (Nat.le_of_ble_eq_true rfl) wr_9_193 rfl ?_
                      refine Gp_iald 0 hm354976 he354977 dr_cX17_share_230 rfl (gB_in bp355026 (by decide) (by decide)) (G_nam fun z355035 hz355035 => ?_)
                      have bz355035 : gB z355035 (-1) 1999 := by rw [hz355035]; exact bf354978 _
                      have r355036 : γ 7 (γ 1 q355010) = γ 7 (γ 1 q335050) := by rw [show γ 1 q355010 = γ 1 q354827 from ht355014, show γ 1 q354827 = γ 1 q354818 from ht354832, show γ 1 q354818 = γ 1 q354760 from ht354824, show γ 1 q354760 = γ 1 q335050 from ht354765]
                      have r355037 : 0 ≤ z355035.toInt ∧ z355035.toInt ≤ (p355026.toInt.toNat : Int) := by rw [hz355035]; exact cq354979 p355026.toInt.toNat (by omega)
                      have bz355035' : gB z355035 0 1999 := ⟨by omega, by omega⟩
                      refine Gp_put 4 hm355020 he355021 dr_cX17_share_231 (gk_X15 D I) (Nat.le_of_ble_eq_true rfl) wr_9_193 rfl rfl rfl (Nat.le_of_ble_eq_true rfl) (fun F355038 e355039 n355040 => ?_)
                      have he355041 : F355038 q335050 = .inr (18, [.ref q354760, .ref q354761, .int p354762, .int p354763]) := (n355040 q335050 (rn_oo he354969 he355021 (by decide))).trans he354969
                      have he355042 : F355038 q354760 = .inr (4, [.int p354799, .ref q354801, .int p354800]) := (n355040 q354760 (rn_oo he354970 he355021 (by decide))).trans he354970
                      have he355043 : F355038 q354801 = .inl (I (.object "java/lang/Object"), n354815, .inr (.inr (.inr (.inr f354816)))) := (n355040 q354801 (rn_ao he354971 he355021)).trans he354971
                      have he355044 : F355038 q354818 = .inr (17, [.ref q354827, .ref q354828, .int p354829, .int p354830]) := (n355040 q354818 (rn_oo he354972 he355021 (by decide))).trans he354972
                      have he355045 : F355038 q335049 = .inr (22, [.ref (γ 9 0), .ref (γ 9 1), .ref (γ 9 2), .ref (γ 9 3), .ref (γ 9 4), .ref (γ 9 5), .ref (γ 9 6), .ref (γ 9 7), .ref (γ 9 8), .int p335058, .int p335059, .int p335060, .int p335061, .int p335062, .int p335063, .ref (γ 9 15), .ref (γ 9 16), .ref (γ 9 17), .ref (γ 9 18), .ref (γ 9 19), .ref (γ 9 20), .ref (γ 9 21), .ref (γ 9 22), .int p335064, .int p335065, .int p335066, .int p335067, .int p335068, .ref q335056, .ref (γ 9 29), .int p335069, .ref (γ 9 31), .int p335070, .int p335071, .int p335072, .ref q335057]) := (n355040 q335049 (rn_oo he354974 he355021 (by decide))).trans he354974
                      have he355046 : F355038 (γ 9 19) = .inl (I .int, 2000, .inl f354978) := (n355040 (γ 9 19) (rn_ao he354977 he355021)).trans he354977
                      have he355047 : F355038 q354827 = .inr (4, [.int p354982, .ref q354984, .int p354983]) := (n355040 q354827 (rn_oo he354981 he355021 (by decide))).trans he354981
                      have he355048 : F355038 q354984 = .inl (I (.object "java/lang/Object"), n355007, .inr (.inr (.inr (.inr f355008)))) := (n355040 q354984 (rn_ao r355001 he355021)).trans r355001
                      have he355049 : F355038 q355010 = .inr (20, [.int p355022, .int p355023, .int p355024, .int p355025, .int z355035, .int p355027, .int p355028]) := e355039
                      have mk355050 : mKp (F335048 q335049) (F355038 q335049) := mKp_tr x354966 (mKp_eq (n355040 q335049 (rn_ty htq335049 ht355013 (by decide))))
                      have hs355051 : rStr γ [1] F335048 F355038 := rStr_pu2 hs354963 n355040 ht355013 (by decide)
                      have kp355052 : F355038 q335049 = F335048 q335049 := (n355040 q335049 (rn_ty htq335049 ht355013 (by decide))).trans x354965
                      obtain ⟨z355053, hz355053⟩ : ∃ z : Int32, z = g354960 + Int32.ofInt 1 := ⟨_, rfl⟩
                      have ez355053 : z355053.toInt = g354960.toInt + 1 := gI_inc hz355053 (by decide) bg354960' (by decide) (by decide)
                      have bz355053 : gB z355053 1 1000000 := ⟨by omega, by omega⟩
                      refine G_iinc (L' := [(5, .int z355053), (6, .ref q355010), (4, .ref q354818), (3, .int g354742), (2, .int g354391), (0, .ref q335049), (1, .ref q335050)]) z355053 1 dr_cX17_share_234 rfl hz355053.symm (Nat.le_of_ble_eq_true rfl) rfl ?_
                      refine G_goto 171 dr_cX17_share_237 (by decide +kernel) ?_
                      have hT355054 : RS D I P335047 F355038 γ el := RS_set hT354962 n355040 ht355013 (by decide) ⟨p355022, p355023, p355024, p355025, z355035, p355027, p355028, he355049, (gB_w bp355022' (by decide) (by decide)), bp355023, bz355035', bp355027, bp355028, (by omega), (by omega), (by omega), (by omega)⟩
                      refine G_lv (L' := [(5, .int z355053), (4, .ref q354818), (3, .int g354742), (2, .int g354391), (0, .ref q335049), (1, .ref q335050)]) [0, 2, 3, 4, 5, 6] rfl ?_
                      exact ih171_354966 F355038 z355053 (gB_w bz355053 (by decide) (by decide)) hT355054 hs355051 (by rw [cB_of he355046]; exact cq354979) kp355052 mk355050 (mz_up ez355053 (Int.le_trans bg354960'.2 (by decide)) hm171_354966)
                    · have r355055 : p355022.toInt ≠ 21 := gj_neq hc355033 (show Int32.toInt 21 = 21 by decide)
                      refine G_aload 0 dr_cX17_share_209 rfl ?_
                      refine Gp_get 0 hm355020 he355021 dr_cX17_share_211 (gk_X15 D I) (Nat.le_of_ble_eq_true rfl) wr_9_177 rfl ?_
                      refine G_bipush 23 dr_cX17_share_214 (by decide +kernel) ?_
                      refine G_icmp_ne 234 dr_cX17_share_216 (by decide +kernel) (fun hc355056 => ?_) (fun hc355056 => ?_)
                      · have r355057 : p355022.toInt ≠ 23 := gj_neq hc355056 (show Int32.toInt 23 = 23 by decide)
                        obtain ⟨z355058, hz355058⟩ : ∃ z : Int32, z = g354960 + Int32.ofInt 1 := ⟨_, rfl⟩
                        have ez355058 : z355058.toInt = g354960.toInt + 1 := gI_inc hz355058 (by decide) bg354960' (by decide) (by decide)
                        have bz355058 : gB z355058 1 1000000 := ⟨by omega, by omega⟩
                        refine G_iinc (L' := [(5, .int z355058), (6, .ref q355010), (4, .ref q354818), (3, .int g354742), (2, .int g354391), (0, .ref q335049), (1, .ref q335050)]) z355058 1 dr_cX17_share_234 rfl hz355058.symm (Nat.le_of_ble_eq_true rfl) rfl ?_
                        refine G_goto 171 dr_cX17_share_237 (by decide +kernel) ?_
                        refine G_lv (L' := [(5, .int z355058), (4, .ref q354818), (3, .int g354742), (2, .int g354391), (0, .ref q335049), (1, .ref q335050)]) [0, 2, 3, 4, 5, 6] rfl ?_
                        exact ih171_354966 F354961 z355058 (gB_w bz355058 (by decide) (by decide)) hT354962 hs354963 (by rw [cB_of he354977]; exact cq354979) x354965 x354966 (mz_up ez355058 (Int.le_trans bg354960'.2 (by decide)) hm171_354966)
                      · have r355059 : p355022.toInt = 23 := gj_eq hc355056 (show Int32.toInt 23 = 23 by decide)
                        have bp355022' : gB p355022 23 23 := ⟨by omega, by omega⟩
                        refine G_aload 0 dr_cX17_share_219 rfl ?_
                        refine G_aload_n 5 dr_cX17_share_221 rfl ?_
                        refine Gp_get 19 hm354975 he354974 dr_cX17_share_222 (gk_X17 D I) (Nat.le_of_ble_eq_true rfl) wr_7_93 rfl ?_
                        refine G_aload 0 dr_cX17_share_225 rfl ?_
                        refine Gp_get 4 hm355020 he355021 dr_cX17_share_227 (gk_X15 D I) (Nat.le_of_ble_eq_true rfl) wr_9_193 rfl ?_
                        refine Gp_iald 0 hm354976 he354977 dr_cX17_share_230 rfl (gB_in bp355026 (by decide) (by decide)) (G_nam fun z355060 hz355060 => ?_)
                        have bz355060 : gB z355060 (-1) 1999 := by rw [hz355060]; exact bf354978 _
                        have r355061 : γ 7 (γ 1 q355010) = γ 7 (γ 1 q335050) := by rw [show γ 1 q355010 = γ 1 q354827 from ht355014, show γ 1 q354827 = γ 1 q354818 from ht354832, show γ 1 q354818 = γ 1 q354760 from ht354824, show γ 1 q354760 = γ 1 q335050 from ht354765]
                        have r355062 : 0 ≤ z355060.toInt ∧ z355060.toInt ≤ (p355026.toInt.toNat : Int) := by rw [hz355060]; exact cq354979 p355026.toInt.toNat (by omega)
                        have bz355060' : gB z355060 0 1999 := ⟨by omega, by omega⟩
                        refine Gp_put 4 hm355020 he355021 dr_cX17_share_231 (gk_X15 D I) (Nat.le_of_ble_eq_true rfl) wr_9_193 rfl rfl rfl (Nat.le_of_ble_eq_true rfl) (fun F355063 e355064 n355065 => ?_)
                        have he355066 : F355063 q335050 = .inr (18, [.ref q354760, .ref q354761, .int p354762, .int p354763]) := (n355065 q335050 (rn_oo he354969 he355021 (by decide))).trans he354969
                        have he355067 : F355063 q354760 = .inr (4, [.int p354799, .ref q354801, .int p354800]) := (n355065 q354760 (rn_oo he354970 he355021 (by decide))).trans he354970
                        have he355068 : F355063 q354801 = .inl (I (.object "java/lang/Object"), n354815, .inr (.inr (.inr (.inr f354816)))) := (n355065 q354801 (rn_ao he354971 he355021)).trans he354971
                        have he355069 : F355063 q354818 = .inr (17, [.ref q354827, .ref q354828, .int p354829, .int p354830]) := (n355065 q354818 (rn_oo he354972 he355021 (by decide))).trans he354972
                        have he355070 : F355063 q335049 = .inr (22, [.ref (γ 9 0), .ref (γ 9 1), .ref (γ 9 2), .ref (γ 9 3), .ref (γ 9 4), .ref (γ 9 5), .ref (γ 9 6), .ref (γ 9 7), .ref (γ 9 8), .int p335058, .int p335059, .int p335060, .int p335061, .int p335062, .int p335063, .ref (γ 9 15), .ref (γ 9 16), .ref (γ 9 17), .ref (γ 9 18), .ref (γ 9 19), .ref (γ 9 20), .ref (γ 9 21), .ref (γ 9 22), .int p335064, .int p335065, .int p335066, .int p335067, .int p335068, .ref q335056, .ref (γ 9 29), .int p335069, .ref (γ 9 31), .int p335070, .int p335071, .int p335072, .ref q335057]) := (n355065 q335049 (rn_oo he354974 he355021 (by decide))).trans he354974
                        have he355071 : F355063 (γ 9 19) = .inl (I .int, 2000, .inl f354978) := (n355065 (γ 9 19) (rn_ao he354977 he355021)).trans he354977
                        have he355072 : F355063 q354827 = .inr (4, [.int p354982, .ref q354984, .int p354983]) := (n355065 q354827 (rn_oo he354981 he355021 (by decide))).trans he354981
                        have he355073 : F355063 q354984 = .inl (I (.object "java/lang/Object"), n355007, .inr (.inr (.inr (.inr f355008)))) := (n355065 q354984 (rn_ao r355001 he355021)).trans r355001
                        have he355074 : F355063 q355010 = .inr (20, [.int p355022, .int p355023, .int p355024, .int p355025, .int z355060, .int p355027, .int p355028]) := e355064
                        have mk355075 : mKp (F335048 q335049) (F355063 q335049) := mKp_tr x354966 (mKp_eq (n355065 q335049 (rn_ty htq335049 ht355013 (by decide))))
                        have hs355076 : rStr γ [1] F335048 F355063 := rStr_pu2 hs354963 n355065 ht355013 (by decide)
                        have kp355077 : F355063 q335049 = F335048 q335049 := (n355065 q335049 (rn_ty htq335049 ht355013 (by decide))).trans x354965
                        obtain ⟨z355078, hz355078⟩ : ∃ z : Int32, z = g354960 + Int32.ofInt 1 := ⟨_, rfl⟩
                        have ez355078 : z355078.toInt = g354960.toInt + 1 := gI_inc hz355078 (by decide) bg354960' (by decide) (by decide)
                        have bz355078 : gB z355078 1 1000000 := ⟨by omega, by omega⟩
                        refine G_iinc (L' := [(5, .int z355078), (6, .ref q355010), (4, .ref q354818), (3, .int g354742), (2, .int g354391), (0, .ref q335049), (1, .ref q335050)]) z355078 1 dr_cX17_share_234 rfl hz355078.symm (Nat.le_of_ble_eq_true rfl) rfl ?_
                        refine G_goto 171 dr_cX17_share_237 (by decide +kernel) ?_
                        have hT355079 : RS D I P335047 F355063 γ el := RS_set hT354962 n355065 ht355013 (by decide) ⟨p355022, p355023, p355024, p355025, z355060, p355027, p355028, he355074, (gB_w bp355022' (by decide) (by decide)), bp355023, bz355060', bp355027, bp355028, (by omega), (by omega), (by omega), (by omega)⟩
                        refine G_lv (L' := [(5, .int z355078), (4, .ref q354818), (3, .int g354742), (2, .int g354391), (0, .ref q335049), (1, .ref q335050)]) [0, 2, 3, 4, 5, 6] rfl ?_
                        exact ih171_354966 F355063 z355078 (gB_w bz355078 (by decide) (by decide)) hT355079 hs355076 (by rw [cB_of he355071]; exact cq354979) kp355077 mk355075 (mz_up ez355078 (Int.le_trans bg354960'.2 (by decide)) hm171_354966)
              exact hlp171_354966 (((1000001 : Int) - 0).toNat + 1) F354743 0 (gB_w (gBl (show Int32.toInt 0 = 0 by decide)) (by decide) (by decide)) hT354744 hs354745 (by rw [cB_of he354755]; exact cq354757) x354747 x354748 (Nat.lt_succ_self _)
        exact hlp153_354748 (((1000001 : Int) - 0).toNat + 1) F354392 0 (gB_w (gBl (show Int32.toInt 0 = 0 by decide)) (by decide) (by decide)) hT354393 hs354394 (by rw [cB_of he354405]; exact fun q hq => cq354407 q (by omega)) x354397 x354398 (Nat.lt_succ_self _)
      · have r355080 : g354390.toInt < p335060.toInt := gC_nle hc354408
        have bg354390' : gB g354390 0 99 := ⟨by omega, by omega⟩
        have bp335060' : gB p335060 1 100 := ⟨by omega, by omega⟩
        refine G_iconst 0 dr_cX17_share_18 (by decide +kernel) ?_
        refine G_istore (L' := [(4, .int 0), (3, .int g354390), (2, .int g354391), (0, .ref q335049), (1, .ref q335050)]) dr_cX17_share_19 (Nat.le_of_ble_eq_true rfl) rfl ?_
        refine G_iconst 0 dr_cX17_share_21 (by decide +kernel) ?_
        refine G_istore (L' := [(5, .int 0), (4, .int 0), (3, .int g354390), (2, .int g354391), (0, .ref q335049), (1, .ref q335050)]) dr_cX17_share_22 (Nat.le_of_ble_eq_true rfl) rfl ?_
        have hlp24_355488 : ∀ (n24_355488 : Nat) (F355483 : Nat → va_E) (g355482 : Int32), gB g355482 0 1999 → RS D I P335047 F355483 γ el → rStr γ [1] F335048 F355483 → (∀ q : Nat, (q : Int) < g354390.toInt → 0 ≤ (cB (F355483 (γ 9 19)) q).toInt ∧ (cB (F355483 (γ 9 19)) q).toInt ≤ q) → (F355483 q335049 = F335048 q335049) → mKp (F335048 q335049) (F355483 q335049) → ((2000 : Int) - g355482.toInt).toNat < n24_355488 → G (gV D I) l (gRm 6 141 0 0) (gMA (gV D I) (pt_335053_SpillForgeModel_share D I γ el P335047 F335048 q335049 q335050) gNA 0 0) ky_335053_SpillForgeModel_share 24 [(5, .int g355482), (4, .int 0), (3, .int g354390), (2, .int g354391), (0, .ref q335049), (1, .ref q335050)] [] (va_pl P335047 F355483) 0 0 := by
          intro n24_355488
          induction n24_355488 with
          | zero => intro F355483 g355482 bg355482 hT355484 hs355485 x355486 x355487 x355488 hm24_355488; exact absurd hm24_355488 (Nat.not_lt_zero _)
          | succ n24_355488 ih24_355488 =>
            intro F355483 g355482 bg355482 hT355484 hs355485 x355486 x355487 x355488 hm24_355488
            have hs355490 : rStr γ [1] F354392 F355483 := fun b h0 hb hw => (hs355485 b h0 hb hw).trans (hs354394 b h0 hb hw).symm
            have hs355491 : rStr γ [1] F335048 F355483 := rStr_tr hs354394 hs355490
            have he355492 : F355483 q335049 = .inr (22, [.ref (γ 9 0), .ref (γ 9 1), .ref (γ 9 2), .ref (γ 9 3), .ref (γ 9 4), .ref (γ 9 5), .ref (γ 9 6), .ref (γ 9 7), .ref (γ 9 8), .int p335058, .int p335059, .int p335060, .int p335061, .int p335062, .int p335063, .ref (γ 9 15), .ref (γ 9 16), .ref (γ 9 17), .ref (γ 9 18), .ref (γ 9 19), .ref (γ 9 20), .ref (γ 9 21), .ref (γ 9 22), .int p335064, .int p335065, .int p335066, .int p335067, .int p335068, .ref q335056, .ref (γ 9 29), .int p335069, .ref (γ 9 31), .int p335070, .int p335071, .int p335072, .ref q335057]) := x355487.trans he335055
            have hm355493 : q335049 ∈ P335047 := RS_m hT355484 htq335049 (by decide)
            have hm355494 : (γ 9 19) ∈ P335047 := RS_m hT355484 ht335088 (by decide)
            obtain ⟨f355496, he355495, bf355496⟩ := show rk_21 I (F355483 (γ 9 19)) from RS_o hT355484 ht335088
            have cq355497 := x355486
            rw [cB_of he355495] at cq355497
            refine G_iload 0 dr_cX17_share_24 rfl ?_
            refine G_iload_n 2 dr_cX17_share_26 rfl ?_
            refine G_icmp_ge 44 dr_cX17_share_27 (by decide +kernel) (fun hc355498 => ?_) (fun hc355498 => ?_)
            · have r355499 : g354390.toInt ≤ g355482.toInt := gC_le hc355498
              refine G_iconst 0 dr_cX17_share_44 (by decide +kernel) ?_
              refine G_istore (L' := [(5, .int 0), (4, .int 0), (3, .int g354390), (2, .int g354391), (0, .ref q335049), (1, .ref q335050)]) dr_cX17_share_45 (Nat.le_of_ble_eq_true rfl) rfl ?_
              have hlp47_355690 : ∀ (n47_355690 : Nat) (F355685 : Nat → va_E) (g355684 : Int32), gB g355684 0 99 → RS D I P335047 F355685 γ el → rStr γ [1] F335048 F355685 → (∀ q : Nat, (q : Int) < g354390.toInt → 0 ≤ (cB (F355685 (γ 9 19)) q).toInt ∧ (cB (F355685 (γ 9 19)) q).toInt ≤ q) → (F355685 q335049 = F335048 q335049) → mKp (F335048 q335049) (F355685 q335049) → ((100 : Int) - g355684.toInt).toNat < n47_355690 → G (gV D I) l (gRm 6 141 0 0) (gMA (gV D I) (pt_335053_SpillForgeModel_share D I γ el P335047 F335048 q335049 q335050) gNA 0 0) ky_335053_SpillForgeModel_share 47 [(5, .int g355684), (4, .int 0), (3, .int g354390), (2, .int g354391), (0, .ref q335049), (1, .ref q335050)] [] (va_pl P335047 F355685) 0 0 := by
                intro n47_355690
                induction n47_355690 with
                | zero => intro F355685 g355684 bg355684 hT355686 hs355687 x355688 x355689 x355690 hm47_355690; exact absurd hm47_355690 (Nat.not_lt_zero _)
                | succ n47_355690 ih47_355690 =>
                  intro F355685 g355684 bg355684 hT355686 hs355687 x355688 x355689 x355690 hm47_355690
                  have hs355692 : rStr γ [1] F355483 F355685 := fun b h0 hb hw => (hs355687 b h0 hb hw).trans (hs355485 b h0 hb hw).symm
                  have hs355693 : rStr γ [1] F335048 F355685 := rStr_tr hs355485 hs355692
                  have he355694 : F355685 q335049 = .inr (22, [.ref (γ 9 0), .ref (γ 9 1), .ref (γ 9 2), .ref (γ 9 3), .ref (γ 9 4), .ref (γ 9 5), .ref (γ 9 6), .ref (γ 9 7), .ref (γ 9 8), .int p335058, .int p335059, .int p335060, .int p335061, .int p335062, .int p335063, .ref (γ 9 15), .ref (γ 9 16), .ref (γ 9 17), .ref (γ 9 18), .ref (γ 9 19), .ref (γ 9 20), .ref (γ 9 21), .ref (γ 9 22), .int p335064, .int p335065, .int p335066, .int p335067, .int p335068, .ref q335056, .ref (γ 9 29), .int p335069, .ref (γ 9 31), .int p335070, .int p335071, .int p335072, .ref q335057]) := x355689.trans he335055
                  have hm355695 : q335049 ∈ P335047 := RS_m hT355686 htq335049 (by decide)
                  have hm355696 : (γ 9 19) ∈ P335047 := RS_m hT355686 ht335088 (by decide)
                  obtain ⟨f355698, he355697, bf355698⟩ := show rk_21 I (F355685 (γ 9 19)) from RS_o hT355686 ht335088
                  have cq355699 := x355688
                  rw [cB_of he355697] at cq355699
                  refine G_iload 0 dr_cX17_share_47 rfl ?_
                  refine G_iload_n 2 dr_cX17_share_49 rfl ?_
                  refine G_icmp_ge 96 dr_cX17_share_50 (by decide +kernel) (fun hc355700 => ?_) (fun hc355700 => ?_)
                  · have r355701 : g354390.toInt ≤ g355684.toInt := gC_le hc355700
                    have hlp96_355759 : ∀ (n96_355759 : Nat) (g355757 : Int32), gB g355757 0 99 → (∀ q : Nat, (q : Int) < g354390.toInt → 0 ≤ (cB (F355685 (γ 9 19)) q).toInt ∧ (cB (F355685 (γ 9 19)) q).toInt ≤ q) → (g355757.toInt ≤ g354390.toInt) → ((100 : Int) - g355757.toInt).toNat < n96_355759 → G (gV D I) l (gRm 6 141 0 0) (gMA (gV D I) (pt_335053_SpillForgeModel_share D I γ el P335047 F335048 q335049 q335050) gNA 0 0) ky_335053_SpillForgeModel_share 96 [(5, .int g355684), (4, .int g355757), (3, .int g354390), (2, .int g354391), (0, .ref q335049), (1, .ref q335050)] [] (va_pl P335047 F355685) 0 0 := by
                      intro n96_355759
                      induction n96_355759 with
                      | zero => intro g355757 bg355757 x355758 x355759 hm96_355759; exact absurd hm96_355759 (Nat.not_lt_zero _)
                      | succ n96_355759 ih96_355759 =>
                        intro g355757 bg355757 x355758 x355759 hm96_355759
                        have cq355761 := x355758
                        rw [cB_of he355697] at cq355761
                        refine G_iload 1 dr_cX17_share_96 rfl ?_
                        refine G_iload_n 2 dr_cX17_share_98 rfl ?_
                        refine G_icmp_ge 119 dr_cX17_share_99 (by decide +kernel) (fun hc355762 => ?_) (fun hc355762 => ?_)
                        · have r355763 : g354390.toInt ≤ g355757.toInt := gC_le hc355762
                          refine G_aload_n 4 dr_cX17_share_119 rfl ?_
                          refine Gp_get 19 hm355695 he355694 dr_cX17_share_120 (gk_X17 D I) (Nat.le_of_ble_eq_true rfl) wr_7_93 rfl ?_
                          refine G_iload_n 2 dr_cX17_share_123 rfl ?_
                          refine G_iload 1 dr_cX17_share_124 rfl ?_
                          refine Gp_iast 0 hm355696 he355697 dr_cX17_share_126 rfl (gB_in bg354390' (by decide) (by decide)) (fun F355764 e355765 n355766 => ?_)
                          obtain ⟨f355767, hf355767⟩ : ∃ z, z = upd f355698 g354390.toNatClampNeg g355757 := ⟨_, rfl⟩
                          rw [← hf355767] at e355765
                          have he355768 : F355764 q335049 = .inr (22, [.ref (γ 9 0), .ref (γ 9 1), .ref (γ 9 2), .ref (γ 9 3), .ref (γ 9 4), .ref (γ 9 5), .ref (γ 9 6), .ref (γ 9 7), .ref (γ 9 8), .int p335058, .int p335059, .int p335060, .int p335061, .int p335062, .int p335063, .ref (γ 9 15), .ref (γ 9 16), .ref (γ 9 17), .ref (γ 9 18), .ref (γ 9 19), .ref (γ 9 20), .ref (γ 9 21), .ref (γ 9 22), .int p335064, .int p335065, .int p335066, .int p335067, .int p335068, .ref q335056, .ref (γ 9 29), .int p335069, .ref (γ 9 31), .int p335070, .int p335071, .int p335072, .ref q335057]) := (n355766 q335049 (rn_oa he355694 he355697)).trans he355694
                          have he355769 : F355764 (γ 9 19) = .inl (I .int, 2000, .inl f355767) := e355765
                          have mk355770 : mKp (F335048 q335049) (F355764 q335049) := mKp_tr x355690 (mKp_eq (n355766 q335049 (rn_ty htq335049 ht335088 (by decide))))
                          have hs355771 : rStr γ [1] F335048 F355764 := rStr_put hs355687 n355766 ht335088 (by decide)
                          have kp355772 : F355764 q335049 = F335048 q335049 := (n355766 q335049 (rn_ty htq335049 ht335088 (by decide))).trans x355689
                          have bf355767 : gF f355767 (-1) 1999 := gF_upd hf355767 bf355698 (gB_w bg355757 (by decide) (by decide))
                          refine G_aload_n 4 dr_cX17_share_127 rfl ?_
                          refine Gp_get 3 hm355695 he355768 dr_cX17_share_128 (gk_X17 D I) (Nat.le_of_ble_eq_true rfl) wr_7_77 rfl ?_
                          refine G_iload_n 2 dr_cX17_share_131 rfl ?_
                          have hT355773 : RS D I P335047 F355764 γ el := RS_set hT355686 n355766 ht335088 (by decide) ⟨f355767, he355769, bf355767⟩
                          have hm355774 : (γ 9 3) ∈ P335047 := RS_m hT355773 ht335078 (by decide)
                          obtain ⟨f355776, he355775, bf355776⟩ := show rk_14 I (F355764 (γ 9 3)) from RS_o hT355773 ht335078
                          refine Gp_zald 3 hm355774 he355775 dr_cX17_share_132 rfl (gB_in bg354390' (by decide) (by decide)) (G_nam fun z355777 hz355777 => ?_)
                          have bz355777 : gB z355777 0 1 := by rw [hz355777]; exact bf355776 _
                          refine G_if_eq 145 dr_cX17_share_133 (by decide +kernel) (fun hc355778 => ?_) (fun hc355778 => ?_)
                          · have r355779 : z355777.toInt = 0 := gj_eq hc355778 (show Int32.toInt 0 = 0 by decide)
                            have bz355777' : gB z355777 0 0 := gB_t0 r355779
                            obtain ⟨z355780, hz355780⟩ : ∃ z : Int32, z = g354390 + Int32.ofInt 1 := ⟨_, rfl⟩
                            have ez355780 : z355780.toInt = g354390.toInt + 1 := gI_inc hz355780 (by decide) bg354390' (by decide) (by decide)
                            have bz355780 : gB z355780 1 100 := ⟨by omega, by omega⟩
                            refine G_iinc (L' := [(3, .int z355780), (5, .int g355684), (4, .int g355757), (2, .int g354391), (0, .ref q335049), (1, .ref q335050)]) z355780 2 dr_cX17_share_145 rfl hz355780.symm (Nat.le_of_ble_eq_true rfl) rfl ?_
                            refine G_goto 10 dr_cX17_share_148 (by decide +kernel) ?_
                            refine G_lv (L' := [(3, .int z355780), (2, .int g354391), (0, .ref q335049), (1, .ref q335050)]) [0, 3, 4, 5] rfl ?_
                            exact ih10_354398 F355764 z355780 g354391 (gB_w bz355780 (by decide) (by decide)) bg354391 hT355773 hs355771 (by rw [ez355780]; rw [cB_of he355769]; exact sl_u hf355767 (by omega) (by omega) (by omega) cq355761) (by omega) kp355772 mk355770 (mz_up ez355780 (Int.le_trans bg354390'.2 (by decide)) hm10_354398)
                          · have r355781 : z355777.toInt ≠ 0 := gj_neq hc355778 (show Int32.toInt 0 = 0 by decide)
                            have bz355777' : gB z355777 1 1 := gB_t1 bz355777 r355781
                            refine G_iload_n 3 dr_cX17_share_136 rfl ?_
                            refine G_iload 1 dr_cX17_share_137 rfl ?_
                            refine G_iconst 1 dr_cX17_share_139 (by decide +kernel) ?_
                            refine G_iadd dr_cX17_share_140 (G_nam fun z355782 hz355782 => ?_)
                            have ez355782 : z355782.toInt = g355757.toInt + 1 := by rw [gI_add hz355782 bg355757 (gBl (show Int32.toInt 1 = 1 by decide)) (by decide) (by decide), show Int32.toInt 1 = 1 from by decide]
                            have bz355782 : gB z355782 1 100 := gB_add (gI_add hz355782 bg355757 (gBl (show Int32.toInt 1 = 1 by decide)) (by decide) (by decide)) bg355757 (gBl (show Int32.toInt 1 = 1 by decide)) (by decide) (by decide)
                            refine G_mmax dr_cX17_share_141 wr_11_21 wr_1_140 wr_1_6 wr_1_141 (Nat.le_of_ble_eq_true rfl) (Nat.le_of_ble_eq_true rfl) (show 0 ≤ 0 by first | omega | decide) (show 0 ≤ 0 by first | omega | decide) (G_nam fun z355783 hz355783 => ?_)
                            have ez355783 : g354391.toInt ≤ z355783.toInt ∧ z355782.toInt ≤ z355783.toInt ∧ (z355783.toInt = g354391.toInt ∨ z355783.toInt = z355782.toInt) := by have := gI_max hz355783; omega
                            have bz355783 : gB z355783 1 1999 := ⟨by omega, by omega⟩
                            have bz355783' : gB z355783 1 100 := ⟨by omega, by omega⟩
                            refine G_istore_n (L' := [(2, .int z355783), (5, .int g355684), (4, .int g355757), (3, .int g354390), (0, .ref q335049), (1, .ref q335050)]) dr_cX17_share_144 (Nat.le_of_ble_eq_true rfl) rfl ?_
                            obtain ⟨z355784, hz355784⟩ : ∃ z : Int32, z = g354390 + Int32.ofInt 1 := ⟨_, rfl⟩
                            have ez355784 : z355784.toInt = g354390.toInt + 1 := gI_inc hz355784 (by decide) bg354390' (by decide) (by decide)
                            have bz355784 : gB z355784 1 100 := ⟨by omega, by omega⟩
                            refine G_iinc (L' := [(3, .int z355784), (2, .int z355783), (5, .int g355684), (4, .int g355757), (0, .ref q335049), (1, .ref q335050)]) z355784 3 dr_cX17_share_145 rfl hz355784.symm (Nat.le_of_ble_eq_true rfl) rfl ?_
                            refine G_goto 10 dr_cX17_share_148 (by decide +kernel) ?_
                            refine G_lv (L' := [(3, .int z355784), (2, .int z355783), (0, .ref q335049), (1, .ref q335050)]) [0, 1, 4, 5] rfl ?_
                            exact ih10_354398 F355764 z355784 z355783 (gB_w bz355784 (by decide) (by decide)) (gB_w bz355783' (by decide) (by decide)) hT355773 hs355771 (by rw [ez355784]; rw [cB_of he355769]; exact sl_u hf355767 (by omega) (by omega) (by omega) cq355761) (by omega) kp355772 mk355770 (mz_up ez355784 (Int.le_trans bg354390'.2 (by decide)) hm10_354398)
                        · have r355785 : g355757.toInt < g354390.toInt := gC_nle hc355762
                          have bg355757' : gB g355757 0 98 := ⟨by omega, by omega⟩
                          have bg354390'' : gB g354390 1 99 := ⟨by omega, by omega⟩
                          refine G_aload_n 4 dr_cX17_share_102 rfl ?_
                          refine Gp_get 16 hm355695 he355694 dr_cX17_share_103 (gk_X17 D I) (Nat.le_of_ble_eq_true rfl) wr_7_90 rfl ?_
                          refine G_iload 1 dr_cX17_share_106 rfl ?_
                          have hm355786 : (γ 9 16) ∈ P335047 := RS_m hT355686 ht335085 (by decide)
                          obtain ⟨f355788, he355787⟩ := show rk_19 I (F355685 (γ 9 16)) from RS_o hT355686 ht335085
                          refine Gp_iald 0 hm355786 he355787 dr_cX17_share_108 rfl (gB_in bg355757' (by decide) (by decide)) (G_nam fun z355789 hz355789 => ?_)
                          have bz355789 : gB z355789 (-2147483648) 2147483647 := gB_any z355789
                          refine G_iconst 1 dr_cX17_share_109 (by decide +kernel) ?_
                          refine G_icmp_ne 119 dr_cX17_share_110 (by decide +kernel) (fun hc355790 => ?_) (fun hc355790 => ?_)
                          · have r355791 : z355789.toInt ≠ 1 := gj_neq hc355790 (show Int32.toInt 1 = 1 by decide)
                            refine G_aload_n 4 dr_cX17_share_119 rfl ?_
                            refine Gp_get 19 hm355695 he355694 dr_cX17_share_120 (gk_X17 D I) (Nat.le_of_ble_eq_true rfl) wr_7_93 rfl ?_
                            refine G_iload_n 2 dr_cX17_share_123 rfl ?_
                            refine G_iload 1 dr_cX17_share_124 rfl ?_
                            refine Gp_iast 0 hm355696 he355697 dr_cX17_share_126 rfl (gB_in bg354390'' (by decide) (by decide)) (fun F355792 e355793 n355794 => ?_)
                            obtain ⟨f355795, hf355795⟩ : ∃ z, z = upd f355698 g354390.toNatClampNeg g355757 := ⟨_, rfl⟩
                            rw [← hf355795] at e355793
                            have he355796 : F355792 q335049 = .inr (22, [.ref (γ 9 0), .ref (γ 9 1), .ref (γ 9 2), .ref (γ 9 3), .ref (γ 9 4), .ref (γ 9 5), .ref (γ 9 6), .ref (γ 9 7), .ref (γ 9 8), .int p335058, .int p335059, .int p335060, .int p335061, .int p335062, .int p335063, .ref (γ 9 15), .ref (γ 9 16), .ref (γ 9 17), .ref (γ 9 18), .ref (γ 9 19), .ref (γ 9 20), .ref (γ 9 21), .ref (γ 9 22), .int p335064, .int p335065, .int p335066, .int p335067, .int p335068, .ref q335056, .ref (γ 9 29), .int p335069, .ref (γ 9 31), .int p335070, .int p335071, .int p335072, .ref q335057]) := (n355794 q335049 (rn_oa he355694 he355697)).trans he355694
                            have he355797 : F355792 (γ 9 16) = .inl (I .int, 2000, .inl f355788) := (n355794 (γ 9 16) (rn_ty ht335085 ht335088 (by decide))).trans he355787
                            have he355798 : F355792 (γ 9 19) = .inl (I .int, 2000, .inl f355795) := e355793
                            have mk355799 : mKp (F335048 q335049) (F355792 q335049) := mKp_tr x355690 (mKp_eq (n355794 q335049 (rn_ty htq335049 ht335088 (by decide))))
                            have hs355800 : rStr γ [1] F335048 F355792 := rStr_put hs355687 n355794 ht335088 (by decide)
                            have kp355801 : F355792 q335049 = F335048 q335049 := (n355794 q335049 (rn_ty htq335049 ht335088 (by decide))).trans x355689
                            have bf355795 : gF f355795 (-1) 1999 := gF_upd hf355795 bf355698 (gB_w bg355757' (by decide) (by decide))
                            refine G_aload_n 4 dr_cX17_share_127 rfl ?_
                            refine Gp_get 3 hm355695 he355796 dr_cX17_share_128 (gk_X17 D I) (Nat.le_of_ble_eq_true rfl) wr_7_77 rfl ?_
                            refine G_iload_n 2 dr_cX17_share_131 rfl ?_
                            have hT355802 : RS D I P335047 F355792 γ el := RS_set hT355686 n355794 ht335088 (by decide) ⟨f355795, he355798, bf355795⟩
                            have hm355803 : (γ 9 3) ∈ P335047 := RS_m hT355802 ht335078 (by decide)
                            obtain ⟨f355805, he355804, bf355805⟩ := show rk_14 I (F355792 (γ 9 3)) from RS_o hT355802 ht335078
                            refine Gp_zald 3 hm355803 he355804 dr_cX17_share_132 rfl (gB_in bg354390'' (by decide) (by decide)) (G_nam fun z355806 hz355806 => ?_)
                            have bz355806 : gB z355806 0 1 := by rw [hz355806]; exact bf355805 _
                            refine G_if_eq 145 dr_cX17_share_133 (by decide +kernel) (fun hc355807 => ?_) (fun hc355807 => ?_)
                            · have r355808 : z355806.toInt = 0 := gj_eq hc355807 (show Int32.toInt 0 = 0 by decide)
                              have bz355806' : gB z355806 0 0 := gB_t0 r355808
                              obtain ⟨z355809, hz355809⟩ : ∃ z : Int32, z = g354390 + Int32.ofInt 1 := ⟨_, rfl⟩
                              have ez355809 : z355809.toInt = g354390.toInt + 1 := gI_inc hz355809 (by decide) bg354390'' (by decide) (by decide)
                              have bz355809 : gB z355809 2 100 := ⟨by omega, by omega⟩
                              refine G_iinc (L' := [(3, .int z355809), (5, .int g355684), (4, .int g355757), (2, .int g354391), (0, .ref q335049), (1, .ref q335050)]) z355809 2 dr_cX17_share_145 rfl hz355809.symm (Nat.le_of_ble_eq_true rfl) rfl ?_
                              refine G_goto 10 dr_cX17_share_148 (by decide +kernel) ?_
                              refine G_lv (L' := [(3, .int z355809), (2, .int g354391), (0, .ref q335049), (1, .ref q335050)]) [0, 3, 4, 5] rfl ?_
                              exact ih10_354398 F355792 z355809 g354391 (gB_w bz355809 (by decide) (by decide)) bg354391 hT355802 hs355800 (by rw [ez355809]; rw [cB_of he355798]; exact sl_u hf355795 (by omega) (by omega) (by omega) cq355761) (by omega) kp355801 mk355799 (mz_up ez355809 (Int.le_trans bg354390''.2 (by decide)) hm10_354398)
                            · have r355810 : z355806.toInt ≠ 0 := gj_neq hc355807 (show Int32.toInt 0 = 0 by decide)
                              have bz355806' : gB z355806 1 1 := gB_t1 bz355806 r355810
                              refine G_iload_n 3 dr_cX17_share_136 rfl ?_
                              refine G_iload 1 dr_cX17_share_137 rfl ?_
                              refine G_iconst 1 dr_cX17_share_139 (by decide +kernel) ?_
                              refine G_iadd dr_cX17_share_140 (G_nam fun z355811 hz355811 => ?_)
                              have ez355811 : z355811.toInt = g355757.toInt + 1 := by rw [gI_add hz355811 bg355757' (gBl (show Int32.toInt 1 = 1 by decide)) (by decide) (by decide), show Int32.toInt 1 = 1 from by decide]
                              have bz355811 : gB z355811 1 99 := gB_add (gI_add hz355811 bg355757' (gBl (show Int32.toInt 1 = 1 by decide)) (by decide) (by decide)) bg355757' (gBl (show Int32.toInt 1 = 1 by decide)) (by decide) (by decide)
                              refine G_mmax dr_cX17_share_141 wr_11_21 wr_1_140 wr_1_6 wr_1_141 (Nat.le_of_ble_eq_true rfl) (Nat.le_of_ble_eq_true rfl) (show 0 ≤ 0 by first | omega | decide) (show 0 ≤ 0 by first | omega | decide) (G_nam fun z355812 hz355812 => ?_)
                              have ez355812 : g354391.toInt ≤ z355812.toInt ∧ z355811.toInt ≤ z355812.toInt ∧ (z355812.toInt = g354391.toInt ∨ z355812.toInt = z355811.toInt) := by have := gI_max hz355812; omega
                              have bz355812 : gB z355812 1 1999 := ⟨by omega, by omega⟩
                              have bz355812' : gB z355812 1 100 := ⟨by omega, by omega⟩
                              refine G_istore_n (L' := [(2, .int z355812), (5, .int g355684), (4, .int g355757), (3, .int g354390), (0, .ref q335049), (1, .ref q335050)]) dr_cX17_share_144 (Nat.le_of_ble_eq_true rfl) rfl ?_
                              obtain ⟨z355813, hz355813⟩ : ∃ z : Int32, z = g354390 + Int32.ofInt 1 := ⟨_, rfl⟩
                              have ez355813 : z355813.toInt = g354390.toInt + 1 := gI_inc hz355813 (by decide) bg354390'' (by decide) (by decide)
                              have bz355813 : gB z355813 2 100 := ⟨by omega, by omega⟩
                              refine G_iinc (L' := [(3, .int z355813), (2, .int z355812), (5, .int g355684), (4, .int g355757), (0, .ref q335049), (1, .ref q335050)]) z355813 3 dr_cX17_share_145 rfl hz355813.symm (Nat.le_of_ble_eq_true rfl) rfl ?_
                              refine G_goto 10 dr_cX17_share_148 (by decide +kernel) ?_
                              refine G_lv (L' := [(3, .int z355813), (2, .int z355812), (0, .ref q335049), (1, .ref q335050)]) [0, 1, 4, 5] rfl ?_
                              exact ih10_354398 F355792 z355813 z355812 (gB_w bz355813 (by decide) (by decide)) (gB_w bz355812' (by decide) (by decide)) hT355802 hs355800 (by rw [ez355813]; rw [cB_of he355798]; exact sl_u hf355795 (by omega) (by omega) (by omega) cq355761) (by omega) kp355801 mk355799 (mz_up ez355813 (Int.le_trans bg354390''.2 (by decide)) hm10_354398)
                          · have r355814 : z355789.toInt = 1 := gj_eq hc355790 (show Int32.toInt 1 = 1 by decide)
                            have bz355789' : gB z355789 1 1 := ⟨by omega, by omega⟩
                            obtain ⟨z355815, hz355815⟩ : ∃ z : Int32, z = g355757 + Int32.ofInt 1 := ⟨_, rfl⟩
                            have ez355815 : z355815.toInt = g355757.toInt + 1 := gI_inc hz355815 (by decide) bg355757' (by decide) (by decide)
                            have bz355815 : gB z355815 1 99 := ⟨by omega, by omega⟩
                            refine G_iinc (L' := [(4, .int z355815), (5, .int g355684), (3, .int g354390), (2, .int g354391), (0, .ref q335049), (1, .ref q335050)]) z355815 1 dr_cX17_share_113 rfl hz355815.symm (Nat.le_of_ble_eq_true rfl) rfl ?_
                            refine G_goto 96 dr_cX17_share_116 (by decide +kernel) ?_
                            refine G_lv (L' := [(5, .int g355684), (4, .int z355815), (3, .int g354390), (2, .int g354391), (0, .ref q335049), (1, .ref q335050)]) [1, 0, 2, 3, 4, 5] rfl ?_
                            exact ih96_355759 z355815 (gB_w bz355815 (by decide) (by decide)) (by rw [cB_of he355697]; exact cq355761) (by omega) (mz_up ez355815 (Int.le_trans bg355757'.2 (by decide)) hm96_355759)
                    exact hlp96_355759 (((100 : Int) - 0).toNat + 1) 0 (gB_w (gBl (show Int32.toInt 0 = 0 by decide)) (by decide) (by decide)) (by rw [cB_of he355697]; exact cq355699) (by have qa0 : Int32.toInt 0 = 0 := (by decide); omega) (Nat.lt_succ_self _)
                  · have r355816 : g355684.toInt < g354390.toInt := gC_nle hc355700
                    have bg355684' : gB g355684 0 98 := ⟨by omega, by omega⟩
                    have bg354390'' : gB g354390 1 99 := ⟨by omega, by omega⟩
                    refine G_aload_n 4 dr_cX17_share_53 rfl ?_
                    refine Gp_get 3 hm355695 he355694 dr_cX17_share_54 (gk_X17 D I) (Nat.le_of_ble_eq_true rfl) wr_7_77 rfl ?_
                    refine G_iload 0 dr_cX17_share_57 rfl ?_
                    have hm355817 : (γ 9 3) ∈ P335047 := RS_m hT355686 ht335078 (by decide)
                    obtain ⟨f355819, he355818, bf355819⟩ := show rk_14 I (F355685 (γ 9 3)) from RS_o hT355686 ht335078
                    refine Gp_zald 3 hm355817 he355818 dr_cX17_share_59 rfl (gB_in bg355684' (by decide) (by decide)) (G_nam fun z355820 hz355820 => ?_)
                    have bz355820 : gB z355820 0 1 := by rw [hz355820]; exact bf355819 _
                    refine G_if_eq 90 dr_cX17_share_60 (by decide +kernel) (fun hc355821 => ?_) (fun hc355821 => ?_)
                    · have r355822 : z355820.toInt = 0 := gj_eq hc355821 (show Int32.toInt 0 = 0 by decide)
                      have bz355820' : gB z355820 0 0 := gB_t0 r355822
                      obtain ⟨z355823, hz355823⟩ : ∃ z : Int32, z = g355684 + Int32.ofInt 1 := ⟨_, rfl⟩
                      have ez355823 : z355823.toInt = g355684.toInt + 1 := gI_inc hz355823 (by decide) bg355684' (by decide) (by decide)
                      have bz355823 : gB z355823 1 99 := ⟨by omega, by omega⟩
                      refine G_iinc (L' := [(5, .int z355823), (4, .int 0), (3, .int g354390), (2, .int g354391), (0, .ref q335049), (1, .ref q335050)]) z355823 0 dr_cX17_share_90 rfl hz355823.symm (Nat.le_of_ble_eq_true rfl) rfl ?_
                      refine G_goto 47 dr_cX17_share_93 (by decide +kernel) ?_
                      exact ih47_355690 F355685 z355823 (gB_w bz355823 (by decide) (by decide)) hT355686 hs355687 (by rw [cB_of he355697]; exact cq355699) x355689 x355690 (mz_up ez355823 (Int.le_trans bg355684'.2 (by decide)) hm47_355690)
                    · have r355824 : z355820.toInt ≠ 0 := gj_neq hc355821 (show Int32.toInt 0 = 0 by decide)
                      have bz355820' : gB z355820 1 1 := gB_t1 bz355820 r355824
                      refine G_aload_n 4 dr_cX17_share_63 rfl ?_
                      refine Gp_get 1 hm355695 he355694 dr_cX17_share_64 (gk_X17 D I) (Nat.le_of_ble_eq_true rfl) wr_7_75 rfl ?_
                      refine G_iload_n 2 dr_cX17_share_67 rfl ?_
                      have hm355825 : (γ 9 1) ∈ P335047 := RS_m hT355686 ht335076 (by decide)
                      obtain ⟨f355827, he355826, hg355828⟩ := show rk_13 I γ (F355685 (γ 9 1)) from RS_o hT355686 ht335076
                      obtain ⟨q355829, hx355831⟩ : ∃ x, x = γ 11 g354390.toInt.toNat := ⟨_, rfl⟩
                      have ht355830 : rKd γ q355829 36 := by rw [hx355831]; exact (hg355828 _ (show g354390.toInt.toNat < 2000 by omega)).2.1
                      refine Gp_aald 5 hm355825 he355826 dr_cX17_share_68 rfl rfl (gB_in bg354390'' (by decide) (by decide)) ?_
                      rw [show f355827 g354390.toNatClampNeg = some q355829 from (hg355828 _ (show g354390.toInt.toNat < 2000 by omega)).1.trans (by rw [hx355831])]
                      change G _ _ _ _ _ _ _ (.ref q355829 :: _) _ _ _
                      refine G_iload 0 dr_cX17_share_69 rfl ?_
                      have hm355832 : q355829 ∈ P335047 := RS_m hT355686 ht355830 (by decide)
                      obtain ⟨f355834, he355833, wf355834⟩ := show rk_36 I (F355685 q355829) from RS_o hT355686 ht355830
                      refine Gw_callS (As := [.ref q355829, .int g355684]) (gV_ok D I) (cp_1838_SpillForgeModel_has l hl0 D I P335047 F355685 q355829 g355684 f355834 hm355832 he355833 (gB_w bg355684' (by decide) (by decide))) dr_cX17_share_71 ⟨wr_10_203, wr_1_14, wr_10_205, by decide, rfl, (Nat.le_of_ble_eq_true rfl), (Nat.le_of_ble_eq_true rfl)⟩ wr_10_204 (show 0 + 0 ≤ 0 by first | omega | decide) (show 0 + 0 ≤ 0 by first | omega | decide) (Nat.le_of_ble_eq_true rfl) (fun r355838 w355839 dc355835 ds355836 hp355837 => ?_) (fun _ _ _ _ _ z => z.elim)
                      rcases hp355837 with ⟨z355840, z355841, rfl, rfl, hdc, hds, r355842, r355843, r355844, r355845⟩ | ⟨z355846, z355847, rfl, rfl, hdc, hds, r355848, r355849, r355850, r355851⟩
                      · change G _ _ _ _ _ _ _ (.int 0 :: _) _ _ _
                        refine G_widen (cs' := 0) (sl' := 0) (by omega) (by omega) ?_
                        refine G_if_eq 90 dr_cX17_share_74 (by decide +kernel) (fun _ => ?_) (fun hc => absurd hc (by decide))
                        obtain ⟨z355853, hz355853⟩ : ∃ z : Int32, z = g355684 + Int32.ofInt 1 := ⟨_, rfl⟩
                        have ez355853 : z355853.toInt = g355684.toInt + 1 := gI_inc hz355853 (by decide) bg355684' (by decide) (by decide)
                        have bz355853 : gB z355853 1 99 := ⟨by omega, by omega⟩
                        refine G_iinc (L' := [(5, .int z355853), (4, .int 0), (3, .int g354390), (2, .int g354391), (0, .ref q335049), (1, .ref q335050)]) z355853 0 dr_cX17_share_90 rfl hz355853.symm (Nat.le_of_ble_eq_true rfl) rfl ?_
                        refine G_goto 47 dr_cX17_share_93 (by decide +kernel) ?_
                        exact ih47_355690 F355685 z355853 (gB_w bz355853 (by decide) (by decide)) hT355686 hs355687 (by rw [cB_of he355697]; exact cq355699) x355689 x355690 (mz_up ez355853 (Int.le_trans bg355684'.2 (by decide)) hm47_355690)
                      · change G _ _ _ _ _ _ _ (.int 1 :: _) _ _ _
                        refine G_widen (cs' := 0) (sl' := 0) (by omega) (by omega) ?_
                        refine G_if_eq 90 dr_cX17_share_74 (by decide +kernel) (fun hc => absurd hc (by decide)) (fun _ => ?_)
                        refine G_aload_n 4 dr_cX17_share_77 rfl ?_
                        refine Gp_get 16 hm355695 he355694 dr_cX17_share_78 (gk_X17 D I) (Nat.le_of_ble_eq_true rfl) wr_7_90 rfl ?_
                        refine G_aload_n 4 dr_cX17_share_81 rfl ?_
                        refine Gp_get 19 hm355695 he355694 dr_cX17_share_82 (gk_X17 D I) (Nat.le_of_ble_eq_true rfl) wr_7_93 rfl ?_
                        refine G_iload 0 dr_cX17_share_85 rfl ?_
                        refine Gp_iald 0 hm355696 he355697 dr_cX17_share_87 rfl (gB_in bg355684' (by decide) (by decide)) (G_nam fun z355854 hz355854 => ?_)
                        have bz355854 : gB z355854 (-1) 1999 := by rw [hz355854]; exact bf355698 _
                        have r355855 : 0 ≤ z355854.toInt := by rw [hz355854]; exact (cq355699 g355684.toInt.toNat (by omega)).1
                        have bz355854' : gB z355854 0 1999 := ⟨by omega, by omega⟩
                        refine G_iconst 1 dr_cX17_share_88 (by decide +kernel) ?_
                        have hm355856 : (γ 9 16) ∈ P335047 := RS_m hT355686 ht335085 (by decide)
                        obtain ⟨f355858, he355857⟩ := show rk_19 I (F355685 (γ 9 16)) from RS_o hT355686 ht335085
                        refine Gp_iast 0 hm355856 he355857 dr_cX17_share_89 rfl (gB_in bz355854' (by decide) (by decide)) (fun F355859 e355860 n355861 => ?_)
                        obtain ⟨f355862, hf355862⟩ : ∃ z, z = upd f355858 z355854.toNatClampNeg 1 := ⟨_, rfl⟩
                        rw [← hf355862] at e355860
                        have he355863 : F355859 q335049 = .inr (22, [.ref (γ 9 0), .ref (γ 9 1), .ref (γ 9 2), .ref (γ 9 3), .ref (γ 9 4), .ref (γ 9 5), .ref (γ 9 6), .ref (γ 9 7), .ref (γ 9 8), .int p335058, .int p335059, .int p335060, .int p335061, .int p335062, .int p335063, .ref (γ 9 15), .ref (γ 9 16), .ref (γ 9 17), .ref (γ 9 18), .ref (γ 9 19), .ref (γ 9 20), .ref (γ 9 21), .ref (γ 9 22), .int p335064, .int p335065, .int p335066, .int p335067, .int p335068, .ref q335056, .ref (γ 9 29), .int p335069, .ref (γ 9 31), .int p335070, .int p335071, .int p335072, .ref q335057]) := (n355861 q335049 (rn_oa he355694 he355857)).trans he355694
                        have he355864 : F355859 (γ 9 19) = .inl (I .int, 2000, .inl f355698) := (n355861 (γ 9 19) (rn_ty ht335088 ht335085 (by decide))).trans he355697
                        have he355865 : F355859 (γ 9 3) = .inl (I .boolean, 2000, .inl f355819) := (n355861 (γ 9 3) (rn_ty ht335078 ht335085 (by decide))).trans he355818
                        have he355866 : F355859 (γ 9 1) = .inl (I (.array .long), 2000, .inr (.inr (.inr (.inr f355827)))) := (n355861 (γ 9 1) (rn_ref_num he355826 he355857)).trans he355826
                        have he355867 : F355859 q355829 = .inl (I .long, 32, .inr (.inl f355834)) := (n355861 q355829 (rn_long_num he355833 he355857)).trans he355833
                        have he355868 : F355859 (γ 9 16) = .inl (I .int, 2000, .inl f355862) := e355860
                        have mk355869 : mKp (F335048 q335049) (F355859 q335049) := mKp_tr x355690 (mKp_eq (n355861 q335049 (rn_ty htq335049 ht335085 (by decide))))
                        have hs355870 : rStr γ [1] F335048 F355859 := rStr_put hs355687 n355861 ht335085 (by decide)
                        have kp355871 : F355859 q335049 = F335048 q335049 := (n355861 q335049 (rn_ty htq335049 ht335085 (by decide))).trans x355689
                        obtain ⟨z355872, hz355872⟩ : ∃ z : Int32, z = g355684 + Int32.ofInt 1 := ⟨_, rfl⟩
                        have ez355872 : z355872.toInt = g355684.toInt + 1 := gI_inc hz355872 (by decide) bg355684' (by decide) (by decide)
                        have bz355872 : gB z355872 1 99 := ⟨by omega, by omega⟩
                        refine G_iinc (L' := [(5, .int z355872), (4, .int 0), (3, .int g354390), (2, .int g354391), (0, .ref q335049), (1, .ref q335050)]) z355872 0 dr_cX17_share_90 rfl hz355872.symm (Nat.le_of_ble_eq_true rfl) rfl ?_
                        refine G_goto 47 dr_cX17_share_93 (by decide +kernel) ?_
                        have hT355873 : RS D I P335047 F355859 γ el := RS_set hT355686 n355861 ht335085 (by decide) ⟨f355862, he355868⟩
                        exact ih47_355690 F355859 z355872 (gB_w bz355872 (by decide) (by decide)) hT355873 hs355870 (by rw [cB_of he355864]; exact cq355699) kp355871 mk355869 (mz_up ez355872 (Int.le_trans bg355684'.2 (by decide)) hm47_355690)
              exact hlp47_355690 (((100 : Int) - 0).toNat + 1) F355483 0 (gB_w (gBl (show Int32.toInt 0 = 0 by decide)) (by decide) (by decide)) hT355484 hs355485 (by rw [cB_of he355495]; exact cq355497) x355487 x355488 (Nat.lt_succ_self _)
            · have r355874 : g355482.toInt < g354390.toInt := gC_nle hc355498
              have bg355482' : gB g355482 0 98 := ⟨by omega, by omega⟩
              have bg354390'' : gB g354390 1 99 := ⟨by omega, by omega⟩
              refine G_aload_n 4 dr_cX17_share_30 rfl ?_
              refine Gp_get 16 hm355493 he355492 dr_cX17_share_31 (gk_X17 D I) (Nat.le_of_ble_eq_true rfl) wr_7_90 rfl ?_
              refine G_iload 0 dr_cX17_share_34 rfl ?_
              refine G_iconst 0 dr_cX17_share_36 (by decide +kernel) ?_
              have hm355875 : (γ 9 16) ∈ P335047 := RS_m hT355484 ht335085 (by decide)
              obtain ⟨f355877, he355876⟩ := show rk_19 I (F355483 (γ 9 16)) from RS_o hT355484 ht335085
              refine Gp_iast 0 hm355875 he355876 dr_cX17_share_37 rfl (gB_in bg355482' (by decide) (by decide)) (fun F355878 e355879 n355880 => ?_)
              obtain ⟨f355881, hf355881⟩ : ∃ z, z = upd f355877 g355482.toNatClampNeg 0 := ⟨_, rfl⟩
              rw [← hf355881] at e355879
              have he355882 : F355878 q335049 = .inr (22, [.ref (γ 9 0), .ref (γ 9 1), .ref (γ 9 2), .ref (γ 9 3), .ref (γ 9 4), .ref (γ 9 5), .ref (γ 9 6), .ref (γ 9 7), .ref (γ 9 8), .int p335058, .int p335059, .int p335060, .int p335061, .int p335062, .int p335063, .ref (γ 9 15), .ref (γ 9 16), .ref (γ 9 17), .ref (γ 9 18), .ref (γ 9 19), .ref (γ 9 20), .ref (γ 9 21), .ref (γ 9 22), .int p335064, .int p335065, .int p335066, .int p335067, .int p335068, .ref q335056, .ref (γ 9 29), .int p335069, .ref (γ 9 31), .int p335070, .int p335071, .int p335072, .ref q335057]) := (n355880 q335049 (rn_oa he355492 he355876)).trans he355492
              have he355883 : F355878 (γ 9 19) = .inl (I .int, 2000, .inl f355496) := (n355880 (γ 9 19) (rn_ty ht335088 ht335085 (by decide))).trans he355495
              have he355884 : F355878 (γ 9 16) = .inl (I .int, 2000, .inl f355881) := e355879
              have mk355885 : mKp (F335048 q335049) (F355878 q335049) := mKp_tr x355488 (mKp_eq (n355880 q335049 (rn_ty htq335049 ht335085 (by decide))))
              have hs355886 : rStr γ [1] F335048 F355878 := rStr_put hs355485 n355880 ht335085 (by decide)
              have kp355887 : F355878 q335049 = F335048 q335049 := (n355880 q335049 (rn_ty htq335049 ht335085 (by decide))).trans x355487
              obtain ⟨z355888, hz355888⟩ : ∃ z : Int32, z = g355482 + Int32.ofInt 1 := ⟨_, rfl⟩
              have ez355888 : z355888.toInt = g355482.toInt + 1 := gI_inc hz355888 (by decide) bg355482' (by decide) (by decide)
              have bz355888 : gB z355888 1 99 := ⟨by omega, by omega⟩
              refine G_iinc (L' := [(5, .int z355888), (4, .int 0), (3, .int g354390), (2, .int g354391), (0, .ref q335049), (1, .ref q335050)]) z355888 0 dr_cX17_share_38 rfl hz355888.symm (Nat.le_of_ble_eq_true rfl) rfl ?_
              refine G_goto 24 dr_cX17_share_41 (by decide +kernel) ?_
              have hT355889 : RS D I P335047 F355878 γ el := RS_set hT355484 n355880 ht335085 (by decide) ⟨f355881, he355884⟩
              exact ih24_355488 F355878 z355888 (gB_w bz355888 (by decide) (by decide)) hT355889 hs355886 (by rw [cB_of he355883]; exact cq355497) kp355887 mk355885 (mz_up ez355888 (Int.le_trans bg355482'.2 (by decide)) hm24_355488)
        exact hlp24_355488 (((2000 : Int) - 0).toNat + 1) F354392 0 (gB_w (gBl (show Int32.toInt 0 = 0 by decide)) (by decide) (by decide)) hT354393 hs354394 (by rw [cB_of he354405]; exact cq354407) x354397 x354398 (Nat.lt_succ_self _)
  exact hlp10_354398 (((101 : Int) - 0).toNat + 1) F335112 0 0 (gB_w (gBl (show Int32.toInt 0 = 0 by decide)) (by decide) (by decide)) (gB_w (gBl (show Int32.toInt 0 = 0 by decide)) (by decide) (by decide)) hT335113 hs335115 (fun q hq => absurd hq (by have qa : Int32.toInt 0 = 0 := (by decide); omega)) (by have qa0 : Int32.toInt 0 = 0 := (by decide); omega) kp335116 mk335117 (Nat.lt_succ_self _)
