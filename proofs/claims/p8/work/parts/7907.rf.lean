theorem dr_cX17_coloured_0 : decode cX17_coloured 0 = .ok (.aload_n 1, 1) := by decide +kernel
theorem dr_cX17_coloured_1 : decode cX17_coloured 1 = .ok (.invokevirtual 70, 3) := by decide +kernel
theorem dr_cX17_coloured_4 : decode cX17_coloured 4 = .ok (.ifCond .eq 16, 3) := by decide +kernel
theorem dr_cX17_coloured_20 : decode cX17_coloured 20 = .ok (.aload_n 1, 1) := by decide +kernel
theorem dr_cX17_coloured_21 : decode cX17_coloured 21 = .ok (.invokevirtual 76, 3) := by decide +kernel
theorem dr_cX17_coloured_24 : decode cX17_coloured 24 = .ok (.ifCond .eq 16, 3) := by decide +kernel
theorem dr_cX17_coloured_40 : decode cX17_coloured 40 = .ok (.aload_n 1, 1) := by decide +kernel
theorem dr_cX17_coloured_41 : decode cX17_coloured 41 = .ok (.invokevirtual 48, 3) := by decide +kernel
theorem dr_cX17_coloured_44 : decode cX17_coloured 44 = .ok (.ifCond .eq 16, 3) := by decide +kernel
theorem dr_cX17_coloured_60 : decode cX17_coloured 60 = .ok (.return_, 1) := by decide +kernel
theorem dr_cX17_coloured_47 : decode cX17_coloured 47 = .ok (.aload_n 1, 1) := by decide +kernel
theorem dr_cX17_coloured_48 : decode cX17_coloured 48 = .ok (.aload_n 0, 1) := by decide +kernel
theorem dr_cX17_coloured_49 : decode cX17_coloured 49 = .ok (.getfield 212, 3) := by decide +kernel
theorem dr_cX17_coloured_52 : decode cX17_coloured 52 = .ok (.aload_n 1, 1) := by decide +kernel
theorem dr_cX17_coloured_53 : decode cX17_coloured 53 = .ok (.getfield 52, 3) := by decide +kernel
theorem dr_cX17_coloured_56 : decode cX17_coloured 56 = .ok (.iaload, 1) := by decide +kernel
theorem dr_cX17_coloured_57 : decode cX17_coloured 57 = .ok (.putfield 52, 3) := by decide +kernel
theorem dr_cX17_coloured_27 : decode cX17_coloured 27 = .ok (.aload_n 1, 1) := by decide +kernel
theorem dr_cX17_coloured_28 : decode cX17_coloured 28 = .ok (.aload_n 0, 1) := by decide +kernel
theorem dr_cX17_coloured_29 : decode cX17_coloured 29 = .ok (.getfield 212, 3) := by decide +kernel
theorem dr_cX17_coloured_32 : decode cX17_coloured 32 = .ok (.aload_n 1, 1) := by decide +kernel
theorem dr_cX17_coloured_33 : decode cX17_coloured 33 = .ok (.getfield 79, 3) := by decide +kernel
theorem dr_cX17_coloured_36 : decode cX17_coloured 36 = .ok (.iaload, 1) := by decide +kernel
theorem dr_cX17_coloured_37 : decode cX17_coloured 37 = .ok (.putfield 79, 3) := by decide +kernel
theorem dr_cX17_coloured_7 : decode cX17_coloured 7 = .ok (.aload_n 1, 1) := by decide +kernel
theorem dr_cX17_coloured_8 : decode cX17_coloured 8 = .ok (.aload_n 0, 1) := by decide +kernel
theorem dr_cX17_coloured_9 : decode cX17_coloured 9 = .ok (.getfield 212, 3) := by decide +kernel
theorem dr_cX17_coloured_12 : decode cX17_coloured 12 = .ok (.aload_n 1, 1) := by decide +kernel
theorem dr_cX17_coloured_13 : decode cX17_coloured 13 = .ok (.getfield 73, 3) := by decide +kernel
theorem dr_cX17_coloured_16 : decode cX17_coloured 16 = .ok (.iaload, 1) := by decide +kernel
theorem dr_cX17_coloured_17 : decode cX17_coloured 17 = .ok (.putfield 73, 3) := by decide +kernel
theorem dr_cX17_share_0 : decode cX17_share 0 = .ok (.aload_n 0, 1) := by decide +kernel
theorem dr_cX17_share_1 : decode cX17_share 1 = .ok (.aload_n 1, 1) := by decide +kernel
theorem dr_cX17_share_2 : decode cX17_share 2 = .ok (.iconst 1, 1) := by decide +kernel
theorem dr_cX17_share_3 : decode cX17_share 3 = .ok (.invokevirtual 243, 3) := by decide +kernel
theorem wr_10_233 : (Jvm.Cond.methodLink "SpillForgeModel" (243 : Nat) ({ cls := "SpillForgeModel", name := "graph", desc := "(LSpillForgeModel$Code;Z)V" } : Jvm.MethodName)) ∈ gw := gw_10 233 rfl rfl
theorem wr_10_236 : (Jvm.Cond.code ({ cls := "SpillForgeModel", name := "graph", desc := "(LSpillForgeModel$Code;Z)V" } : Jvm.MethodName) prog_14_method_10_code (11 : Nat) (Option.none : Option Jvm.ClassFile.FieldType)) ∈ gw := gw_10 236 rfl rfl
theorem wr_10_235 : (Jvm.Cond.instanceMethod ({ cls := "SpillForgeModel", name := "graph", desc := "(LSpillForgeModel$Code;Z)V" } : Jvm.MethodName)) ∈ gw := gw_10 235 rfl rfl
theorem wr_p_99 : Cond.selects "SpillForgeModel" ⟨"SpillForgeModel", "graph", "(LSpillForgeModel$Code;Z)V"⟩ ⟨"SpillForgeModel", "graph", "(LSpillForgeModel$Code;Z)V"⟩ ∈ gw := gw_p _ 99 rfl rfl rfl
theorem dr_cX17_share_6 : decode cX17_share 6 = .ok (.iconst 0, 1) := by decide +kernel
theorem dr_cX17_share_7 : decode cX17_share 7 = .ok (.istore_n 2, 1) := by decide +kernel
theorem dr_cX17_share_8 : decode cX17_share 8 = .ok (.iconst 0, 1) := by decide +kernel
theorem dr_cX17_share_9 : decode cX17_share 9 = .ok (.istore_n 3, 1) := by decide +kernel
theorem dr_cX17_share_10 : decode cX17_share 10 = .ok (.iload_n 3, 1) := by decide +kernel
theorem dr_cX17_share_11 : decode cX17_share 11 = .ok (.aload_n 0, 1) := by decide +kernel
theorem dr_cX17_share_12 : decode cX17_share 12 = .ok (.getfield 224, 3) := by decide +kernel
theorem wr_7_85 : (Jvm.Cond.fieldLink "SpillForgeModel" (224 : Nat) "SpillForgeModel" "slots" "I") ∈ gw := gw_7 85 rfl rfl
theorem dr_cX17_share_15 : decode cX17_share 15 = .ok (.if_icmp .ge 136, 3) := by decide +kernel
theorem dr_cX17_share_151 : decode cX17_share 151 = .ok (.iconst 0, 1) := by decide +kernel
theorem dr_cX17_share_152 : decode cX17_share 152 = .ok (.istore_n 3, 1) := by decide +kernel
theorem dr_cX17_share_153 : decode cX17_share 153 = .ok (.iload_n 3, 1) := by decide +kernel
theorem dr_cX17_share_154 : decode cX17_share 154 = .ok (.aload_n 1, 1) := by decide +kernel
theorem dr_cX17_share_155 : decode cX17_share 155 = .ok (.invokevirtual 96, 3) := by decide +kernel
theorem dr_cX17_share_158 : decode cX17_share 158 = .ok (.if_icmp .ge 88, 3) := by decide +kernel
theorem dr_cX17_share_246 : decode cX17_share 246 = .ok (.aload_n 0, 1) := by decide +kernel
theorem dr_cX17_share_247 : decode cX17_share 247 = .ok (.iload_n 2, 1) := by decide +kernel
theorem dr_cX17_share_248 : decode cX17_share 248 = .ok (.putfield 224, 3) := by decide +kernel
theorem dr_cX17_share_251 : decode cX17_share 251 = .ok (.return_, 1) := by decide +kernel
theorem dr_cX17_share_161 : decode cX17_share 161 = .ok (.aload_n 1, 1) := by decide +kernel
theorem dr_cX17_share_162 : decode cX17_share 162 = .ok (.iload_n 3, 1) := by decide +kernel
theorem dr_cX17_share_163 : decode cX17_share 163 = .ok (.invokevirtual 101, 3) := by decide +kernel
theorem dr_cX17_share_166 : decode cX17_share 166 = .ok (.astore 4, 2) := by decide +kernel
theorem dr_cX17_share_168 : decode cX17_share 168 = .ok (.iconst 0, 1) := by decide +kernel
theorem dr_cX17_share_169 : decode cX17_share 169 = .ok (.istore 5, 2) := by decide +kernel
theorem dr_cX17_share_171 : decode cX17_share 171 = .ok (.iload 5, 2) := by decide +kernel
theorem dr_cX17_share_173 : decode cX17_share 173 = .ok (.aload 4, 2) := by decide +kernel
theorem dr_cX17_share_175 : decode cX17_share 175 = .ok (.getfield 117, 3) := by decide +kernel
theorem dr_cX17_share_178 : decode cX17_share 178 = .ok (.invokevirtual 121, 3) := by decide +kernel
theorem dr_cX17_share_181 : decode cX17_share 181 = .ok (.if_icmp .ge 59, 3) := by decide +kernel
theorem dr_cX17_share_240 : decode cX17_share 240 = .ok (.iinc 3 1, 3) := by decide +kernel
theorem dr_cX17_share_243 : decode cX17_share 243 = .ok (.goto (-90), 3) := by decide +kernel
theorem dr_cX17_share_184 : decode cX17_share 184 = .ok (.aload 4, 2) := by decide +kernel
theorem dr_cX17_share_186 : decode cX17_share 186 = .ok (.getfield 117, 3) := by decide +kernel
theorem dr_cX17_share_189 : decode cX17_share 189 = .ok (.iload 5, 2) := by decide +kernel
theorem dr_cX17_share_191 : decode cX17_share 191 = .ok (.invokevirtual 124, 3) := by decide +kernel
theorem dr_cX17_share_194 : decode cX17_share 194 = .ok (.checkcast 40, 3) := by decide +kernel
theorem dr_cX17_share_197 : decode cX17_share 197 = .ok (.astore 6, 2) := by decide +kernel
theorem dr_cX17_share_199 : decode cX17_share 199 = .ok (.aload 6, 2) := by decide +kernel
theorem dr_cX17_share_201 : decode cX17_share 201 = .ok (.getfield 39, 3) := by decide +kernel
theorem dr_cX17_share_204 : decode cX17_share 204 = .ok (.bipush 21, 2) := by decide +kernel
theorem dr_cX17_share_206 : decode cX17_share 206 = .ok (.if_icmp .eq 13, 3) := by decide +kernel
theorem dr_cX17_share_219 : decode cX17_share 219 = .ok (.aload 6, 2) := by decide +kernel
theorem dr_cX17_share_221 : decode cX17_share 221 = .ok (.aload_n 0, 1) := by decide +kernel
theorem dr_cX17_share_222 : decode cX17_share 222 = .ok (.getfield 221, 3) := by decide +kernel
theorem wr_7_93 : (Jvm.Cond.fieldLink "SpillForgeModel" (221 : Nat) "SpillForgeModel" "slotOf" "[I") ∈ gw := gw_7 93 rfl rfl
theorem dr_cX17_share_225 : decode cX17_share 225 = .ok (.aload 6, 2) := by decide +kernel
theorem dr_cX17_share_227 : decode cX17_share 227 = .ok (.getfield 45, 3) := by decide +kernel
theorem dr_cX17_share_230 : decode cX17_share 230 = .ok (.iaload, 1) := by decide +kernel
theorem dr_cX17_share_231 : decode cX17_share 231 = .ok (.putfield 45, 3) := by decide +kernel
theorem dr_cX17_share_234 : decode cX17_share 234 = .ok (.iinc 5 1, 3) := by decide +kernel
theorem dr_cX17_share_237 : decode cX17_share 237 = .ok (.goto (-66), 3) := by decide +kernel
theorem dr_cX17_share_209 : decode cX17_share 209 = .ok (.aload 6, 2) := by decide +kernel
theorem dr_cX17_share_211 : decode cX17_share 211 = .ok (.getfield 39, 3) := by decide +kernel
theorem dr_cX17_share_214 : decode cX17_share 214 = .ok (.bipush 23, 2) := by decide +kernel
theorem dr_cX17_share_216 : decode cX17_share 216 = .ok (.if_icmp .ne 18, 3) := by decide +kernel
theorem dr_cX17_share_18 : decode cX17_share 18 = .ok (.iconst 0, 1) := by decide +kernel
theorem dr_cX17_share_19 : decode cX17_share 19 = .ok (.istore 4, 2) := by decide +kernel
theorem dr_cX17_share_21 : decode cX17_share 21 = .ok (.iconst 0, 1) := by decide +kernel
theorem dr_cX17_share_22 : decode cX17_share 22 = .ok (.istore 5, 2) := by decide +kernel
theorem dr_cX17_share_24 : decode cX17_share 24 = .ok (.iload 5, 2) := by decide +kernel
theorem dr_cX17_share_26 : decode cX17_share 26 = .ok (.iload_n 3, 1) := by decide +kernel
theorem dr_cX17_share_27 : decode cX17_share 27 = .ok (.if_icmp .ge 17, 3) := by decide +kernel
theorem dr_cX17_share_44 : decode cX17_share 44 = .ok (.iconst 0, 1) := by decide +kernel
theorem dr_cX17_share_45 : decode cX17_share 45 = .ok (.istore 5, 2) := by decide +kernel
theorem dr_cX17_share_47 : decode cX17_share 47 = .ok (.iload 5, 2) := by decide +kernel
theorem dr_cX17_share_49 : decode cX17_share 49 = .ok (.iload_n 3, 1) := by decide +kernel
theorem dr_cX17_share_50 : decode cX17_share 50 = .ok (.if_icmp .ge 46, 3) := by decide +kernel
theorem dr_cX17_share_96 : decode cX17_share 96 = .ok (.iload 4, 2) := by decide +kernel
theorem dr_cX17_share_98 : decode cX17_share 98 = .ok (.iload_n 3, 1) := by decide +kernel
theorem dr_cX17_share_99 : decode cX17_share 99 = .ok (.if_icmp .ge 20, 3) := by decide +kernel
theorem dr_cX17_share_119 : decode cX17_share 119 = .ok (.aload_n 0, 1) := by decide +kernel
theorem dr_cX17_share_120 : decode cX17_share 120 = .ok (.getfield 221, 3) := by decide +kernel
theorem dr_cX17_share_123 : decode cX17_share 123 = .ok (.iload_n 3, 1) := by decide +kernel
theorem dr_cX17_share_124 : decode cX17_share 124 = .ok (.iload 4, 2) := by decide +kernel
theorem dr_cX17_share_126 : decode cX17_share 126 = .ok (.iastore, 1) := by decide +kernel
theorem dr_cX17_share_127 : decode cX17_share 127 = .ok (.aload_n 0, 1) := by decide +kernel
theorem dr_cX17_share_128 : decode cX17_share 128 = .ok (.getfield 131, 3) := by decide +kernel
theorem dr_cX17_share_131 : decode cX17_share 131 = .ok (.iload_n 3, 1) := by decide +kernel
theorem dr_cX17_share_132 : decode cX17_share 132 = .ok (.baload, 1) := by decide +kernel
theorem dr_cX17_share_133 : decode cX17_share 133 = .ok (.ifCond .eq 12, 3) := by decide +kernel
theorem dr_cX17_share_145 : decode cX17_share 145 = .ok (.iinc 3 1, 3) := by decide +kernel
theorem dr_cX17_share_148 : decode cX17_share 148 = .ok (.goto (-138), 3) := by decide +kernel
theorem dr_cX17_share_136 : decode cX17_share 136 = .ok (.iload_n 2, 1) := by decide +kernel
theorem dr_cX17_share_137 : decode cX17_share 137 = .ok (.iload 4, 2) := by decide +kernel
theorem dr_cX17_share_139 : decode cX17_share 139 = .ok (.iconst 1, 1) := by decide +kernel
theorem dr_cX17_share_140 : decode cX17_share 140 = .ok (.iadd, 1) := by decide +kernel
theorem dr_cX17_share_141 : decode cX17_share 141 = .ok (.invokestatic 189, 3) := by decide +kernel
theorem dr_cX17_share_144 : decode cX17_share 144 = .ok (.istore_n 2, 1) := by decide +kernel
theorem dr_cX17_share_102 : decode cX17_share 102 = .ok (.aload_n 0, 1) := by decide +kernel
theorem dr_cX17_share_103 : decode cX17_share 103 = .ok (.getfield 209, 3) := by decide +kernel
theorem dr_cX17_share_106 : decode cX17_share 106 = .ok (.iload 4, 2) := by decide +kernel
theorem dr_cX17_share_108 : decode cX17_share 108 = .ok (.iaload, 1) := by decide +kernel
theorem dr_cX17_share_109 : decode cX17_share 109 = .ok (.iconst 1, 1) := by decide +kernel
theorem dr_cX17_share_110 : decode cX17_share 110 = .ok (.if_icmp .ne 9, 3) := by decide +kernel
theorem dr_cX17_share_113 : decode cX17_share 113 = .ok (.iinc 4 1, 3) := by decide +kernel
theorem dr_cX17_share_116 : decode cX17_share 116 = .ok (.goto (-20), 3) := by decide +kernel
theorem dr_cX17_share_53 : decode cX17_share 53 = .ok (.aload_n 0, 1) := by decide +kernel
theorem dr_cX17_share_54 : decode cX17_share 54 = .ok (.getfield 131, 3) := by decide +kernel
theorem dr_cX17_share_57 : decode cX17_share 57 = .ok (.iload 5, 2) := by decide +kernel
theorem dr_cX17_share_59 : decode cX17_share 59 = .ok (.baload, 1) := by decide +kernel
theorem dr_cX17_share_60 : decode cX17_share 60 = .ok (.ifCond .eq 30, 3) := by decide +kernel
theorem dr_cX17_share_90 : decode cX17_share 90 = .ok (.iinc 5 1, 3) := by decide +kernel
theorem dr_cX17_share_93 : decode cX17_share 93 = .ok (.goto (-46), 3) := by decide +kernel
theorem dr_cX17_share_63 : decode cX17_share 63 = .ok (.aload_n 0, 1) := by decide +kernel
theorem dr_cX17_share_64 : decode cX17_share 64 = .ok (.getfield 135, 3) := by decide +kernel
theorem dr_cX17_share_67 : decode cX17_share 67 = .ok (.iload_n 3, 1) := by decide +kernel
theorem dr_cX17_share_68 : decode cX17_share 68 = .ok (.aaload, 1) := by decide +kernel
theorem dr_cX17_share_69 : decode cX17_share 69 = .ok (.iload 5, 2) := by decide +kernel
theorem dr_cX17_share_71 : decode cX17_share 71 = .ok (.invokestatic 145, 3) := by decide +kernel
theorem dr_cX17_share_74 : decode cX17_share 74 = .ok (.ifCond .eq 16, 3) := by decide +kernel
theorem dr_cX17_share_77 : decode cX17_share 77 = .ok (.aload_n 0, 1) := by decide +kernel
theorem dr_cX17_share_78 : decode cX17_share 78 = .ok (.getfield 209, 3) := by decide +kernel
theorem dr_cX17_share_81 : decode cX17_share 81 = .ok (.aload_n 0, 1) := by decide +kernel
theorem dr_cX17_share_82 : decode cX17_share 82 = .ok (.getfield 221, 3) := by decide +kernel
theorem dr_cX17_share_85 : decode cX17_share 85 = .ok (.iload 5, 2) := by decide +kernel
theorem dr_cX17_share_87 : decode cX17_share 87 = .ok (.iaload, 1) := by decide +kernel
theorem dr_cX17_share_88 : decode cX17_share 88 = .ok (.iconst 1, 1) := by decide +kernel
theorem dr_cX17_share_89 : decode cX17_share 89 = .ok (.iastore, 1) := by decide +kernel
theorem dr_cX17_share_30 : decode cX17_share 30 = .ok (.aload_n 0, 1) := by decide +kernel
theorem dr_cX17_share_31 : decode cX17_share 31 = .ok (.getfield 209, 3) := by decide +kernel
theorem dr_cX17_share_34 : decode cX17_share 34 = .ok (.iload 5, 2) := by decide +kernel
theorem dr_cX17_share_36 : decode cX17_share 36 = .ok (.iconst 0, 1) := by decide +kernel
theorem dr_cX17_share_37 : decode cX17_share 37 = .ok (.iastore, 1) := by decide +kernel
theorem dr_cX17_share_38 : decode cX17_share 38 = .ok (.iinc 5 1, 3) := by decide +kernel
theorem dr_cX17_share_41 : decode cX17_share 41 = .ok (.goto (-17), 3) := by decide +kernel
abbrev ky_344066_SpillForgeModel_coloured : gKey := (cX17_coloured, 2, "SpillForgeModel", none, [], "coloured", fun _ _ => True)
def pt_344066_SpillForgeModel_coloured (D : va_G) (I : FieldType → ClassId) (γ el : Nat → Nat → Nat) (P344061 : List Nat) (F344062 : Nat → va_E) (q344063 : Nat) (q344064 : Nat) : Option Value → va_W → Nat → Nat → Prop := fun r w dc ds => ∃ (F344307 : Nat → va_E), r = none ∧ w = va_pl P344061 F344307 ∧ RS D I P344061 F344307 γ el ∧ rStr γ [1] F344062 F344307 ∧ dc ≤ 0 ∧ ds ≤ 0 ∧ (∀ b, b ≠ q344064 → F344307 b = F344062 b) ∧ (F344307 q344063 = F344062 q344063) ∧ (F344307 (γ 9 3) = F344062 (γ 9 3)) ∧ (F344307 (γ 9 17) = F344062 (γ 9 17))
set_option maxRecDepth 100000 in
set_option maxHeartbeats 4000000 in
theorem ct_344066_SpillForgeModel_coloured (l : Launch) (hl0 : l.stackTraces = false) (D : va_G) (I : FieldType → ClassId) (γ el : Nat → Nat → Nat) (P344061 : List Nat) (F344062 : Nat → va_E) (q344063 : Nat) (q344064 : Nat) (hT : RS D I P344061 F344062 γ el) (htq344063 : rKd γ q344063 10) (htq344064 : rKd γ q344064 1) (x344065 : (rNm (fun n => 0 ≤ (cB (F344062 (γ 9 17)) n).toInt) (F344062 q344064))) : CtA (gV D I) l yX17_coloured cX17_coloured 2 none 1 20 0 0 [.ref q344063, .ref q344064] (va_pl P344061 F344062) (pt_344066_SpillForgeModel_coloured D I γ el P344061 F344062 q344063 q344064) gNA := by
  refine CtA_of hl0 (by decide) (Nat.le_of_ble_eq_true rfl) ?_
  have hm344067 : q344063 ∈ P344061 := RS_m hT htq344063 (by decide)
  obtain ⟨q344069, q344070, p344071, p344072, p344073, p344074, p344075, p344076, p344077, p344078, p344079, p344080, p344081, p344082, p344083, p344084, p344085, he344068, hB344112, ht344086, ht344087, ht344088, ht344089, ht344090, ht344091, ht344092, ht344093, ht344094, ht344095, ht344096, ht344097, ht344098, ht344099, ht344100, ht344101, ht344102, ht344103, ht344104, ht344105, ht344106, ht344107, ht344108, ht344109, hB344113⟩ := show rk_10 γ (F344062 q344063) from RS_o hT htq344063
  have hm344114 : (γ 9 17) ∈ P344061 := RS_m hT ht344099 (by decide)
  obtain ⟨f344116, he344115, bf344116⟩ := show rk_20 I (F344062 (γ 9 17)) from RS_o hT ht344099
  have hm344117 : q344064 ∈ P344061 := RS_m hT htq344064 (by decide)
  obtain ⟨p344119, p344120, p344121, p344122, p344123, p344124, p344125, he344118, bp344119, bp344120, bp344123, bp344124, bp344125, r344126, r344127, r344128, r344129, r344130⟩ := show rk_1 γ q344064 (F344062 q344064) from RS_o hT htq344064
  have bp344121 := gB_any p344121
  have bp344122 := gB_any p344122
  have cq344131 : ∀ n, nmV p344119.toInt p344120.toInt p344121.toInt p344122.toInt p344124.toInt p344125.toInt n → 0 ≤ (f344116 n).toInt := by have z := x344065; unfold rNm at z; rw [nmS_of he344118, cB_of he344115] at z; exact z
  refine G_aload_n 1 dr_cX17_coloured_0 rfl ?_
  refine Gw_callV (As := []) (gV_ok D I) (cp_221885_Row_usesA l hl0 D I P344061 F344062 q344064 p344119 p344120 p344121 p344122 p344123 p344124 p344125 hm344117 he344118 bp344119 bp344120 bp344123 bp344124 bp344125) dr_cX17_coloured_1 ⟨wr_10_192, wr_1_39, wr_10_195, by decide, rfl, (Nat.le_of_ble_eq_true rfl), (Nat.le_of_ble_eq_true rfl)⟩ wr_10_193 wr_10_194 hm344117 he344118 rfl (show 0 + 0 ≤ 0 by first | omega | decide) (show 0 + 0 ≤ 0 by first | omega | decide) (Nat.le_of_ble_eq_true rfl) (fun r344135 w344136 dc344132 ds344133 hp344134 => ?_) (fun _ _ _ _ _ z => z.elim)
  obtain ⟨o344137, rfl, rfl, hdc, hds, bo344137, x344138, ht344139⟩ := hp344134
  change G _ _ _ _ _ _ _ (.int o344137 :: _) _ _ _
  refine G_widen (cs' := 0) (sl' := 0) (by omega) (by omega) ?_
  refine G_if_eq 20 dr_cX17_coloured_4 (by decide +kernel) (fun hc344140 => ?_) (fun hc344140 => ?_)
  · have r344141 : o344137.toInt = 0 := gj_eq hc344140 (show Int32.toInt 0 = 0 by decide)
    have bo344137' : gB o344137 0 0 := ⟨by omega, by omega⟩
    refine G_aload_n 1 dr_cX17_coloured_20 rfl ?_
    refine Gw_callV (As := []) (gV_ok D I) (cp_221909_Row_usesB l hl0 D I P344061 F344062 q344064 p344119 p344120 p344121 p344122 p344123 p344124 p344125 hm344117 he344118 bp344119 bp344120 bp344123 bp344124 bp344125) dr_cX17_coloured_21 ⟨wr_10_196, wr_1_39, wr_10_199, by decide, rfl, (Nat.le_of_ble_eq_true rfl), (Nat.le_of_ble_eq_true rfl)⟩ wr_10_197 wr_10_198 hm344117 he344118 rfl (show 0 + 0 ≤ 0 by first | omega | decide) (show 0 + 0 ≤ 0 by first | omega | decide) (Nat.le_of_ble_eq_true rfl) (fun r344145 w344146 dc344142 ds344143 hp344144 => ?_) (fun _ _ _ _ _ z => z.elim)
    obtain ⟨o344147, rfl, rfl, hdc, hds, bo344147, x344148, ht344149⟩ := hp344144
    change G _ _ _ _ _ _ _ (.int o344147 :: _) _ _ _
    refine G_widen (cs' := 0) (sl' := 0) (by omega) (by omega) ?_
    refine G_if_eq 40 dr_cX17_coloured_24 (by decide +kernel) (fun hc344150 => ?_) (fun hc344150 => ?_)
    · have r344151 : o344147.toInt = 0 := gj_eq hc344150 (show Int32.toInt 0 = 0 by decide)
      have bo344147' : gB o344147 0 0 := ⟨by omega, by omega⟩
      refine G_aload_n 1 dr_cX17_coloured_40 rfl ?_
      refine Gw_callV (As := []) (gV_ok D I) (cp_221930_Row_sets l hl0 D I P344061 F344062 q344064 p344119 p344120 p344121 p344122 p344123 p344124 p344125 hm344117 he344118 bp344119 bp344120 bp344123 bp344124 bp344125) dr_cX17_coloured_41 ⟨wr_10_181, wr_1_39, wr_10_184, by decide, rfl, (Nat.le_of_ble_eq_true rfl), (Nat.le_of_ble_eq_true rfl)⟩ wr_10_182 wr_10_183 hm344117 he344118 rfl (show 0 + 0 ≤ 0 by first | omega | decide) (show 0 + 0 ≤ 0 by first | omega | decide) (Nat.le_of_ble_eq_true rfl) (fun r344155 w344156 dc344152 ds344153 hp344154 => ?_) (fun _ _ _ _ _ z => z.elim)
      obtain ⟨o344157, rfl, rfl, hdc, hds, bo344157, x344158, ht344159⟩ := hp344154
      change G _ _ _ _ _ _ _ (.int o344157 :: _) _ _ _
      refine G_widen (cs' := 0) (sl' := 0) (by omega) (by omega) ?_
      refine G_if_eq 60 dr_cX17_coloured_44 (by decide +kernel) (fun hc344160 => ?_) (fun hc344160 => ?_)
      · have r344161 : o344157.toInt = 0 := gj_eq hc344160 (show Int32.toInt 0 = 0 by decide)
        have bo344157' : gB o344157 0 0 := ⟨by omega, by omega⟩
        exact G_vretA dr_cX17_coloured_60 rfl (Nat.le_of_ble_eq_true rfl) (Nat.le_of_ble_eq_true rfl) ⟨F344062, rfl, rfl, hT, (rStr_rf (γ := γ) (W := [1]) (F := F344062)), (Nat.le_of_ble_eq_true rfl), (Nat.le_of_ble_eq_true rfl), (fun _ _ => rfl), rfl, rfl, rfl⟩
      · have r344162 : o344157.toInt ≠ 0 := gj_neq hc344160 (show Int32.toInt 0 = 0 by decide)
        have bo344157' : gB o344157 1 1 := ⟨by omega, by omega⟩
        refine G_aload_n 1 dr_cX17_coloured_47 rfl ?_
        refine G_aload_n 0 dr_cX17_coloured_48 rfl ?_
        refine Gp_get 17 hm344067 he344068 dr_cX17_coloured_49 (gk_X17 D I) (Nat.le_of_ble_eq_true rfl) wr_7_91 rfl ?_
        refine G_aload_n 1 dr_cX17_coloured_52 rfl ?_
        refine Gp_get 1 hm344117 he344118 dr_cX17_coloured_53 (gk_X15 D I) (Nat.le_of_ble_eq_true rfl) wr_9_182 rfl ?_
        refine Gp_iald 0 hm344114 he344115 dr_cX17_coloured_56 rfl (gB_in bp344120 (by decide) (by decide)) (G_nam fun z344163 hz344163 => ?_)
        have bz344163 : gB z344163 (-1) 31 := by rw [hz344163]; exact bf344116 _
        have r344164 : 0 ≤ z344163.toInt := by rw [hz344163]; exact cq344131 _ (Or.inl ⟨by omega, rfl⟩)
        have bz344163' : gB z344163 0 31 := ⟨by omega, by omega⟩
        refine Gp_put 1 hm344117 he344118 dr_cX17_coloured_57 (gk_X15 D I) (Nat.le_of_ble_eq_true rfl) wr_9_182 rfl rfl rfl (Nat.le_of_ble_eq_true rfl) (fun F344165 e344166 n344167 => ?_)
        have he344168 : F344165 q344063 = .inr (22, [.ref (γ 9 0), .ref (γ 9 1), .ref (γ 9 2), .ref (γ 9 3), .ref (γ 9 4), .ref (γ 9 5), .ref (γ 9 6), .ref (γ 9 7), .ref (γ 9 8), .int p344071, .int p344072, .int p344073, .int p344074, .int p344075, .int p344076, .ref (γ 9 15), .ref (γ 9 16), .ref (γ 9 17), .ref (γ 9 18), .ref (γ 9 19), .ref (γ 9 20), .ref (γ 9 21), .ref (γ 9 22), .int p344077, .int p344078, .int p344079, .int p344080, .int p344081, .ref q344069, .ref (γ 9 29), .int p344082, .ref (γ 9 31), .int p344083, .int p344084, .int p344085, .ref q344070]) := (n344167 q344063 (rn_oo he344068 he344118 (by decide))).trans he344068
        have he344169 : F344165 (γ 9 17) = .inl (I .int, 2000, .inl f344116) := (n344167 (γ 9 17) (rn_ao he344115 he344118)).trans he344115
        have he344170 : F344165 q344064 = .inr (20, [.int p344119, .int z344163, .int p344121, .int p344122, .int p344123, .int p344124, .int p344125]) := e344166
        have hs344171 : rStr γ [1] F344062 F344165 := rStr_pu2 (rStr_rf (γ := γ) (W := [1]) (F := F344062)) n344167 htq344064 (by decide)
        have kp344172 : F344165 q344063 = F344062 q344063 := n344167 q344063 (rn_ty htq344063 htq344064 (by decide))
        have kp344173 : F344165 (γ 9 3) = F344062 (γ 9 3) := n344167 (γ 9 3) (rn_ty ht344091 htq344064 (by decide))
        have kp344174 : F344165 (γ 9 17) = F344062 (γ 9 17) := n344167 (γ 9 17) (rn_ty ht344099 htq344064 (by decide))
        have hT344175 : RS D I P344061 F344165 γ el := RS_set hT n344167 htq344064 (by decide) ⟨p344119, z344163, p344121, p344122, p344123, p344124, p344125, he344170, bp344119, (gB_w bz344163' (by decide) (by decide)), bp344123, bp344124, bp344125, (by omega), (by omega), (by omega), (by omega), (by omega)⟩
        have of344176 : ∀ b, b ≠ q344064 → F344165 b = F344062 b := fun b hb => n344167 b hb
        exact G_vretA dr_cX17_coloured_60 rfl (Nat.le_of_ble_eq_true rfl) (Nat.le_of_ble_eq_true rfl) ⟨F344165, rfl, rfl, hT344175, hs344171, (Nat.le_of_ble_eq_true rfl), (Nat.le_of_ble_eq_true rfl), of344176, kp344172, kp344173, kp344174⟩
    · have r344177 : o344147.toInt ≠ 0 := gj_neq hc344150 (show Int32.toInt 0 = 0 by decide)
      have bo344147' : gB o344147 1 1 := ⟨by omega, by omega⟩
      refine G_aload_n 1 dr_cX17_coloured_27 rfl ?_
      refine G_aload_n 0 dr_cX17_coloured_28 rfl ?_
      refine Gp_get 17 hm344067 he344068 dr_cX17_coloured_29 (gk_X17 D I) (Nat.le_of_ble_eq_true rfl) wr_7_91 rfl ?_
      refine G_aload_n 1 dr_cX17_coloured_32 rfl ?_
      refine Gp_get 3 hm344117 he344118 dr_cX17_coloured_33 (gk_X15 D I) (Nat.le_of_ble_eq_true rfl) wr_9_190 rfl ?_
      refine Gp_iald 0 hm344114 he344115 dr_cX17_coloured_36 rfl (gB_inr (by omega) (by omega)) (G_nam fun z344178 hz344178 => ?_)
      have bz344178 : gB z344178 (-1) 31 := by rw [hz344178]; exact bf344116 _
      have r344179 : 0 ≤ z344178.toInt := by rw [hz344178]; exact cq344131 _ (Or.inr (Or.inr ⟨by omega, rfl⟩))
      have bz344178' : gB z344178 0 31 := ⟨by omega, by omega⟩
      refine Gp_put 3 hm344117 he344118 dr_cX17_coloured_37 (gk_X15 D I) (Nat.le_of_ble_eq_true rfl) wr_9_190 rfl rfl rfl (Nat.le_of_ble_eq_true rfl) (fun F344180 e344181 n344182 => ?_)
      have he344183 : F344180 q344063 = .inr (22, [.ref (γ 9 0), .ref (γ 9 1), .ref (γ 9 2), .ref (γ 9 3), .ref (γ 9 4), .ref (γ 9 5), .ref (γ 9 6), .ref (γ 9 7), .ref (γ 9 8), .int p344071, .int p344072, .int p344073, .int p344074, .int p344075, .int p344076, .ref (γ 9 15), .ref (γ 9 16), .ref (γ 9 17), .ref (γ 9 18), .ref (γ 9 19), .ref (γ 9 20), .ref (γ 9 21), .ref (γ 9 22), .int p344077, .int p344078, .int p344079, .int p344080, .int p344081, .ref q344069, .ref (γ 9 29), .int p344082, .ref (γ 9 31), .int p344083, .int p344084, .int p344085, .ref q344070]) := (n344182 q344063 (rn_oo he344068 he344118 (by decide))).trans he344068
      have he344184 : F344180 (γ 9 17) = .inl (I .int, 2000, .inl f344116) := (n344182 (γ 9 17) (rn_ao he344115 he344118)).trans he344115
      have he344185 : F344180 q344064 = .inr (20, [.int p344119, .int p344120, .int p344121, .int z344178, .int p344123, .int p344124, .int p344125]) := e344181
      have hs344186 : rStr γ [1] F344062 F344180 := rStr_pu2 (rStr_rf (γ := γ) (W := [1]) (F := F344062)) n344182 htq344064 (by decide)
      have kp344187 : F344180 q344063 = F344062 q344063 := n344182 q344063 (rn_ty htq344063 htq344064 (by decide))
      have kp344188 : F344180 (γ 9 3) = F344062 (γ 9 3) := n344182 (γ 9 3) (rn_ty ht344091 htq344064 (by decide))
      have kp344189 : F344180 (γ 9 17) = F344062 (γ 9 17) := n344182 (γ 9 17) (rn_ty ht344099 htq344064 (by decide))
      refine G_aload_n 1 dr_cX17_coloured_40 rfl ?_
      have hT344190 : RS D I P344061 F344180 γ el := RS_set hT n344182 htq344064 (by decide) ⟨p344119, p344120, p344121, z344178, p344123, p344124, p344125, he344185, bp344119, bp344120, bp344123, bp344124, bp344125, (by omega), (by omega), (by omega), (by omega), (by omega)⟩
      have of344191 : ∀ b, b ≠ q344064 → F344180 b = F344062 b := fun b hb => n344182 b hb
      refine Gw_callV (As := []) (gV_ok D I) (cp_221930_Row_sets l hl0 D I P344061 F344180 q344064 p344119 p344120 p344121 z344178 p344123 p344124 p344125 hm344117 he344185 bp344119 bp344120 bp344123 bp344124 bp344125) dr_cX17_coloured_41 ⟨wr_10_181, wr_1_39, wr_10_184, by decide, rfl, (Nat.le_of_ble_eq_true rfl), (Nat.le_of_ble_eq_true rfl)⟩ wr_10_182 wr_10_183 hm344117 he344185 rfl (show 0 + 0 ≤ 0 by first | omega | decide) (show 0 + 0 ≤ 0 by first | omega | decide) (Nat.le_of_ble_eq_true rfl) (fun r344195 w344196 dc344192 ds344193 hp344194 => ?_) (fun _ _ _ _ _ z => z.elim)
      obtain ⟨o344197, rfl, rfl, hdc, hds, bo344197, x344198, ht344199⟩ := hp344194
      change G _ _ _ _ _ _ _ (.int o344197 :: _) _ _ _
      refine G_widen (cs' := 0) (sl' := 0) (by omega) (by omega) ?_
      refine G_if_eq 60 dr_cX17_coloured_44 (by decide +kernel) (fun hc344200 => ?_) (fun hc344200 => ?_)
      · have r344201 : o344197.toInt = 0 := gj_eq hc344200 (show Int32.toInt 0 = 0 by decide)
        have bo344197' : gB o344197 0 0 := ⟨by omega, by omega⟩
        exact G_vretA dr_cX17_coloured_60 rfl (Nat.le_of_ble_eq_true rfl) (Nat.le_of_ble_eq_true rfl) ⟨F344180, rfl, rfl, hT344190, hs344186, (Nat.le_of_ble_eq_true rfl), (Nat.le_of_ble_eq_true rfl), of344191, kp344187, kp344188, kp344189⟩
      · have r344202 : o344197.toInt ≠ 0 := gj_neq hc344200 (show Int32.toInt 0 = 0 by decide)
        have bo344197' : gB o344197 1 1 := ⟨by omega, by omega⟩
        refine G_aload_n 1 dr_cX17_coloured_47 rfl ?_
        refine G_aload_n 0 dr_cX17_coloured_48 rfl ?_
        refine Gp_get 17 hm344067 he344183 dr_cX17_coloured_49 (gk_X17 D I) (Nat.le_of_ble_eq_true rfl) wr_7_91 rfl ?_
        refine G_aload_n 1 dr_cX17_coloured_52 rfl ?_
        refine Gp_get 1 hm344117 he344185 dr_cX17_coloured_53 (gk_X15 D I) (Nat.le_of_ble_eq_true rfl) wr_9_182 rfl ?_
        refine Gp_iald 0 hm344114 he344184 dr_cX17_coloured_56 rfl (gB_in bp344120 (by decide) (by decide)) (G_nam fun z344203 hz344203 => ?_)
        have bz344203 : gB z344203 (-1) 31 := by rw [hz344203]; exact bf344116 _
        have r344204 : 0 ≤ z344203.toInt := by rw [hz344203]; exact cq344131 _ (Or.inl ⟨by omega, rfl⟩)
        have bz344203' : gB z344203 0 31 := ⟨by omega, by omega⟩
        refine Gp_put 1 hm344117 he344185 dr_cX17_coloured_57 (gk_X15 D I) (Nat.le_of_ble_eq_true rfl) wr_9_182 rfl rfl rfl (Nat.le_of_ble_eq_true rfl) (fun F344205 e344206 n344207 => ?_)
        have he344208 : F344205 q344063 = .inr (22, [.ref (γ 9 0), .ref (γ 9 1), .ref (γ 9 2), .ref (γ 9 3), .ref (γ 9 4), .ref (γ 9 5), .ref (γ 9 6), .ref (γ 9 7), .ref (γ 9 8), .int p344071, .int p344072, .int p344073, .int p344074, .int p344075, .int p344076, .ref (γ 9 15), .ref (γ 9 16), .ref (γ 9 17), .ref (γ 9 18), .ref (γ 9 19), .ref (γ 9 20), .ref (γ 9 21), .ref (γ 9 22), .int p344077, .int p344078, .int p344079, .int p344080, .int p344081, .ref q344069, .ref (γ 9 29), .int p344082, .ref (γ 9 31), .int p344083, .int p344084, .int p344085, .ref q344070]) := (n344207 q344063 (rn_oo he344183 he344185 (by decide))).trans he344183
        have he344209 : F344205 (γ 9 17) = .inl (I .int, 2000, .inl f344116) := (n344207 (γ 9 17) (rn_ao he344184 he344185)).trans he344184
        have he344210 : F344205 q344064 = .inr (20, [.int p344119, .int z344203, .int p344121, .int z344178, .int p344123, .int p344124, .int p344125]) := e344206
        have hs344211 : rStr γ [1] F344062 F344205 := rStr_pu2 hs344186 n344207 htq344064 (by decide)
        have kp344212 : F344205 q344063 = F344062 q344063 := (n344207 q344063 (rn_ty htq344063 htq344064 (by decide))).trans kp344187
        have kp344213 : F344205 (γ 9 3) = F344062 (γ 9 3) := (n344207 (γ 9 3) (rn_ty ht344091 htq344064 (by decide))).trans kp344188
        have kp344214 : F344205 (γ 9 17) = F344062 (γ 9 17) := (n344207 (γ 9 17) (rn_ty ht344099 htq344064 (by decide))).trans kp344189
        have hT344215 : RS D I P344061 F344205 γ el := RS_set hT344190 n344207 htq344064 (by decide) ⟨p344119, z344203, p344121, z344178, p344123, p344124, p344125, he344210, bp344119, (gB_w bz344203' (by decide) (by decide)), bp344123, bp344124, bp344125, (by omega), (by omega), (by omega), (by omega), (by omega)⟩
        have of344216 : ∀ b, b ≠ q344064 → F344205 b = F344062 b := fun b hb => (n344207 b hb).trans (of344191 b hb)
        exact G_vretA dr_cX17_coloured_60 rfl (Nat.le_of_ble_eq_true rfl) (Nat.le_of_ble_eq_true rfl) ⟨F344205, rfl, rfl, hT344215, hs344211, (Nat.le_of_ble_eq_true rfl), (Nat.le_of_ble_eq_true rfl), of344216, kp344212, kp344213, kp344214⟩
  · have r344217 : o344137.toInt ≠ 0 := gj_neq hc344140 (show Int32.toInt 0 = 0 by decide)
    have bo344137' : gB o344137 1 1 := ⟨by omega, by omega⟩
    refine G_aload_n 1 dr_cX17_coloured_7 rfl ?_
    refine G_aload_n 0 dr_cX17_coloured_8 rfl ?_
    refine Gp_get 17 hm344067 he344068 dr_cX17_coloured_9 (gk_X17 D I) (Nat.le_of_ble_eq_true rfl) wr_7_91 rfl ?_
    refine G_aload_n 1 dr_cX17_coloured_12 rfl ?_
    refine Gp_get 2 hm344117 he344118 dr_cX17_coloured_13 (gk_X15 D I) (Nat.le_of_ble_eq_true rfl) wr_9_186 rfl ?_
    refine Gp_iald 0 hm344114 he344115 dr_cX17_coloured_16 rfl (gB_inr (by omega) (by omega)) (G_nam fun z344218 hz344218 => ?_)
    have bz344218 : gB z344218 (-1) 31 := by rw [hz344218]; exact bf344116 _
    have r344219 : 0 ≤ z344218.toInt := by rw [hz344218]; exact cq344131 _ (Or.inr (Or.inl ⟨by omega, rfl⟩))
    have bz344218' : gB z344218 0 31 := ⟨by omega, by omega⟩
    refine Gp_put 2 hm344117 he344118 dr_cX17_coloured_17 (gk_X15 D I) (Nat.le_of_ble_eq_true rfl) wr_9_186 rfl rfl rfl (Nat.le_of_ble_eq_true rfl) (fun F344220 e344221 n344222 => ?_)
    have he344223 : F344220 q344063 = .inr (22, [.ref (γ 9 0), .ref (γ 9 1), .ref (γ 9 2), .ref (γ 9 3), .ref (γ 9 4), .ref (γ 9 5), .ref (γ 9 6), .ref (γ 9 7), .ref (γ 9 8), .int p344071, .int p344072, .int p344073, .int p344074, .int p344075, .int p344076, .ref (γ 9 15), .ref (γ 9 16), .ref (γ 9 17), .ref (γ 9 18), .ref (γ 9 19), .ref (γ 9 20), .ref (γ 9 21), .ref (γ 9 22), .int p344077, .int p344078, .int p344079, .int p344080, .int p344081, .ref q344069, .ref (γ 9 29), .int p344082, .ref (γ 9 31), .int p344083, .int p344084, .int p344085, .ref q344070]) := (n344222 q344063 (rn_oo he344068 he344118 (by decide))).trans he344068
    have he344224 : F344220 (γ 9 17) = .inl (I .int, 2000, .inl f344116) := (n344222 (γ 9 17) (rn_ao he344115 he344118)).trans he344115
    have he344225 : F344220 q344064 = .inr (20, [.int p344119, .int p344120, .int z344218, .int p344122, .int p344123, .int p344124, .int p344125]) := e344221
    have hs344226 : rStr γ [1] F344062 F344220 := rStr_pu2 (rStr_rf (γ := γ) (W := [1]) (F := F344062)) n344222 htq344064 (by decide)
    have kp344227 : F344220 q344063 = F344062 q344063 := n344222 q344063 (rn_ty htq344063 htq344064 (by decide))
    have kp344228 : F344220 (γ 9 3) = F344062 (γ 9 3) := n344222 (γ 9 3) (rn_ty ht344091 htq344064 (by decide))
    have kp344229 : F344220 (γ 9 17) = F344062 (γ 9 17) := n344222 (γ 9 17) (rn_ty ht344099 htq344064 (by decide))
    refine G_aload_n 1 dr_cX17_coloured_20 rfl ?_
    have hT344230 : RS D I P344061 F344220 γ el := RS_set hT n344222 htq344064 (by decide) ⟨p344119, p344120, z344218, p344122, p344123, p344124, p344125, he344225, bp344119, bp344120, bp344123, bp344124, bp344125, (by omega), (by omega), (by omega), (by omega), (by omega)⟩
    have of344231 : ∀ b, b ≠ q344064 → F344220 b = F344062 b := fun b hb => n344222 b hb
    refine Gw_callV (As := []) (gV_ok D I) (cp_221909_Row_usesB l hl0 D I P344061 F344220 q344064 p344119 p344120 z344218 p344122 p344123 p344124 p344125 hm344117 he344225 bp344119 bp344120 bp344123 bp344124 bp344125) dr_cX17_coloured_21 ⟨wr_10_196, wr_1_39, wr_10_199, by decide, rfl, (Nat.le_of_ble_eq_true rfl), (Nat.le_of_ble_eq_true rfl)⟩ wr_10_197 wr_10_198 hm344117 he344225 rfl (show 0 + 0 ≤ 0 by first | omega | decide) (show 0 + 0 ≤ 0 by first | omega | decide) (Nat.le_of_ble_eq_true rfl) (fun r344235 w344236 dc344232 ds344233 hp344234 => ?_) (fun _ _ _ _ _ z => z.elim)
    obtain ⟨o344237, rfl, rfl, hdc, hds, bo344237, x344238, ht344239⟩ := hp344234
    change G _ _ _ _ _ _ _ (.int o344237 :: _) _ _ _
    refine G_widen (cs' := 0) (sl' := 0) (by omega) (by omega) ?_
    refine G_if_eq 40 dr_cX17_coloured_24 (by decide +kernel) (fun hc344240 => ?_) (fun hc344240 => ?_)
    · have r344241 : o344237.toInt = 0 := gj_eq hc344240 (show Int32.toInt 0 = 0 by decide)
      have bo344237' : gB o344237 0 0 := ⟨by omega, by omega⟩
      refine G_aload_n 1 dr_cX17_coloured_40 rfl ?_
      refine Gw_callV (As := []) (gV_ok D I) (cp_221930_Row_sets l hl0 D I P344061 F344220 q344064 p344119 p344120 z344218 p344122 p344123 p344124 p344125 hm344117 he344225 bp344119 bp344120 bp344123 bp344124 bp344125) dr_cX17_coloured_41 ⟨wr_10_181, wr_1_39, wr_10_184, by decide, rfl, (Nat.le_of_ble_eq_true rfl), (Nat.le_of_ble_eq_true rfl)⟩ wr_10_182 wr_10_183 hm344117 he344225 rfl (show 0 + 0 ≤ 0 by first | omega | decide) (show 0 + 0 ≤ 0 by first | omega | decide) (Nat.le_of_ble_eq_true rfl) (fun r344245 w344246 dc344242 ds344243 hp344244 => ?_) (fun _ _ _ _ _ z => z.elim)
      obtain ⟨o344247, rfl, rfl, hdc, hds, bo344247, x344248, ht344249⟩ := hp344244
      change G _ _ _ _ _ _ _ (.int o344247 :: _) _ _ _
      refine G_widen (cs' := 0) (sl' := 0) (by omega) (by omega) ?_
      refine G_if_eq 60 dr_cX17_coloured_44 (by decide +kernel) (fun hc344250 => ?_) (fun hc344250 => ?_)
      · have r344251 : o344247.toInt = 0 := gj_eq hc344250 (show Int32.toInt 0 = 0 by decide)
        have bo344247' : gB o344247 0 0 := ⟨by omega, by omega⟩
        exact G_vretA dr_cX17_coloured_60 rfl (Nat.le_of_ble_eq_true rfl) (Nat.le_of_ble_eq_true rfl) ⟨F344220, rfl, rfl, hT344230, hs344226, (Nat.le_of_ble_eq_true rfl), (Nat.le_of_ble_eq_true rfl), of344231, kp344227, kp344228, kp344229⟩
      · have r344252 : o344247.toInt ≠ 0 := gj_neq hc344250 (show Int32.toInt 0 = 0 by decide)
        have bo344247' : gB o344247 1 1 := ⟨by omega, by omega⟩
        refine G_aload_n 1 dr_cX17_coloured_47 rfl ?_
        refine G_aload_n 0 dr_cX17_coloured_48 rfl ?_
        refine Gp_get 17 hm344067 he344223 dr_cX17_coloured_49 (gk_X17 D I) (Nat.le_of_ble_eq_true rfl) wr_7_91 rfl ?_
        refine G_aload_n 1 dr_cX17_coloured_52 rfl ?_
        refine Gp_get 1 hm344117 he344225 dr_cX17_coloured_53 (gk_X15 D I) (Nat.le_of_ble_eq_true rfl) wr_9_182 rfl ?_
        refine Gp_iald 0 hm344114 he344224 dr_cX17_coloured_56 rfl (gB_in bp344120 (by decide) (by decide)) (G_nam fun z344253 hz344253 => ?_)
        have bz344253 : gB z344253 (-1) 31 := by rw [hz344253]; exact bf344116 _
        have r344254 : 0 ≤ z344253.toInt := by rw [hz344253]; exact cq344131 _ (Or.inl ⟨by omega, rfl⟩)
        have bz344253' : gB z344253 0 31 := ⟨by omega, by omega⟩
        refine Gp_put 1 hm344117 he344225 dr_cX17_coloured_57 (gk_X15 D I) (Nat.le_of_ble_eq_true rfl) wr_9_182 rfl rfl rfl (Nat.le_of_ble_eq_true rfl) (fun F344255 e344256 n344257 => ?_)
        have he344258 : F344255 q344063 = .inr (22, [.ref (γ 9 0), .ref (γ 9 1), .ref (γ 9 2), .ref (γ 9 3), .ref (γ 9 4), .ref (γ 9 5), .ref (γ 9 6), .ref (γ 9 7), .ref (γ 9 8), .int p344071, .int p344072, .int p344073, .int p344074, .int p344075, .int p344076, .ref (γ 9 15), .ref (γ 9 16), .ref (γ 9 17), .ref (γ 9 18), .ref (γ 9 19), .ref (γ 9 20), .ref (γ 9 21), .ref (γ 9 22), .int p344077, .int p344078, .int p344079, .int p344080, .int p344081, .ref q344069, .ref (γ 9 29), .int p344082, .ref (γ 9 31), .int p344083, .int p344084, .int p344085, .ref q344070]) := (n344257 q344063 (rn_oo he344223 he344225 (by decide))).trans he344223
        have he344259 : F344255 (γ 9 17) = .inl (I .int, 2000, .inl f344116) := (n344257 (γ 9 17) (rn_ao he344224 he344225)).trans he344224
        have he344260 : F344255 q344064 = .inr (20, [.int p344119, .int z344253, .int z344218, .int p344122, .int p344123, .int p344124, .int p344125]) := e344256
        have hs344261 : rStr γ [1] F344062 F344255 := rStr_pu2 hs344226 n344257 htq344064 (by decide)
        have kp344262 : F344255 q344063 = F344062 q344063 := (n344257 q344063 (rn_ty htq344063 htq344064 (by decide))).trans kp344227
        have kp344263 : F344255 (γ 9 3) = F344062 (γ 9 3) := (n344257 (γ 9 3) (rn_ty ht344091 htq344064 (by decide))).trans kp344228
        have kp344264 : F344255 (γ 9 17) = F344062 (γ 9 17) := (n344257 (γ 9 17) (rn_ty ht344099 htq344064 (by decide))).trans kp344229
        have hT344265 : RS D I P344061 F344255 γ el := RS_set hT344230 n344257 htq344064 (by decide) ⟨p344119, z344253, z344218, p344122, p344123, p344124, p344125, he344260, bp344119, (gB_w bz344253' (by decide) (by decide)), bp344123, bp344124, bp344125, (by omega), (by omega), (by omega), (by omega), (by omega)⟩
        have of344266 : ∀ b, b ≠ q344064 → F344255 b = F344062 b := fun b hb => (n344257 b hb).trans (of344231 b hb)
        exact G_vretA dr_cX17_coloured_60 rfl (Nat.le_of_ble_eq_true rfl) (Nat.le_of_ble_eq_true rfl) ⟨F344255, rfl, rfl, hT344265, hs344261, (Nat.le_of_ble_eq_true rfl), (Nat.le_of_ble_eq_true rfl), of344266, kp344262, kp344263, kp344264⟩
    · have r344267 : o344237.toInt ≠ 0 := gj_neq hc344240 (show Int32.toInt 0 = 0 by decide)
      have bo344237' : gB o344237 1 1 := ⟨by omega, by omega⟩
      refine G_aload_n 1 dr_cX17_coloured_27 rfl ?_
      refine G_aload_n 0 dr_cX17_coloured_28 rfl ?_
      refine Gp_get 17 hm344067 he344223 dr_cX17_coloured_29 (gk_X17 D I) (Nat.le_of_ble_eq_true rfl) wr_7_91 rfl ?_
      refine G_aload_n 1 dr_cX17_coloured_32 rfl ?_
      refine Gp_get 3 hm344117 he344225 dr_cX17_coloured_33 (gk_X15 D I) (Nat.le_of_ble_eq_true rfl) wr_9_190 rfl ?_
      refine Gp_iald 0 hm344114 he344224 dr_cX17_coloured_36 rfl (gB_inr (by omega) (by omega)) (G_nam fun z344268 hz344268 => ?_)
      have bz344268 : gB z344268 (-1) 31 := by rw [hz344268]; exact bf344116 _
      have r344269 : 0 ≤ z344268.toInt := by rw [hz344268]; exact cq344131 _ (Or.inr (Or.inr ⟨by omega, rfl⟩))
      have bz344268' : gB z344268 0 31 := ⟨by omega, by omega⟩
      refine Gp_put 3 hm344117 he344225 dr_cX17_coloured_37 (gk_X15 D I) (Nat.le_of_ble_eq_true rfl) wr_9_190 rfl rfl rfl (Nat.le_of_ble_eq_true rfl) (fun F344270 e344271 n344272 => ?_)
      have he344273 : F344270 q344063 = .inr (22, [.ref (γ 9 0), .ref (γ 9 1), .ref (γ 9 2), .ref (γ 9 3), .ref (γ 9 4), .ref (γ 9 5), .ref (γ 9 6), .ref (γ 9 7), .ref (γ 9 8), .int p344071, .int p344072, .int p344073, .int p344074, .int p344075, .int p344076, .ref (γ 9 15), .ref (γ 9 16), .ref (γ 9 17), .ref (γ 9 18), .ref (γ 9 19), .ref (γ 9 20), .ref (γ 9 21), .ref (γ 9 22), .int p344077, .int p344078, .int p344079, .int p344080, .int p344081, .ref q344069, .ref (γ 9 29), .int p344082, .ref (γ 9 31), .int p344083, .int p344084, .int p344085, .ref q344070]) := (n344272 q344063 (rn_oo he344223 he344225 (by decide))).trans he344223
      have he344274 : F344270 (γ 9 17) = .inl (I .int, 2000, .inl f344116) := (n344272 (γ 9 17) (rn_ao he344224 he344225)).trans he344224
      have he344275 : F344270 q344064 = .inr (20, [.int p344119, .int p344120, .int z344218, .int z344268, .int p344123, .int p344124, .int p344125]) := e344271
      have hs344276 : rStr γ [1] F344062 F344270 := rStr_pu2 hs344226 n344272 htq344064 (by decide)
      have kp344277 : F344270 q344063 = F344062 q344063 := (n344272 q344063 (rn_ty htq344063 htq344064 (by decide))).trans kp344227
      have kp344278 : F344270 (γ 9 3) = F344062 (γ 9 3) := (n344272 (γ 9 3) (rn_ty ht344091 htq344064 (by decide))).trans kp344228
      have kp344279 : F344270 (γ 9 17) = F344062 (γ 9 17) := (n344272 (γ 9 17) (rn_ty ht344099 htq344064 (by decide))).trans kp344229
      refine G_aload_n 1 dr_cX17_coloured_40 rfl ?_
      have hT344280 : RS D I P344061 F344270 γ el := RS_set hT344230 n344272 htq344064 (by decide) ⟨p344119, p344120, z344218, z344268, p344123, p344124, p344125, he344275, bp344119, bp344120, bp344123, bp344124, bp344125, (by omega), (by omega), (by omega), (by omega), (by omega)⟩
      have of344281 : ∀ b, b ≠ q344064 → F344270 b = F344062 b := fun b hb => (n344272 b hb).trans (of344231 b hb)
      refine Gw_callV (As := []) (gV_ok D I) (cp_221930_Row_sets l hl0 D I P344061 F344270 q344064 p344119 p344120 z344218 z344268 p344123 p344124 p344125 hm344117 he344275 bp344119 bp344120 bp344123 bp344124 bp344125) dr_cX17_coloured_41 ⟨wr_10_181, wr_1_39, wr_10_184, by decide, rfl, (Nat.le_of_ble_eq_true rfl), (Nat.le_of_ble_eq_true rfl)⟩ wr_10_182 wr_10_183 hm344117 he344275 rfl (show 0 + 0 ≤ 0 by first | omega | decide) (show 0 + 0 ≤ 0 by first | omega | decide) (Nat.le_of_ble_eq_true rfl) (fun r344285 w344286 dc344282 ds344283 hp344284 => ?_) (fun _ _ _ _ _ z => z.elim)
      obtain ⟨o344287, rfl, rfl, hdc, hds, bo344287, x344288, ht344289⟩ := hp344284
      change G _ _ _ _ _ _ _ (.int o344287 :: _) _ _ _
      refine G_widen (cs' := 0) (sl' := 0) (by omega) (by omega) ?_
      refine G_if_eq 60 dr_cX17_coloured_44 (by decide +kernel) (fun hc344290 => ?_) (fun hc344290 => ?_)
      · have r344291 : o344287.toInt = 0 := gj_eq hc344290 (show Int32.toInt 0 = 0 by decide)
        have bo344287' : gB o344287 0 0 := ⟨by omega, by omega⟩
        exact G_vretA dr_cX17_coloured_60 rfl (Nat.le_of_ble_eq_true rfl) (Nat.le_of_ble_eq_true rfl) ⟨F344270, rfl, rfl, hT344280, hs344276, (Nat.le_of_ble_eq_true rfl), (Nat.le_of_ble_eq_true rfl), of344281, kp344277, kp344278, kp344279⟩
      · have r344292 : o344287.toInt ≠ 0 := gj_neq hc344290 (show Int32.toInt 0 = 0 by decide)
        have bo344287' : gB o344287 1 1 := ⟨by omega, by omega⟩
        refine G_aload_n 1 dr_cX17_coloured_47 rfl ?_
        refine G_aload_n 0 dr_cX17_coloured_48 rfl ?_
        refine Gp_get 17 hm344067 he344273 dr_cX17_coloured_49 (gk_X17 D I) (Nat.le_of_ble_eq_true rfl) wr_7_91 rfl ?_
        refine G_aload_n 1 dr_cX17_coloured_52 rfl ?_
        refine Gp_get 1 hm344117 he344275 dr_cX17_coloured_53 (gk_X15 D I) (Nat.le_of_ble_eq_true rfl) wr_9_182 rfl ?_
        refine Gp_iald 0 hm344114 he344274 dr_cX17_coloured_56 rfl (gB_in bp344120 (by decide) (by decide)) (G_nam fun z344293 hz344293 => ?_)
        have bz344293 : gB z344293 (-1) 31 := by rw [hz344293]; exact bf344116 _
        have r344294 : 0 ≤ z344293.toInt := by rw [hz344293]; exact cq344131 _ (Or.inl ⟨by omega, rfl⟩)
        have bz344293' : gB z344293 0 31 := ⟨by omega, by omega⟩
        refine Gp_put 1 hm344117 he344275 dr_cX17_coloured_57 (gk_X15 D I) (Nat.le_of_ble_eq_true rfl) wr_9_182 rfl rfl rfl (Nat.le_of_ble_eq_true rfl) (fun F344295 e344296 n344297 => ?_)
        have he344298 : F344295 q344063 = .inr (22, [.ref (γ 9 0), .ref (γ 9 1), .ref (γ 9 2), .ref (γ 9 3), .ref (γ 9 4), .ref (γ 9 5), .ref (γ 9 6), .ref (γ 9 7), .ref (γ 9 8), .int p344071, .int p344072, .int p344073, .int p344074, .int p344075, .int p344076, .ref (γ 9 15), .ref (γ 9 16), .ref (γ 9 17), .ref (γ 9 18), .ref (γ 9 19), .ref (γ 9 20), .ref (γ 9 21), .ref (γ 9 22), .int p344077, .int p344078, .int p344079, .int p344080, .int p344081, .ref q344069, .ref (γ 9 29), .int p344082, .ref (γ 9 31), .int p344083, .int p344084, .int p344085, .ref q344070]) := (n344297 q344063 (rn_oo he344273 he344275 (by decide))).trans he344273
        have he344299 : F344295 (γ 9 17) = .inl (I .int, 2000, .inl f344116) := (n344297 (γ 9 17) (rn_ao he344274 he344275)).trans he344274
        have he344300 : F344295 q344064 = .inr (20, [.int p344119, .int z344293, .int z344218, .int z344268, .int p344123, .int p344124, .int p344125]) := e344296
        have hs344301 : rStr γ [1] F344062 F344295 := rStr_pu2 hs344276 n344297 htq344064 (by decide)
        have kp344302 : F344295 q344063 = F344062 q344063 := (n344297 q344063 (rn_ty htq344063 htq344064 (by decide))).trans kp344277
        have kp344303 : F344295 (γ 9 3) = F344062 (γ 9 3) := (n344297 (γ 9 3) (rn_ty ht344091 htq344064 (by decide))).trans kp344278
        have kp344304 : F344295 (γ 9 17) = F344062 (γ 9 17) := (n344297 (γ 9 17) (rn_ty ht344099 htq344064 (by decide))).trans kp344279
        have hT344305 : RS D I P344061 F344295 γ el := RS_set hT344280 n344297 htq344064 (by decide) ⟨p344119, z344293, z344218, z344268, p344123, p344124, p344125, he344300, bp344119, (gB_w bz344293' (by decide) (by decide)), bp344123, bp344124, bp344125, (by omega), (by omega), (by omega), (by omega), (by omega)⟩
        have of344306 : ∀ b, b ≠ q344064 → F344295 b = F344062 b := fun b hb => (n344297 b hb).trans (of344281 b hb)
        exact G_vretA dr_cX17_coloured_60 rfl (Nat.le_of_ble_eq_true rfl) (Nat.le_of_ble_eq_true rfl) ⟨F344295, rfl, rfl, hT344305, hs344301, (Nat.le_of_ble_eq_true rfl), (Nat.le_of_ble_eq_true rfl), of344306, kp344302, kp344303, kp344304⟩
abbrev ky_344314_SpillForgeModel_share : gKey := (cX17_share, 7, "SpillForgeModel", none, [], "share", fun _ _ => True)
def pt_344314_SpillForgeModel_share (D : va_G) (I : FieldType → ClassId) (γ el : Nat → Nat → Nat) (P344308 : List Nat) (F344309 : Nat → va_E) (q344310 : Nat) (q344311 : Nat) : Option Value → va_W → Nat → Nat → Prop := fun r w dc ds => ∃ (F365398 : Nat → va_E), r = none ∧ w = va_pl P344308 F365398 ∧ RS D I P344308 F365398 γ el ∧ rStr γ [1] F344309 F365398 ∧ dc ≤ 0 ∧ ds ≤ 0 ∧ mKp (F344309 q344310) (F365398 q344310)
set_option maxRecDepth 100000 in
set_option maxHeartbeats 4000000 in
theorem ct_344314_SpillForgeModel_share (l : Launch) (hl0 : l.stackTraces = false) (D : va_G) (I : FieldType → ClassId) (γ el : Nat → Nat → Nat) (P344308 : List Nat) (F344309 : Nat → va_E) (q344310 : Nat) (q344311 : Nat) (hT : RS D I P344308 F344309 γ el) (htq344310 : rKd γ q344310 10) (htq344311 : rKd γ q344311 9) (x344312 : 0 < γ 6 (γ 1 q344311)) (x344313 : (((γ 7 (γ 1 q344311) : Nat) : Int) ≤ (fI (F344309 q344310) 11).toInt)) : CtA (gV D I) l yX17_share cX17_share 7 none 6 141 0 0 [.ref q344310, .ref q344311] (va_pl P344308 F344309) (pt_344314_SpillForgeModel_share D I γ el P344308 F344309 q344310 q344311) gNA := by
  refine CtA_of hl0 (by decide) (Nat.le_of_ble_eq_true rfl) ?_
  have hm344315 : q344310 ∈ P344308 := RS_m hT htq344310 (by decide)
  refine rk10_e (show rk_10 γ (F344309 q344310) from RS_o hT htq344310) (fun q344317 q344318 p344319 p344320 p344321 p344322 p344323 p344324 p344325 p344326 p344327 p344328 p344329 p344330 p344331 p344332 p344333 he344316 hB344360 ht344334 ht344335 ht344336 ht344337 ht344338 ht344339 ht344340 ht344341 ht344342 ht344343 ht344344 ht344345 ht344346 ht344347 ht344348 ht344349 ht344350 ht344351 ht344352 ht344353 ht344354 ht344355 ht344356 ht344357 hB344361 => ?_)
  have hm344362 : (γ 9 19) ∈ P344308 := RS_m hT ht344349 (by decide)
  obtain ⟨f344364, he344363, bf344364⟩ := show rk_21 I (F344309 (γ 9 19)) from RS_o hT ht344349
  have r344365 : (γ 7 (γ 1 q344311) : Int) ≤ p344321.toInt := by have z := x344313; rw [he344316] at z; exact z
  have bp344321 : gB p344321 0 100 := (hB344360.2.2.1)
  refine G_aload_n 0 dr_cX17_share_0 rfl ?_
  refine G_aload_n 1 dr_cX17_share_1 rfl ?_
  refine G_iconst 1 dr_cX17_share_2 (by decide +kernel) ?_
  refine Gw_callV (As := [.ref q344311, .int 1]) (gV_ok D I) (ct_276998_SpillForgeModel_graph l hl0 D I γ el P344308 F344309 q344310 q344311 1 hT htq344310 htq344311 (gB_w (gBl (show Int32.toInt 1 = 1 by decide)) (by decide) (by decide)) (by omega)) dr_cX17_share_3 ⟨wr_10_233, wr_1_14, wr_10_236, by decide, rfl, (Nat.le_of_ble_eq_true rfl), (Nat.le_of_ble_eq_true rfl)⟩ wr_10_235 wr_p_99 hm344315 he344316 rfl (show 0 + 0 ≤ 0 by first | omega | decide) (show 0 + 0 ≤ 0 by first | omega | decide) (Nat.le_of_ble_eq_true rfl) (fun r344369 w344370 dc344366 ds344367 hp344368 => ?_) (fun _ _ _ _ _ z => z.elim)
  obtain ⟨F344374, rfl, rfl, hT344375, hs344376, hdc, hds, x344371, x344372, ht344373⟩ := hp344368
  have hs344377 : rStr γ [1] F344309 F344374 := rStr_tr (rStr_rf (γ := γ) (W := [1]) (F := F344309)) (rStr_w hs344376 (by decide))
  have kp344378 : F344374 q344310 = F344309 q344310 := x344372
  have mk344379 : mKp (F344309 q344310) (F344374 q344310) := mKp_tr mKp_rf (mKp_eq x344372)
  have he344380 : F344374 q344310 = .inr (22, [.ref (γ 9 0), .ref (γ 9 1), .ref (γ 9 2), .ref (γ 9 3), .ref (γ 9 4), .ref (γ 9 5), .ref (γ 9 6), .ref (γ 9 7), .ref (γ 9 8), .int p344319, .int p344320, .int p344321, .int p344322, .int p344323, .int p344324, .ref (γ 9 15), .ref (γ 9 16), .ref (γ 9 17), .ref (γ 9 18), .ref (γ 9 19), .ref (γ 9 20), .ref (γ 9 21), .ref (γ 9 22), .int p344325, .int p344326, .int p344327, .int p344328, .int p344329, .ref q344317, .ref (γ 9 29), .int p344330, .ref (γ 9 31), .int p344331, .int p344332, .int p344333, .ref q344318]) := (x344372).trans he344316
  rw [show Int32.toInt 1 = 1 from by decide] at x344371
  change G _ _ _ _ _ _ _ _ _ _ _
  refine G_widen (cs' := 0) (sl' := 0) (by omega) (by omega) ?_
  refine G_iconst 0 dr_cX17_share_6 (by decide +kernel) ?_
  refine G_istore_n (L' := [(2, .int 0), (0, .ref q344310), (1, .ref q344311)]) dr_cX17_share_7 (Nat.le_of_ble_eq_true rfl) rfl ?_
  refine G_iconst 0 dr_cX17_share_8 (by decide +kernel) ?_
  refine G_istore_n (L' := [(3, .int 0), (2, .int 0), (0, .ref q344310), (1, .ref q344311)]) dr_cX17_share_9 (Nat.le_of_ble_eq_true rfl) rfl ?_
  have hlp10_363888 : ∀ (n10_363888 : Nat) (F363882 : Nat → va_E) (g363880 : Int32) (g363881 : Int32), gB g363880 0 100 → gB g363881 0 1999 → RS D I P344308 F363882 γ el → rStr γ [1] F344309 F363882 → (∀ q : Nat, (q : Int) < g363880.toInt → 0 ≤ (cB (F363882 (γ 9 19)) q).toInt ∧ (cB (F363882 (γ 9 19)) q).toInt ≤ q) → (g363881.toInt ≤ 100) → (F363882 q344310 = F344309 q344310) → mKp (F344309 q344310) (F363882 q344310) → ((101 : Int) - g363880.toInt).toNat < n10_363888 → G (gV D I) l (gRm 6 141 0 0) (gMA (gV D I) (pt_344314_SpillForgeModel_share D I γ el P344308 F344309 q344310 q344311) gNA 0 0) ky_344314_SpillForgeModel_share 10 [(3, .int g363880), (2, .int g363881), (0, .ref q344310), (1, .ref q344311)] [] (va_pl P344308 F363882) 0 0 := by
    intro n10_363888
    induction n10_363888 with
    | zero => intro F363882 g363880 g363881 bg363880 bg363881 hT363883 hs363884 x363885 x363886 x363887 x363888 hm10_363888; exact absurd hm10_363888 (Nat.not_lt_zero _)
    | succ n10_363888 ih10_363888 =>
      intro F363882 g363880 g363881 bg363880 bg363881 hT363883 hs363884 x363885 x363886 x363887 x363888 hm10_363888
      have hs363890 : rStr γ [1] F344374 F363882 := fun b h0 hb hw => (hs363884 b h0 hb hw).trans (hs344377 b h0 hb hw).symm
      have hs363891 : rStr γ [1] F344309 F363882 := rStr_tr hs344377 hs363890
      have he363892 : F363882 q344310 = .inr (22, [.ref (γ 9 0), .ref (γ 9 1), .ref (γ 9 2), .ref (γ 9 3), .ref (γ 9 4), .ref (γ 9 5), .ref (γ 9 6), .ref (γ 9 7), .ref (γ 9 8), .int p344319, .int p344320, .int p344321, .int p344322, .int p344323, .int p344324, .ref (γ 9 15), .ref (γ 9 16), .ref (γ 9 17), .ref (γ 9 18), .ref (γ 9 19), .ref (γ 9 20), .ref (γ 9 21), .ref (γ 9 22), .int p344325, .int p344326, .int p344327, .int p344328, .int p344329, .ref q344317, .ref (γ 9 29), .int p344330, .ref (γ 9 31), .int p344331, .int p344332, .int p344333, .ref q344318]) := x363887.trans he344316
      have hm363893 : q344310 ∈ P344308 := RS_m hT363883 htq344310 (by decide)
      have hm363894 : (γ 9 19) ∈ P344308 := RS_m hT363883 ht344349 (by decide)
      obtain ⟨f363896, he363895, bf363896⟩ := show rk_21 I (F363882 (γ 9 19)) from RS_o hT363883 ht344349
      have cq363897 := x363885
      rw [cB_of he363895] at cq363897
      refine G_iload_n 0 dr_cX17_share_10 rfl ?_
      refine G_aload_n 2 dr_cX17_share_11 rfl ?_
      refine Gp_get 11 hm363893 he363892 dr_cX17_share_12 (gk_X17 D I) (Nat.le_of_ble_eq_true rfl) wr_7_85 rfl ?_
      refine G_icmp_ge 151 dr_cX17_share_15 (by decide +kernel) (fun hc363898 => ?_) (fun hc363898 => ?_)
      · have r363899 : p344321.toInt ≤ g363880.toInt := gC_le hc363898
        refine G_iconst 0 dr_cX17_share_151 (by decide +kernel) ?_
        refine G_istore_n (L' := [(3, .int 0), (2, .int g363881), (0, .ref q344310), (1, .ref q344311)]) dr_cX17_share_152 (Nat.le_of_ble_eq_true rfl) rfl ?_
        have hlp153_364243 : ∀ (n153_364243 : Nat) (F364238 : Nat → va_E) (g364237 : Int32), gB g364237 0 1000000 → RS D I P344308 F364238 γ el → rStr γ [1] F344309 F364238 → (∀ q : Nat, (q : Int) < ((γ 7 (γ 1 q344311) : Nat) : Int) → 0 ≤ (cB (F364238 (γ 9 19)) q).toInt ∧ (cB (F364238 (γ 9 19)) q).toInt ≤ q) → (F364238 q344310 = F344309 q344310) → mKp (F344309 q344310) (F364238 q344310) → ((1000001 : Int) - g364237.toInt).toNat < n153_364243 → G (gV D I) l (gRm 6 141 0 0) (gMA (gV D I) (pt_344314_SpillForgeModel_share D I γ el P344308 F344309 q344310 q344311) gNA 0 0) ky_344314_SpillForgeModel_share 153 [(3, .int g364237), (2, .int g363881), (0, .ref q344310), (1, .ref q344311)] [] (va_pl P344308 F364238) 0 0 := by
          intro n153_364243
          induction n153_364243 with
          | zero => intro F364238 g364237 bg364237 hT364239 hs364240 x364241 x364242 x364243 hm153_364243; exact absurd hm153_364243 (Nat.not_lt_zero _)
          | succ n153_364243 ih153_364243 =>
            intro F364238 g364237 bg364237 hT364239 hs364240 x364241 x364242 x364243 hm153_364243
            have hs364245 : rStr γ [1] F363882 F364238 := fun b h0 hb hw => (hs364240 b h0 hb hw).trans (hs363884 b h0 hb hw).symm
            have hs364246 : rStr γ [1] F344309 F364238 := rStr_tr hs363884 hs364245
            have he364247 : F364238 q344310 = .inr (22, [.ref (γ 9 0), .ref (γ 9 1), .ref (γ 9 2), .ref (γ 9 3), .ref (γ 9 4), .ref (γ 9 5), .ref (γ 9 6), .ref (γ 9 7), .ref (γ 9 8), .int p344319, .int p344320, .int p344321, .int p344322, .int p344323, .int p344324, .ref (γ 9 15), .ref (γ 9 16), .ref (γ 9 17), .ref (γ 9 18), .ref (γ 9 19), .ref (γ 9 20), .ref (γ 9 21), .ref (γ 9 22), .int p344325, .int p344326, .int p344327, .int p344328, .int p344329, .ref q344317, .ref (γ 9 29), .int p344330, .ref (γ 9 31), .int p344331, .int p344332, .int p344333, .ref q344318]) := x364242.trans he344316
            have hm364248 : q344310 ∈ P344308 := RS_m hT364239 htq344310 (by decide)
            have hm364249 : (γ 9 19) ∈ P344308 := RS_m hT364239 ht344349 (by decide)
            obtain ⟨f364251, he364250, bf364251⟩ := show rk_21 I (F364238 (γ 9 19)) from RS_o hT364239 ht344349
            have cq364252 := x364241
            rw [cB_of he364250] at cq364252
            refine G_iload_n 0 dr_cX17_share_153 rfl ?_
            refine G_aload_n 3 dr_cX17_share_154 rfl ?_
            have hm364253 : q344311 ∈ P344308 := RS_m hT364239 htq344311 (by decide)
            obtain ⟨q364255, q364256, p364257, p364258, he364254, ht364274, ht364259, ht364260, ht364261, ht364262, r364263, r364264, r364265, r364266, r364267, r364268, r364269, r364270, r364271, r364272, r364273⟩ := show rk_9 γ el q344311 (F364238 q344311) from RS_o hT364239 htq344311
            have bp364257 : gB p364257 0 1000000 := ⟨by omega, by omega⟩
            have bp364258 : gB p364258 0 1000000 := ⟨by omega, by omega⟩
            refine Gw_callV (As := []) (gV_ok D I) (cp_12780_Code_size l hl0 D I P344308 F364238 q344311 q364255 q364256 p364257 p364258 hm364253 he364254) dr_cX17_share_155 ⟨wr_10_160, wr_1_15, wr_9_131, by decide, rfl, (Nat.le_of_ble_eq_true rfl), (Nat.le_of_ble_eq_true rfl)⟩ wr_9_129 wr_9_130 hm364253 he364254 rfl (show 0 + 0 ≤ 0 by first | omega | decide) (show 0 + 0 ≤ 0 by first | omega | decide) (Nat.le_of_ble_eq_true rfl) (fun r364278 w364279 dc364275 ds364276 hp364277 => ?_) (fun _ _ _ _ _ z => z.elim)
            obtain ⟨rfl, rfl, hdc, hds⟩ := hp364277
            change G _ _ _ _ _ _ _ (.int p364258 :: _) _ _ _
            refine G_widen (cs' := 0) (sl' := 0) (by omega) (by omega) ?_
            refine G_icmp_ge 246 dr_cX17_share_158 (by decide +kernel) (fun hc364280 => ?_) (fun hc364280 => ?_)
            · have r364281 : p364258.toInt ≤ g364237.toInt := gC_le hc364280
              refine G_aload_n 2 dr_cX17_share_246 rfl ?_
              refine G_iload_n 1 dr_cX17_share_247 rfl ?_
              refine Gp_put 11 hm364248 he364247 dr_cX17_share_248 (gk_X17 D I) (Nat.le_of_ble_eq_true rfl) wr_7_85 rfl rfl rfl (Nat.le_of_ble_eq_true rfl) (fun F364282 e364283 n364284 => ?_)
              have he364285 : F364282 (γ 9 19) = .inl (I .int, 2000, .inl f364251) := (n364284 (γ 9 19) (rn_ao he364250 he364247)).trans he364250
              have he364286 : F364282 q344311 = .inr (18, [.ref q364255, .ref q364256, .int p364257, .int p364258]) := (n364284 q344311 (rn_oo he364254 he364247 (by decide))).trans he364254
              have he364287 : F364282 q344310 = .inr (22, [.ref (γ 9 0), .ref (γ 9 1), .ref (γ 9 2), .ref (γ 9 3), .ref (γ 9 4), .ref (γ 9 5), .ref (γ 9 6), .ref (γ 9 7), .ref (γ 9 8), .int p344319, .int p344320, .int g363881, .int p344322, .int p344323, .int p344324, .ref (γ 9 15), .ref (γ 9 16), .ref (γ 9 17), .ref (γ 9 18), .ref (γ 9 19), .ref (γ 9 20), .ref (γ 9 21), .ref (γ 9 22), .int p344325, .int p344326, .int p344327, .int p344328, .int p344329, .ref q344317, .ref (γ 9 29), .int p344330, .ref (γ 9 31), .int p344331, .int p344332, .int p344333, .ref q344318]) := e364283
              have mk364288 : mKp (F344309 q344310) (F364282 q344310) := mKp_tr x364243 (by rw [he364247, he364287]; exact ⟨rfl, rfl⟩)
              have hs364289 : rStr γ [1] F344309 F364282 := rStr_put hs364240 n364284 htq344310 (by decide)
              have hT364290 : RS D I P344308 F364282 γ el := RS_set hT364239 n364284 htq344310 (by decide) ⟨q344317, q344318, p344319, p344320, g363881, p344322, p344323, p344324, p344325, p344326, p344327, p344328, p344329, p344330, p344331, p344332, p344333, he364287, ⟨(hB344360.1), (hB344360.2.1), ⟨by omega, by omega⟩, (hB344360.2.2.2.1), (hB344360.2.2.2.2.1), (hB344360.2.2.2.2.2.1), (hB344360.2.2.2.2.2.2.1), (hB344360.2.2.2.2.2.2.2.1), (hB344360.2.2.2.2.2.2.2.2)⟩, ht344334, ht344335, ht344336, ht344337, ht344338, ht344339, ht344340, ht344341, ht344342, ht344343, ht344344, ht344345, ht344346, ht344347, ht344348, ht344349, ht344350, ht344351, ht344352, ht344353, ht344354, ht344355, ht344356, ht344357, hB344361⟩
              exact G_vretA dr_cX17_share_251 rfl (Nat.le_of_ble_eq_true rfl) (Nat.le_of_ble_eq_true rfl) ⟨F364282, rfl, rfl, hT364290, hs364289, (Nat.le_of_ble_eq_true rfl), (Nat.le_of_ble_eq_true rfl), mk364288⟩
            · have r364291 : g364237.toInt < p364258.toInt := gC_nle hc364280
              have bg364237' : gB g364237 0 999999 := ⟨by omega, by omega⟩
              have bp364258' : gB p364258 1 1000000 := ⟨by omega, by omega⟩
              refine G_aload_n 3 dr_cX17_share_161 rfl ?_
              refine G_iload_n 0 dr_cX17_share_162 rfl ?_
              have hm364292 : q364255 ∈ P344308 := RS_m hT364239 ht364259 (by decide)
              obtain ⟨⟨p364294, p364295, q364296, he364293, r364297, r364298, r364299, r364301⟩, r364300⟩ := show rk_4 D I γ el F364238 q364255 from RS_o hT364239 ht364259
              have bp364294 := gB_any p364294
              have bp364295 : gB p364295 0 1000000 := ⟨by omega, by omega⟩
              obtain ⟨r364302, r364303, n364310, f364311, r364304, r364305, r364306, r364307, r364308, r364309⟩ := rLC_n r364299 (by omega)
              have hm364312 : q364296 ∈ P344308 := RS_m hT364239 r364302 (by decide)
              obtain ⟨q364313, hx364314⟩ : ∃ x, x = el q364255 g364237.toInt.toNat := ⟨_, rfl⟩
              have hx364315 : f364311 g364237.toNatClampNeg = some q364313 := (r364308 _ (show g364237.toInt.toNat < γ 2 q364255 by omega)).trans (by rw [hx364314])
              have ht364318 : rKd γ q364313 2 := by rw [hx364314]; exact (r364270 _ (by omega)).resolve_right (fun z => absurd z.1 (by omega))
              have ht364319 : rFm γ q364313 q364255 := by rw [hx364314]; exact (r364300 _ (show g364237.toInt.toNat < γ 2 q364255 by omega)).2.1
              have hm364320 : q364313 ∈ P344308 := RS_m hT364239 ht364318 (by decide)
              obtain ⟨q364322, q364323, p364324, p364325, he364321, ht364332, ht364326, ht364327, ht364328, ht364329, ht364330, bp364324, bp364325, r364331, r364333, r364334⟩ := show rk_2 γ q364313 (F364238 q364313) from RS_o hT364239 ht364318
              refine Gw_callV (As := [.int g364237]) (gV_ok D I) (cp_7901_Code_get l hl0 D I P344308 F364238 q344311 q364255 q364296 g364237 q364256 p364257 p364258 p364294 p364295 f364311 n364310 q364313 q364322 q364323 p364324 p364325 hm364253 hm364292 hm364312 hm364320 he364254 he364293 r364304 he364321 (gB_w bg364237' (by decide) (by decide)) (gB_w bp364295 (by decide) (by decide)) (by omega) (by omega) (by assumption) (by omega)) dr_cX17_share_163 ⟨wr_10_161, wr_1_15, wr_10_141, by decide, rfl, (Nat.le_of_ble_eq_true rfl), (Nat.le_of_ble_eq_true rfl)⟩ wr_10_139 wr_10_140 hm364253 he364254 rfl (show 0 + 0 ≤ 0 by first | omega | decide) (show 0 + 0 ≤ 0 by first | omega | decide) (Nat.le_of_ble_eq_true rfl) (fun r364338 w364339 dc364335 ds364336 hp364337 => ?_) (fun _ _ _ _ _ z => z.elim)
              obtain ⟨rfl, rfl, hdc, hds, ht364340⟩ := hp364337
              change G _ _ _ _ _ _ _ (.ref q364313 :: _) _ _ _
              refine G_widen (cs' := 0) (sl' := 0) (by omega) (by omega) ?_
              refine G_astore (L' := [(4, .ref q364313), (3, .int g364237), (2, .int g363881), (0, .ref q344310), (1, .ref q344311)]) dr_cX17_share_166 (Nat.le_of_ble_eq_true rfl) rfl ?_
              refine G_iconst 0 dr_cX17_share_168 (by decide +kernel) ?_
              refine G_istore (L' := [(5, .int 0), (4, .ref q364313), (3, .int g364237), (2, .int g363881), (0, .ref q344310), (1, .ref q344311)]) dr_cX17_share_169 (Nat.le_of_ble_eq_true rfl) rfl ?_
              have hlp171_364464 : ∀ (n171_364464 : Nat) (F364459 : Nat → va_E) (g364458 : Int32), gB g364458 0 1000000 → RS D I P344308 F364459 γ el → rStr γ [1] F344309 F364459 → (∀ q : Nat, (q : Int) < ((γ 7 (γ 1 q344311) : Nat) : Int) → 0 ≤ (cB (F364459 (γ 9 19)) q).toInt ∧ (cB (F364459 (γ 9 19)) q).toInt ≤ q) → (F364459 q344310 = F344309 q344310) → mKp (F344309 q344310) (F364459 q344310) → ((1000001 : Int) - g364458.toInt).toNat < n171_364464 → G (gV D I) l (gRm 6 141 0 0) (gMA (gV D I) (pt_344314_SpillForgeModel_share D I γ el P344308 F344309 q344310 q344311) gNA 0 0) ky_344314_SpillForgeModel_share 171 [(5, .int g364458), (4, .ref q364313), (3, .int g364237), (2, .int g363881), (0, .ref q344310), (1, .ref q344311)] [] (va_pl P344308 F364459) 0 0 := by
                intro n171_364464
                induction n171_364464 with
                | zero => intro F364459 g364458 bg364458 hT364460 hs364461 x364462 x364463 x364464 hm171_364464; exact absurd hm171_364464 (Nat.not_lt_zero _)
                | succ n171_364464 ih171_364464 =>
                  intro F364459 g364458 bg364458 hT364460 hs364461 x364462 x364463 x364464 hm171_364464
                  have hs364466 : rStr γ [1] F364238 F364459 := fun b h0 hb hw => (hs364461 b h0 hb hw).trans (hs364240 b h0 hb hw).symm
                  have he364467 : F364459 q344311 = .inr (18, [.ref q364255, .ref q364256, .int p364257, .int p364258]) := (hs364466 q344311 (rT0 htq344311 (by decide)) (rT1 htq344311 (by decide)) (rT2 htq344311 (by decide))).trans he364254
                  have he364468 : F364459 q364255 = .inr (4, [.int p364294, .ref q364296, .int p364295]) := (hs364466 q364255 (rT0 ht364259 (by decide)) (rT1 ht364259 (by decide)) (rT2 ht364259 (by decide))).trans he364293
                  have he364469 : F364459 q364296 = .inl (I (.object "java/lang/Object"), n364310, .inr (.inr (.inr (.inr f364311)))) := (hs364466 q364296 (rT0 r364302 (by decide)) (rT1 r364302 (by decide)) (rT2 r364302 (by decide))).trans r364304
                  have he364470 : F364459 q364313 = .inr (17, [.ref q364322, .ref q364323, .int p364324, .int p364325]) := (hs364466 q364313 (rT0 ht364318 (by decide)) (rT1 ht364318 (by decide)) (rT2 ht364318 (by decide))).trans he364321
                  have hs364471 : rStr γ [1] F344309 F364459 := rStr_tr hs364240 hs364466
                  have he364472 : F364459 q344310 = .inr (22, [.ref (γ 9 0), .ref (γ 9 1), .ref (γ 9 2), .ref (γ 9 3), .ref (γ 9 4), .ref (γ 9 5), .ref (γ 9 6), .ref (γ 9 7), .ref (γ 9 8), .int p344319, .int p344320, .int p344321, .int p344322, .int p344323, .int p344324, .ref (γ 9 15), .ref (γ 9 16), .ref (γ 9 17), .ref (γ 9 18), .ref (γ 9 19), .ref (γ 9 20), .ref (γ 9 21), .ref (γ 9 22), .int p344325, .int p344326, .int p344327, .int p344328, .int p344329, .ref q344317, .ref (γ 9 29), .int p344330, .ref (γ 9 31), .int p344331, .int p344332, .int p344333, .ref q344318]) := x364463.trans he344316
                  have hm364473 : q344310 ∈ P344308 := RS_m hT364460 htq344310 (by decide)
                  have hm364474 : (γ 9 19) ∈ P344308 := RS_m hT364460 ht344349 (by decide)
                  obtain ⟨f364476, he364475, bf364476⟩ := show rk_21 I (F364459 (γ 9 19)) from RS_o hT364460 ht344349
                  have cq364477 := x364462
                  rw [cB_of he364475] at cq364477
                  refine G_iload 0 dr_cX17_share_171 rfl ?_
                  refine G_aload 1 dr_cX17_share_173 rfl ?_
                  refine Gp_get 0 hm364320 he364470 dr_cX17_share_175 (gk_X12 D I) (Nat.le_of_ble_eq_true rfl) wr_9_220 rfl ?_
                  have hm364478 : q364322 ∈ P344308 := RS_m hT364460 ht364326 (by decide)
                  obtain ⟨⟨p364480, p364481, q364482, he364479, r364483, r364484, r364485, r364487⟩, r364486⟩ := show rk_3 D I γ el F364459 q364322 from RS_o hT364460 ht364326
                  have bp364480 := gB_any p364480
                  have bp364481 : gB p364481 0 1000000 := ⟨by omega, by omega⟩
                  refine Gw_callV (As := []) (gV_ok D I) (cp_7_ArrayList_size l hl0 D I P344308 F364459 q364322 p364480 q364482 p364481 hm364478 he364479 (gB_w bp364481 (by decide) (by decide))) dr_cX17_share_178 ⟨wr_10_200, wr_1_18, wr_9_160, by decide, rfl, (Nat.le_of_ble_eq_true rfl), (Nat.le_of_ble_eq_true rfl)⟩ wr_9_158 wr_9_159 hm364478 he364479 rfl (show 0 + 0 ≤ 0 by first | omega | decide) (show 0 + 0 ≤ 0 by first | omega | decide) (Nat.le_of_ble_eq_true rfl) (fun r364491 w364492 dc364488 ds364489 hp364490 => ?_) (fun _ _ _ _ _ z => z.elim)
                  obtain ⟨rfl, rfl, hdc, hds⟩ := hp364490
                  change G _ _ _ _ _ _ _ (.int p364481 :: _) _ _ _
                  refine G_widen (cs' := 0) (sl' := 0) (by omega) (by omega) ?_
                  refine G_icmp_ge 240 dr_cX17_share_181 (by decide +kernel) (fun hc364493 => ?_) (fun hc364493 => ?_)
                  · have r364494 : p364481.toInt ≤ g364458.toInt := gC_le hc364493
                    obtain ⟨z364495, hz364495⟩ : ∃ z : Int32, z = g364237 + Int32.ofInt 1 := ⟨_, rfl⟩
                    have ez364495 : z364495.toInt = g364237.toInt + 1 := gI_inc hz364495 (by decide) bg364237' (by decide) (by decide)
                    have bz364495 : gB z364495 1 1000000 := ⟨by omega, by omega⟩
                    refine G_iinc (L' := [(3, .int z364495), (5, .int g364458), (4, .ref q364313), (2, .int g363881), (0, .ref q344310), (1, .ref q344311)]) z364495 2 dr_cX17_share_240 rfl hz364495.symm (Nat.le_of_ble_eq_true rfl) rfl ?_
                    refine G_goto 153 dr_cX17_share_243 (by decide +kernel) ?_
                    refine G_lv (L' := [(3, .int z364495), (2, .int g363881), (0, .ref q344310), (1, .ref q344311)]) [0, 3, 4, 5] rfl ?_
                    exact ih153_364243 F364459 z364495 (gB_w bz364495 (by decide) (by decide)) hT364460 hs364461 (by rw [cB_of he364475]; exact cq364477) x364463 x364464 (mz_up ez364495 (Int.le_trans bg364237'.2 (by decide)) hm153_364243)
                  · have r364496 : g364458.toInt < p364481.toInt := gC_nle hc364493
                    have bg364458' : gB g364458 0 999999 := ⟨by omega, by omega⟩
                    have bp364481' : gB p364481 1 1000000 := ⟨by omega, by omega⟩
                    refine G_aload 1 dr_cX17_share_184 rfl ?_
                    refine Gp_get 0 hm364320 he364470 dr_cX17_share_186 (gk_X12 D I) (Nat.le_of_ble_eq_true rfl) wr_9_220 rfl ?_
                    refine G_iload 0 dr_cX17_share_189 rfl ?_
                    obtain ⟨r364497, r364498, n364505, f364506, r364499, r364500, r364501, r364502, r364503, r364504⟩ := rLC_n r364485 (by omega)
                    have hm364507 : q364482 ∈ P344308 := RS_m hT364460 r364497 (by decide)
                    obtain ⟨q364508, hx364509⟩ : ∃ x, x = el q364322 g364458.toInt.toNat := ⟨_, rfl⟩
                    have hx364510 : f364506 g364458.toNatClampNeg = some q364508 := (r364503 _ (show g364458.toInt.toNat < γ 2 q364322 by omega)).trans (by rw [hx364509])
                    have ht364511 : rKd γ q364508 1 := by rw [hx364509]; exact (r364486 _ (show g364458.toInt.toNat < γ 2 q364322 by omega)).1
                    have ht364512 : rFm γ q364508 q364322 := by rw [hx364509]; exact (r364486 _ (show g364458.toInt.toNat < γ 2 q364322 by omega)).2.1
                    refine Gw_callV (As := [.int g364458]) (gV_ok D I) (cp_22_ArrayList_get l hl0 D I P344308 F364459 q364322 q364482 g364458 p364480 p364481 f364506 n364505 q364508 hm364478 hm364507 he364479 r364499 (gB_w bg364458' (by decide) (by decide)) (gB_w bp364481' (by decide) (by decide)) (by omega) (by omega) (by assumption) (by omega)) dr_cX17_share_191 ⟨wr_10_201, wr_1_18, wr_10_65, by decide, rfl, (Nat.le_of_ble_eq_true rfl), (Nat.le_of_ble_eq_true rfl)⟩ wr_10_63 wr_10_64 hm364478 he364479 rfl (show 0 + 0 ≤ 0 by first | omega | decide) (show 0 + 0 ≤ 0 by first | omega | decide) (Nat.le_of_ble_eq_true rfl) (fun r364516 w364517 dc364513 ds364514 hp364515 => ?_) (fun _ _ _ _ _ z => z.elim)
                    obtain ⟨rfl, rfl, hdc, hds, ht364518⟩ := hp364515
                    change G _ _ _ _ _ _ _ (.ref q364508 :: _) _ _ _
                    refine G_widen (cs' := 0) (sl' := 0) (by omega) (by omega) ?_
                    have hm364519 : q364508 ∈ P344308 := RS_m hT364460 ht364511 (by decide)
                    obtain ⟨p364521, p364522, p364523, p364524, p364525, p364526, p364527, he364520, bp364521, bp364522, bp364525, bp364526, bp364527, r364528, r364529, r364530, r364531, r364532⟩ := show rk_1 γ q364508 (F364459 q364508) from RS_o hT364460 ht364511
                    have bp364523 := gB_any p364523
                    have bp364524 := gB_any p364524
                    refine Gp_cast hm364519 he364520 rfl dr_cX17_share_194 wr_10_202 (gr_cast 1 rfl) ?_
                    refine G_astore (L' := [(6, .ref q364508), (5, .int g364458), (4, .ref q364313), (3, .int g364237), (2, .int g363881), (0, .ref q344310), (1, .ref q344311)]) dr_cX17_share_197 (Nat.le_of_ble_eq_true rfl) rfl ?_
                    refine G_aload 0 dr_cX17_share_199 rfl ?_
                    refine Gp_get 0 hm364519 he364520 dr_cX17_share_201 (gk_X15 D I) (Nat.le_of_ble_eq_true rfl) wr_9_177 rfl ?_
                    refine G_bipush 21 dr_cX17_share_204 (by decide +kernel) ?_
                    refine G_icmp_eq 219 dr_cX17_share_206 (by decide +kernel) (fun hc364533 => ?_) (fun hc364533 => ?_)
                    · have r364534 : p364521.toInt = 21 := gj_eq hc364533 (show Int32.toInt 21 = 21 by decide)
                      have bp364521' : gB p364521 21 21 := ⟨by omega, by omega⟩
                      refine G_aload 0 dr_cX17_share_219 rfl ?_
                      refine G_aload_n 5 dr_cX17_share_221 rfl ?_
                      refine Gp_get 19 hm364473 he364472 dr_cX17_share_222 (gk_X17 D I) (Nat.le_of_ble_eq_true rfl) wr_7_93 rfl ?_
                      refine G_aload 0 dr_cX17_share_225 rfl ?_
                      refine Gp_get 4 hm364519 he364520 dr_cX17_share_227 (gk_X15 D I) (Nat.le_of_ble_eq_true rfl) wr_9_193 rfl ?_
                      refine Gp_iald 0 hm364474 he364475 dr_cX17_share_230 rfl (gB_in bp364525 (by decide) (by decide)) (G_nam fun z364535 hz364535 => ?_)
                      have bz364535 : gB z364535 (-1) 1999 := by rw [hz364535]; exact bf364476 _
                      have r364536 : γ 7 (γ 1 q364508) = γ 7 (γ 1 q344311) := by rw [show γ 1 q364508 = γ 1 q364322 from ht364512, show γ 1 q364322 = γ 1 q364313 from ht364327, show γ 1 q364313 = γ 1 q364255 from ht364319, show γ 1 q364255 = γ 1 q344311 from ht364260]
                      have r364537 : 0 ≤ z364535.toInt ∧ z364535.toInt ≤ (p364525.toInt.toNat : Int) := by rw [hz364535]; exact cq364477 p364525.toInt.toNat (by omega)
                      have bz364535' : gB z364535 0 1999 := ⟨by omega, by omega⟩
                      refine Gp_put 4 hm364519 he364520 dr_cX17_share_231 (gk_X15 D I) (Nat.le_of_ble_eq_true rfl) wr_9_193 rfl rfl rfl (Nat.le_of_ble_eq_true rfl) (fun F364538 e364539 n364540 => ?_)
                      have he364541 : F364538 q344311 = .inr (18, [.ref q364255, .ref q364256, .int p364257, .int p364258]) := (n364540 q344311 (rn_oo he364467 he364520 (by decide))).trans he364467
                      have he364542 : F364538 q364255 = .inr (4, [.int p364294, .ref q364296, .int p364295]) := (n364540 q364255 (rn_oo he364468 he364520 (by decide))).trans he364468
                      have he364543 : F364538 q364296 = .inl (I (.object "java/lang/Object"), n364310, .inr (.inr (.inr (.inr f364311)))) := (n364540 q364296 (rn_ao he364469 he364520)).trans he364469
                      have he364544 : F364538 q364313 = .inr (17, [.ref q364322, .ref q364323, .int p364324, .int p364325]) := (n364540 q364313 (rn_oo he364470 he364520 (by decide))).trans he364470
                      have he364545 : F364538 q344310 = .inr (22, [.ref (γ 9 0), .ref (γ 9 1), .ref (γ 9 2), .ref (γ 9 3), .ref (γ 9 4), .ref (γ 9 5), .ref (γ 9 6), .ref (γ 9 7), .ref (γ 9 8), .int p344319, .int p344320, .int p344321, .int p344322, .int p344323, .int p344324, .ref (γ 9 15), .ref (γ 9 16), .ref (γ 9 17), .ref (γ 9 18), .ref (γ 9 19), .ref (γ 9 20), .ref (γ 9 21), .ref (γ 9 22), .int p344325, .int p344326, .int p344327, .int p344328, .int p344329, .ref q344317, .ref (γ 9 29), .int p344330, .ref (γ 9 31), .int p344331, .int p344332, .int p344333, .ref q344318]) := (n364540 q344310 (rn_oo he364472 he364520 (by decide))).trans he364472
                      have he364546 : F364538 (γ 9 19) = .inl (I .int, 2000, .inl f364476) := (n364540 (γ 9 19) (rn_ao he364475 he364520)).trans he364475
                      have he364547 : F364538 q364322 = .inr (4, [.int p364480, .ref q364482, .int p364481]) := (n364540 q364322 (rn_oo he364479 he364520 (by decide))).trans he364479
                      have he364548 : F364538 q364482 = .inl (I (.object "java/lang/Object"), n364505, .inr (.inr (.inr (.inr f364506)))) := (n364540 q364482 (rn_ao r364499 he364520)).trans r364499
                      have he364549 : F364538 q364508 = .inr (20, [.int p364521, .int p364522, .int p364523, .int p364524, .int z364535, .int p364526, .int p364527]) := e364539
                      have mk364550 : mKp (F344309 q344310) (F364538 q344310) := mKp_tr x364464 (mKp_eq (n364540 q344310 (rn_ty htq344310 ht364511 (by decide))))
                      have hs364551 : rStr γ [1] F344309 F364538 := rStr_pu2 hs364461 n364540 ht364511 (by decide)
                      have kp364552 : F364538 q344310 = F344309 q344310 := (n364540 q344310 (rn_ty htq344310 ht364511 (by decide))).trans x364463
                      obtain ⟨z364553, hz364553⟩ : ∃ z : Int32, z = g364458 + Int32.ofInt 1 := ⟨_, rfl⟩
                      have ez364553 : z364553.toInt = g364458.toInt + 1 := gI_inc hz364553 (by decide) bg364458' (by decide) (by decide)
                      have bz364553 : gB z364553 1 1000000 := ⟨by omega, by omega⟩
                      refine G_iinc (L' := [(5, .int z364553), (6, .ref q364508), (4, .ref q364313), (3, .int g364237), (2, .int g363881), (0, .ref q344310), (1, .ref q344311)]) z364553 1 dr_cX17_share_234 rfl hz364553.symm (Nat.le_of_ble_eq_true rfl) rfl ?_
                      refine G_goto 171 dr_cX17_share_237 (by decide +kernel) ?_
                      have hT364554 : RS D I P344308 F364538 γ el := RS_set hT364460 n364540 ht364511 (by decide) ⟨p364521, p364522, p364523, p364524, z364535, p364526, p364527, he364549, (gB_w bp364521' (by decide) (by decide)), bp364522, bz364535', bp364526, bp364527, (by omega), (by omega), (by omega), (by omega), (by omega)⟩
                      refine G_lv (L' := [(5, .int z364553), (4, .ref q364313), (3, .int g364237), (2, .int g363881), (0, .ref q344310), (1, .ref q344311)]) [0, 2, 3, 4, 5, 6] rfl ?_
                      exact ih171_364464 F364538 z364553 (gB_w bz364553 (by decide) (by decide)) hT364554 hs364551 (by rw [cB_of he364546]; exact cq364477) kp364552 mk364550 (mz_up ez364553 (Int.le_trans bg364458'.2 (by decide)) hm171_364464)
                    · have r364555 : p364521.toInt ≠ 21 := gj_neq hc364533 (show Int32.toInt 21 = 21 by decide)
                      refine G_aload 0 dr_cX17_share_209 rfl ?_
                      refine Gp_get 0 hm364519 he364520 dr_cX17_share_211 (gk_X15 D I) (Nat.le_of_ble_eq_true rfl) wr_9_177 rfl ?_
                      refine G_bipush 23 dr_cX17_share_214 (by decide +kernel) ?_
                      refine G_icmp_ne 234 dr_cX17_share_216 (by decide +kernel) (fun hc364556 => ?_) (fun hc364556 => ?_)
                      · have r364557 : p364521.toInt ≠ 23 := gj_neq hc364556 (show Int32.toInt 23 = 23 by decide)
                        obtain ⟨z364558, hz364558⟩ : ∃ z : Int32, z = g364458 + Int32.ofInt 1 := ⟨_, rfl⟩
                        have ez364558 : z364558.toInt = g364458.toInt + 1 := gI_inc hz364558 (by decide) bg364458' (by decide) (by decide)
                        have bz364558 : gB z364558 1 1000000 := ⟨by omega, by omega⟩
                        refine G_iinc (L' := [(5, .int z364558), (6, .ref q364508), (4, .ref q364313), (3, .int g364237), (2, .int g363881), (0, .ref q344310), (1, .ref q344311)]) z364558 1 dr_cX17_share_234 rfl hz364558.symm (Nat.le_of_ble_eq_true rfl) rfl ?_
                        refine G_goto 171 dr_cX17_share_237 (by decide +kernel) ?_
                        refine G_lv (L' := [(5, .int z364558), (4, .ref q364313), (3, .int g364237), (2, .int g363881), (0, .ref q344310), (1, .ref q344311)]) [0, 2, 3, 4, 5, 6] rfl ?_
                        exact ih171_364464 F364459 z364558 (gB_w bz364558 (by decide) (by decide)) hT364460 hs364461 (by rw [cB_of he364475]; exact cq364477) x364463 x364464 (mz_up ez364558 (Int.le_trans bg364458'.2 (by decide)) hm171_364464)
                      · have r364559 : p364521.toInt = 23 := gj_eq hc364556 (show Int32.toInt 23 = 23 by decide)
                        have bp364521' : gB p364521 23 23 := ⟨by omega, by omega⟩
                        refine G_aload 0 dr_cX17_share_219 rfl ?_
                        refine G_aload_n 5 dr_cX17_share_221 rfl ?_
                        refine Gp_get 19 hm364473 he364472 dr_cX17_share_222 (gk_X17 D I) (Nat.le_of_ble_eq_true rfl) wr_7_93 rfl ?_
                        refine G_aload 0 dr_cX17_share_225 rfl ?_
                        refine Gp_get 4 hm364519 he364520 dr_cX17_share_227 (gk_X15 D I) (Nat.le_of_ble_eq_true rfl) wr_9_193 rfl ?_
                        refine Gp_iald 0 hm364474 he364475 dr_cX17_share_230 rfl (gB_in bp364525 (by decide) (by decide)) (G_nam fun z364560 hz364560 => ?_)
                        have bz364560 : gB z364560 (-1) 1999 := by rw [hz364560]; exact bf364476 _
                        have r364561 : γ 7 (γ 1 q364508) = γ 7 (γ 1 q344311) := by rw [show γ 1 q364508 = γ 1 q364322 from ht364512, show γ 1 q364322 = γ 1 q364313 from ht364327, show γ 1 q364313 = γ 1 q364255 from ht364319, show γ 1 q364255 = γ 1 q344311 from ht364260]
                        have r364562 : 0 ≤ z364560.toInt ∧ z364560.toInt ≤ (p364525.toInt.toNat : Int) := by rw [hz364560]; exact cq364477 p364525.toInt.toNat (by omega)
                        have bz364560' : gB z364560 0 1999 := ⟨by omega, by omega⟩
                        refine Gp_put 4 hm364519 he364520 dr_cX17_share_231 (gk_X15 D I) (Nat.le_of_ble_eq_true rfl) wr_9_193 rfl rfl rfl (Nat.le_of_ble_eq_true rfl) (fun F364563 e364564 n364565 => ?_)
                        have he364566 : F364563 q344311 = .inr (18, [.ref q364255, .ref q364256, .int p364257, .int p364258]) := (n364565 q344311 (rn_oo he364467 he364520 (by decide))).trans he364467
                        have he364567 : F364563 q364255 = .inr (4, [.int p364294, .ref q364296, .int p364295]) := (n364565 q364255 (rn_oo he364468 he364520 (by decide))).trans he364468
                        have he364568 : F364563 q364296 = .inl (I (.object "java/lang/Object"), n364310, .inr (.inr (.inr (.inr f364311)))) := (n364565 q364296 (rn_ao he364469 he364520)).trans he364469
                        have he364569 : F364563 q364313 = .inr (17, [.ref q364322, .ref q364323, .int p364324, .int p364325]) := (n364565 q364313 (rn_oo he364470 he364520 (by decide))).trans he364470
                        have he364570 : F364563 q344310 = .inr (22, [.ref (γ 9 0), .ref (γ 9 1), .ref (γ 9 2), .ref (γ 9 3), .ref (γ 9 4), .ref (γ 9 5), .ref (γ 9 6), .ref (γ 9 7), .ref (γ 9 8), .int p344319, .int p344320, .int p344321, .int p344322, .int p344323, .int p344324, .ref (γ 9 15), .ref (γ 9 16), .ref (γ 9 17), .ref (γ 9 18), .ref (γ 9 19), .ref (γ 9 20), .ref (γ 9 21), .ref (γ 9 22), .int p344325, .int p344326, .int p344327, .int p344328, .int p344329, .ref q344317, .ref (γ 9 29), .int p344330, .ref (γ 9 31), .int p344331, .int p344332, .int p344333, .ref q344318]) := (n364565 q344310 (rn_oo he364472 he364520 (by decide))).trans he364472
                        have he364571 : F364563 (γ 9 19) = .inl (I .int, 2000, .inl f364476) := (n364565 (γ 9 19) (rn_ao he364475 he364520)).trans he364475
                        have he364572 : F364563 q364322 = .inr (4, [.int p364480, .ref q364482, .int p364481]) := (n364565 q364322 (rn_oo he364479 he364520 (by decide))).trans he364479
                        have he364573 : F364563 q364482 = .inl (I (.object "java/lang/Object"), n364505, .inr (.inr (.inr (.inr f364506)))) := (n364565 q364482 (rn_ao r364499 he364520)).trans r364499
                        have he364574 : F364563 q364508 = .inr (20, [.int p364521, .int p364522, .int p364523, .int p364524, .int z364560, .int p364526, .int p364527]) := e364564
                        have mk364575 : mKp (F344309 q344310) (F364563 q344310) := mKp_tr x364464 (mKp_eq (n364565 q344310 (rn_ty htq344310 ht364511 (by decide))))
                        have hs364576 : rStr γ [1] F344309 F364563 := rStr_pu2 hs364461 n364565 ht364511 (by decide)
                        have kp364577 : F364563 q344310 = F344309 q344310 := (n364565 q344310 (rn_ty htq344310 ht364511 (by decide))).trans x364463
                        obtain ⟨z364578, hz364578⟩ : ∃ z : Int32, z = g364458 + Int32.ofInt 1 := ⟨_, rfl⟩
                        have ez364578 : z364578.toInt = g364458.toInt + 1 := gI_inc hz364578 (by decide) bg364458' (by decide) (by decide)
                        have bz364578 : gB z364578 1 1000000 := ⟨by omega, by omega⟩
                        refine G_iinc (L' := [(5, .int z364578), (6, .ref q364508), (4, .ref q364313), (3, .int g364237), (2, .int g363881), (0, .ref q344310), (1, .ref q344311)]) z364578 1 dr_cX17_share_234 rfl hz364578.symm (Nat.le_of_ble_eq_true rfl) rfl ?_
                        refine G_goto 171 dr_cX17_share_237 (by decide +kernel) ?_
                        have hT364579 : RS D I P344308 F364563 γ el := RS_set hT364460 n364565 ht364511 (by decide) ⟨p364521, p364522, p364523, p364524, z364560, p364526, p364527, he364574, (gB_w bp364521' (by decide) (by decide)), bp364522, bz364560', bp364526, bp364527, (by omega), (by omega), (by omega), (by omega), (by omega)⟩
                        refine G_lv (L' := [(5, .int z364578), (4, .ref q364313), (3, .int g364237), (2, .int g363881), (0, .ref q344310), (1, .ref q344311)]) [0, 2, 3, 4, 5, 6] rfl ?_
                        exact ih171_364464 F364563 z364578 (gB_w bz364578 (by decide) (by decide)) hT364579 hs364576 (by rw [cB_of he364571]; exact cq364477) kp364577 mk364575 (mz_up ez364578 (Int.le_trans bg364458'.2 (by decide)) hm171_364464)
              exact hlp171_364464 (((1000001 : Int) - 0).toNat + 1) F364238 0 (gB_w (gBl (show Int32.toInt 0 = 0 by decide)) (by decide) (by decide)) hT364239 hs364240 (by rw [cB_of he364250]; exact cq364252) x364242 x364243 (Nat.lt_succ_self _)
        exact hlp153_364243 (((1000001 : Int) - 0).toNat + 1) F363882 0 (gB_w (gBl (show Int32.toInt 0 = 0 by decide)) (by decide) (by decide)) hT363883 hs363884 (by rw [cB_of he363895]; exact fun q hq => cq363897 q (by omega)) x363887 x363888 (Nat.lt_succ_self _)
      · have r364580 : g363880.toInt < p344321.toInt := gC_nle hc363898
        have bg363880' : gB g363880 0 99 := ⟨by omega, by omega⟩
        have bp344321' : gB p344321 1 100 := ⟨by omega, by omega⟩
        refine G_iconst 0 dr_cX17_share_18 (by decide +kernel) ?_
        refine G_istore (L' := [(4, .int 0), (3, .int g363880), (2, .int g363881), (0, .ref q344310), (1, .ref q344311)]) dr_cX17_share_19 (Nat.le_of_ble_eq_true rfl) rfl ?_
        refine G_iconst 0 dr_cX17_share_21 (by decide +kernel) ?_
        refine G_istore (L' := [(5, .int 0), (4, .int 0), (3, .int g363880), (2, .int g363881), (0, .ref q344310), (1, .ref q344311)]) dr_cX17_share_22 (Nat.le_of_ble_eq_true rfl) rfl ?_
        have hlp24_364992 : ∀ (n24_364992 : Nat) (F364987 : Nat → va_E) (g364986 : Int32), gB g364986 0 1999 → RS D I P344308 F364987 γ el → rStr γ [1] F344309 F364987 → (∀ q : Nat, (q : Int) < g363880.toInt → 0 ≤ (cB (F364987 (γ 9 19)) q).toInt ∧ (cB (F364987 (γ 9 19)) q).toInt ≤ q) → (F364987 q344310 = F344309 q344310) → mKp (F344309 q344310) (F364987 q344310) → ((2000 : Int) - g364986.toInt).toNat < n24_364992 → G (gV D I) l (gRm 6 141 0 0) (gMA (gV D I) (pt_344314_SpillForgeModel_share D I γ el P344308 F344309 q344310 q344311) gNA 0 0) ky_344314_SpillForgeModel_share 24 [(5, .int g364986), (4, .int 0), (3, .int g363880), (2, .int g363881), (0, .ref q344310), (1, .ref q344311)] [] (va_pl P344308 F364987) 0 0 := by
          intro n24_364992
          induction n24_364992 with
          | zero => intro F364987 g364986 bg364986 hT364988 hs364989 x364990 x364991 x364992 hm24_364992; exact absurd hm24_364992 (Nat.not_lt_zero _)
          | succ n24_364992 ih24_364992 =>
            intro F364987 g364986 bg364986 hT364988 hs364989 x364990 x364991 x364992 hm24_364992
            have hs364994 : rStr γ [1] F363882 F364987 := fun b h0 hb hw => (hs364989 b h0 hb hw).trans (hs363884 b h0 hb hw).symm
            have hs364995 : rStr γ [1] F344309 F364987 := rStr_tr hs363884 hs364994
            have he364996 : F364987 q344310 = .inr (22, [.ref (γ 9 0), .ref (γ 9 1), .ref (γ 9 2), .ref (γ 9 3), .ref (γ 9 4), .ref (γ 9 5), .ref (γ 9 6), .ref (γ 9 7), .ref (γ 9 8), .int p344319, .int p344320, .int p344321, .int p344322, .int p344323, .int p344324, .ref (γ 9 15), .ref (γ 9 16), .ref (γ 9 17), .ref (γ 9 18), .ref (γ 9 19), .ref (γ 9 20), .ref (γ 9 21), .ref (γ 9 22), .int p344325, .int p344326, .int p344327, .int p344328, .int p344329, .ref q344317, .ref (γ 9 29), .int p344330, .ref (γ 9 31), .int p344331, .int p344332, .int p344333, .ref q344318]) := x364991.trans he344316
            have hm364997 : q344310 ∈ P344308 := RS_m hT364988 htq344310 (by decide)
            have hm364998 : (γ 9 19) ∈ P344308 := RS_m hT364988 ht344349 (by decide)
            obtain ⟨f365000, he364999, bf365000⟩ := show rk_21 I (F364987 (γ 9 19)) from RS_o hT364988 ht344349
            have cq365001 := x364990
            rw [cB_of he364999] at cq365001
            refine G_iload 0 dr_cX17_share_24 rfl ?_
            refine G_iload_n 2 dr_cX17_share_26 rfl ?_
            refine G_icmp_ge 44 dr_cX17_share_27 (by decide +kernel) (fun hc365002 => ?_) (fun hc365002 => ?_)
            · have r365003 : g363880.toInt ≤ g364986.toInt := gC_le hc365002
              refine G_iconst 0 dr_cX17_share_44 (by decide +kernel) ?_
              refine G_istore (L' := [(5, .int 0), (4, .int 0), (3, .int g363880), (2, .int g363881), (0, .ref q344310), (1, .ref q344311)]) dr_cX17_share_45 (Nat.le_of_ble_eq_true rfl) rfl ?_
              have hlp47_365196 : ∀ (n47_365196 : Nat) (F365191 : Nat → va_E) (g365190 : Int32), gB g365190 0 99 → RS D I P344308 F365191 γ el → rStr γ [1] F344309 F365191 → (∀ q : Nat, (q : Int) < g363880.toInt → 0 ≤ (cB (F365191 (γ 9 19)) q).toInt ∧ (cB (F365191 (γ 9 19)) q).toInt ≤ q) → (F365191 q344310 = F344309 q344310) → mKp (F344309 q344310) (F365191 q344310) → ((100 : Int) - g365190.toInt).toNat < n47_365196 → G (gV D I) l (gRm 6 141 0 0) (gMA (gV D I) (pt_344314_SpillForgeModel_share D I γ el P344308 F344309 q344310 q344311) gNA 0 0) ky_344314_SpillForgeModel_share 47 [(5, .int g365190), (4, .int 0), (3, .int g363880), (2, .int g363881), (0, .ref q344310), (1, .ref q344311)] [] (va_pl P344308 F365191) 0 0 := by
                intro n47_365196
                induction n47_365196 with
                | zero => intro F365191 g365190 bg365190 hT365192 hs365193 x365194 x365195 x365196 hm47_365196; exact absurd hm47_365196 (Nat.not_lt_zero _)
                | succ n47_365196 ih47_365196 =>
                  intro F365191 g365190 bg365190 hT365192 hs365193 x365194 x365195 x365196 hm47_365196
                  have hs365198 : rStr γ [1] F364987 F365191 := fun b h0 hb hw => (hs365193 b h0 hb hw).trans (hs364989 b h0 hb hw).symm
                  have hs365199 : rStr γ [1] F344309 F365191 := rStr_tr hs364989 hs365198
                  have he365200 : F365191 q344310 = .inr (22, [.ref (γ 9 0), .ref (γ 9 1), .ref (γ 9 2), .ref (γ 9 3), .ref (γ 9 4), .ref (γ 9 5), .ref (γ 9 6), .ref (γ 9 7), .ref (γ 9 8), .int p344319, .int p344320, .int p344321, .int p344322, .int p344323, .int p344324, .ref (γ 9 15), .ref (γ 9 16), .ref (γ 9 17), .ref (γ 9 18), .ref (γ 9 19), .ref (γ 9 20), .ref (γ 9 21), .ref (γ 9 22), .int p344325, .int p344326, .int p344327, .int p344328, .int p344329, .ref q344317, .ref (γ 9 29), .int p344330, .ref (γ 9 31), .int p344331, .int p344332, .int p344333, .ref q344318]) := x365195.trans he344316
                  have hm365201 : q344310 ∈ P344308 := RS_m hT365192 htq344310 (by decide)
                  have hm365202 : (γ 9 19) ∈ P344308 := RS_m hT365192 ht344349 (by decide)
                  obtain ⟨f365204, he365203, bf365204⟩ := show rk_21 I (F365191 (γ 9 19)) from RS_o hT365192 ht344349
                  have cq365205 := x365194
                  rw [cB_of he365203] at cq365205
                  refine G_iload 0 dr_cX17_share_47 rfl ?_
                  refine G_iload_n 2 dr_cX17_share_49 rfl ?_
                  refine G_icmp_ge 96 dr_cX17_share_50 (by decide +kernel) (fun hc365206 => ?_) (fun hc365206 => ?_)
                  · have r365207 : g363880.toInt ≤ g365190.toInt := gC_le hc365206
                    have hlp96_365265 : ∀ (n96_365265 : Nat) (g365263 : Int32), gB g365263 0 99 → (∀ q : Nat, (q : Int) < g363880.toInt → 0 ≤ (cB (F365191 (γ 9 19)) q).toInt ∧ (cB (F365191 (γ 9 19)) q).toInt ≤ q) → (g365263.toInt ≤ g363880.toInt) → ((100 : Int) - g365263.toInt).toNat < n96_365265 → G (gV D I) l (gRm 6 141 0 0) (gMA (gV D I) (pt_344314_SpillForgeModel_share D I γ el P344308 F344309 q344310 q344311) gNA 0 0) ky_344314_SpillForgeModel_share 96 [(5, .int g365190), (4, .int g365263), (3, .int g363880), (2, .int g363881), (0, .ref q344310), (1, .ref q344311)] [] (va_pl P344308 F365191) 0 0 := by
                      intro n96_365265
                      induction n96_365265 with
                      | zero => intro g365263 bg365263 x365264 x365265 hm96_365265; exact absurd hm96_365265 (Nat.not_lt_zero _)
                      | succ n96_365265 ih96_365265 =>
                        intro g365263 bg365263 x365264 x365265 hm96_365265
                        have cq365267 := x365264
                        rw [cB_of he365203] at cq365267
                        refine G_iload 1 dr_cX17_share_96 rfl ?_
                        refine G_iload_n 2 dr_cX17_share_98 rfl ?_
                        refine G_icmp_ge 119 dr_cX17_share_99 (by decide +kernel) (fun hc365268 => ?_) (fun hc365268 => ?_)
                        · have r365269 : g363880.toInt ≤ g365263.toInt := gC_le hc365268
                          refine G_aload_n 4 dr_cX17_share_119 rfl ?_
                          refine Gp_get 19 hm365201 he365200 dr_cX17_share_120 (gk_X17 D I) (Nat.le_of_ble_eq_true rfl) wr_7_93 rfl ?_
                          refine G_iload_n 2 dr_cX17_share_123 rfl ?_
                          refine G_iload 1 dr_cX17_share_124 rfl ?_
                          refine Gp_iast 0 hm365202 he365203 dr_cX17_share_126 rfl (gB_in bg363880' (by decide) (by decide)) (fun F365270 e365271 n365272 => ?_)
                          obtain ⟨f365273, hf365273⟩ : ∃ z, z = upd f365204 g363880.toNatClampNeg g365263 := ⟨_, rfl⟩
                          rw [← hf365273] at e365271
                          have he365274 : F365270 q344310 = .inr (22, [.ref (γ 9 0), .ref (γ 9 1), .ref (γ 9 2), .ref (γ 9 3), .ref (γ 9 4), .ref (γ 9 5), .ref (γ 9 6), .ref (γ 9 7), .ref (γ 9 8), .int p344319, .int p344320, .int p344321, .int p344322, .int p344323, .int p344324, .ref (γ 9 15), .ref (γ 9 16), .ref (γ 9 17), .ref (γ 9 18), .ref (γ 9 19), .ref (γ 9 20), .ref (γ 9 21), .ref (γ 9 22), .int p344325, .int p344326, .int p344327, .int p344328, .int p344329, .ref q344317, .ref (γ 9 29), .int p344330, .ref (γ 9 31), .int p344331, .int p344332, .int p344333, .ref q344318]) := (n365272 q344310 (rn_oa he365200 he365203)).trans he365200
                          have he365275 : F365270 (γ 9 19) = .inl (I .int, 2000, .inl f365273) := e365271
                          have mk365276 : mKp (F344309 q344310) (F365270 q344310) := mKp_tr x365196 (mKp_eq (n365272 q344310 (rn_ty htq344310 ht344349 (by decide))))
                          have hs365277 : rStr γ [1] F344309 F365270 := rStr_put hs365193 n365272 ht344349 (by decide)
                          have kp365278 : F365270 q344310 = F344309 q344310 := (n365272 q344310 (rn_ty htq344310 ht344349 (by decide))).trans x365195
                          have bf365273 : gF f365273 (-1) 1999 := gF_upd hf365273 bf365204 (gB_w bg365263 (by decide) (by decide))
                          refine G_aload_n 4 dr_cX17_share_127 rfl ?_
                          refine Gp_get 3 hm365201 he365274 dr_cX17_share_128 (gk_X17 D I) (Nat.le_of_ble_eq_true rfl) wr_7_77 rfl ?_
                          refine G_iload_n 2 dr_cX17_share_131 rfl ?_
                          have hT365279 : RS D I P344308 F365270 γ el := RS_set hT365192 n365272 ht344349 (by decide) ⟨f365273, he365275, bf365273⟩
                          have hm365280 : (γ 9 3) ∈ P344308 := RS_m hT365279 ht344339 (by decide)
                          obtain ⟨f365282, he365281, bf365282⟩ := show rk_14 I (F365270 (γ 9 3)) from RS_o hT365279 ht344339
                          refine Gp_zald 3 hm365280 he365281 dr_cX17_share_132 rfl (gB_in bg363880' (by decide) (by decide)) (G_nam fun z365283 hz365283 => ?_)
                          have bz365283 : gB z365283 0 1 := by rw [hz365283]; exact bf365282 _
                          refine G_if_eq 145 dr_cX17_share_133 (by decide +kernel) (fun hc365284 => ?_) (fun hc365284 => ?_)
                          · have r365285 : z365283.toInt = 0 := gj_eq hc365284 (show Int32.toInt 0 = 0 by decide)
                            have bz365283' : gB z365283 0 0 := gB_t0 r365285
                            obtain ⟨z365286, hz365286⟩ : ∃ z : Int32, z = g363880 + Int32.ofInt 1 := ⟨_, rfl⟩
                            have ez365286 : z365286.toInt = g363880.toInt + 1 := gI_inc hz365286 (by decide) bg363880' (by decide) (by decide)
                            have bz365286 : gB z365286 1 100 := ⟨by omega, by omega⟩
                            refine G_iinc (L' := [(3, .int z365286), (5, .int g365190), (4, .int g365263), (2, .int g363881), (0, .ref q344310), (1, .ref q344311)]) z365286 2 dr_cX17_share_145 rfl hz365286.symm (Nat.le_of_ble_eq_true rfl) rfl ?_
                            refine G_goto 10 dr_cX17_share_148 (by decide +kernel) ?_
                            refine G_lv (L' := [(3, .int z365286), (2, .int g363881), (0, .ref q344310), (1, .ref q344311)]) [0, 3, 4, 5] rfl ?_
                            exact ih10_363888 F365270 z365286 g363881 (gB_w bz365286 (by decide) (by decide)) bg363881 hT365279 hs365277 (by rw [ez365286]; rw [cB_of he365275]; exact sl_u hf365273 (by omega) (by omega) (by omega) cq365267) (by omega) kp365278 mk365276 (mz_up ez365286 (Int.le_trans bg363880'.2 (by decide)) hm10_363888)
                          · have r365287 : z365283.toInt ≠ 0 := gj_neq hc365284 (show Int32.toInt 0 = 0 by decide)
                            have bz365283' : gB z365283 1 1 := gB_t1 bz365283 r365287
                            refine G_iload_n 3 dr_cX17_share_136 rfl ?_
                            refine G_iload 1 dr_cX17_share_137 rfl ?_
                            refine G_iconst 1 dr_cX17_share_139 (by decide +kernel) ?_
                            refine G_iadd dr_cX17_share_140 (G_nam fun z365288 hz365288 => ?_)
                            have ez365288 : z365288.toInt = g365263.toInt + 1 := by rw [gI_add hz365288 bg365263 (gBl (show Int32.toInt 1 = 1 by decide)) (by decide) (by decide), show Int32.toInt 1 = 1 from by decide]
                            have bz365288 : gB z365288 1 100 := gB_add (gI_add hz365288 bg365263 (gBl (show Int32.toInt 1 = 1 by decide)) (by decide) (by decide)) bg365263 (gBl (show Int32.toInt 1 = 1 by decide)) (by decide) (by decide)
                            refine G_mmax dr_cX17_share_141 wr_11_21 wr_1_140 wr_1_6 wr_1_141 (Nat.le_of_ble_eq_true rfl) (Nat.le_of_ble_eq_true rfl) (show 0 ≤ 0 by first | omega | decide) (show 0 ≤ 0 by first | omega | decide) (G_nam fun z365289 hz365289 => ?_)
                            have ez365289 : g363881.toInt ≤ z365289.toInt ∧ z365288.toInt ≤ z365289.toInt ∧ (z365289.toInt = g363881.toInt ∨ z365289.toInt = z365288.toInt) := by have := gI_max hz365289; omega
                            have bz365289 : gB z365289 1 1999 := ⟨by omega, by omega⟩
                            have bz365289' : gB z365289 1 100 := ⟨by omega, by omega⟩
                            refine G_istore_n (L' := [(2, .int z365289), (5, .int g365190), (4, .int g365263), (3, .int g363880), (0, .ref q344310), (1, .ref q344311)]) dr_cX17_share_144 (Nat.le_of_ble_eq_true rfl) rfl ?_
                            obtain ⟨z365290, hz365290⟩ : ∃ z : Int32, z = g363880 + Int32.ofInt 1 := ⟨_, rfl⟩
                            have ez365290 : z365290.toInt = g363880.toInt + 1 := gI_inc hz365290 (by decide) bg363880' (by decide) (by decide)
                            have bz365290 : gB z365290 1 100 := ⟨by omega, by omega⟩
                            refine G_iinc (L' := [(3, .int z365290), (2, .int z365289), (5, .int g365190), (4, .int g365263), (0, .ref q344310), (1, .ref q344311)]) z365290 3 dr_cX17_share_145 rfl hz365290.symm (Nat.le_of_ble_eq_true rfl) rfl ?_
                            refine G_goto 10 dr_cX17_share_148 (by decide +kernel) ?_
                            refine G_lv (L' := [(3, .int z365290), (2, .int z365289), (0, .ref q344310), (1, .ref q344311)]) [0, 1, 4, 5] rfl ?_
                            exact ih10_363888 F365270 z365290 z365289 (gB_w bz365290 (by decide) (by decide)) (gB_w bz365289' (by decide) (by decide)) hT365279 hs365277 (by rw [ez365290]; rw [cB_of he365275]; exact sl_u hf365273 (by omega) (by omega) (by omega) cq365267) (by omega) kp365278 mk365276 (mz_up ez365290 (Int.le_trans bg363880'.2 (by decide)) hm10_363888)
                        · have r365291 : g365263.toInt < g363880.toInt := gC_nle hc365268
                          have bg365263' : gB g365263 0 98 := ⟨by omega, by omega⟩
                          have bg363880'' : gB g363880 1 99 := ⟨by omega, by omega⟩
                          refine G_aload_n 4 dr_cX17_share_102 rfl ?_
                          refine Gp_get 16 hm365201 he365200 dr_cX17_share_103 (gk_X17 D I) (Nat.le_of_ble_eq_true rfl) wr_7_90 rfl ?_
                          refine G_iload 1 dr_cX17_share_106 rfl ?_
                          have hm365292 : (γ 9 16) ∈ P344308 := RS_m hT365192 ht344346 (by decide)
                          obtain ⟨f365294, he365293⟩ := show rk_19 I (F365191 (γ 9 16)) from RS_o hT365192 ht344346
                          refine Gp_iald 0 hm365292 he365293 dr_cX17_share_108 rfl (gB_in bg365263' (by decide) (by decide)) (G_nam fun z365295 hz365295 => ?_)
                          have bz365295 : gB z365295 (-2147483648) 2147483647 := gB_any z365295
                          refine G_iconst 1 dr_cX17_share_109 (by decide +kernel) ?_
                          refine G_icmp_ne 119 dr_cX17_share_110 (by decide +kernel) (fun hc365296 => ?_) (fun hc365296 => ?_)
                          · have r365297 : z365295.toInt ≠ 1 := gj_neq hc365296 (show Int32.toInt 1 = 1 by decide)
                            refine G_aload_n 4 dr_cX17_share_119 rfl ?_
                            refine Gp_get 19 hm365201 he365200 dr_cX17_share_120 (gk_X17 D I) (Nat.le_of_ble_eq_true rfl) wr_7_93 rfl ?_
                            refine G_iload_n 2 dr_cX17_share_123 rfl ?_
                            refine G_iload 1 dr_cX17_share_124 rfl ?_
                            refine Gp_iast 0 hm365202 he365203 dr_cX17_share_126 rfl (gB_in bg363880'' (by decide) (by decide)) (fun F365298 e365299 n365300 => ?_)
                            obtain ⟨f365301, hf365301⟩ : ∃ z, z = upd f365204 g363880.toNatClampNeg g365263 := ⟨_, rfl⟩
                            rw [← hf365301] at e365299
                            have he365302 : F365298 q344310 = .inr (22, [.ref (γ 9 0), .ref (γ 9 1), .ref (γ 9 2), .ref (γ 9 3), .ref (γ 9 4), .ref (γ 9 5), .ref (γ 9 6), .ref (γ 9 7), .ref (γ 9 8), .int p344319, .int p344320, .int p344321, .int p344322, .int p344323, .int p344324, .ref (γ 9 15), .ref (γ 9 16), .ref (γ 9 17), .ref (γ 9 18), .ref (γ 9 19), .ref (γ 9 20), .ref (γ 9 21), .ref (γ 9 22), .int p344325, .int p344326, .int p344327, .int p344328, .int p344329, .ref q344317, .ref (γ 9 29), .int p344330, .ref (γ 9 31), .int p344331, .int p344332, .int p344333, .ref q344318]) := (n365300 q344310 (rn_oa he365200 he365203)).trans he365200
                            have he365303 : F365298 (γ 9 16) = .inl (I .int, 2000, .inl f365294) := (n365300 (γ 9 16) (rn_ty ht344346 ht344349 (by decide))).trans he365293
                            have he365304 : F365298 (γ 9 19) = .inl (I .int, 2000, .inl f365301) := e365299
                            have mk365305 : mKp (F344309 q344310) (F365298 q344310) := mKp_tr x365196 (mKp_eq (n365300 q344310 (rn_ty htq344310 ht344349 (by decide))))
                            have hs365306 : rStr γ [1] F344309 F365298 := rStr_put hs365193 n365300 ht344349 (by decide)
                            have kp365307 : F365298 q344310 = F344309 q344310 := (n365300 q344310 (rn_ty htq344310 ht344349 (by decide))).trans x365195
                            have bf365301 : gF f365301 (-1) 1999 := gF_upd hf365301 bf365204 (gB_w bg365263' (by decide) (by decide))
                            refine G_aload_n 4 dr_cX17_share_127 rfl ?_
                            refine Gp_get 3 hm365201 he365302 dr_cX17_share_128 (gk_X17 D I) (Nat.le_of_ble_eq_true rfl) wr_7_77 rfl ?_
                            refine G_iload_n 2 dr_cX17_share_131 rfl ?_
                            have hT365308 : RS D I P344308 F365298 γ el := RS_set hT365192 n365300 ht344349 (by decide) ⟨f365301, he365304, bf365301⟩
                            have hm365309 : (γ 9 3) ∈ P344308 := RS_m hT365308 ht344339 (by decide)
                            obtain ⟨f365311, he365310, bf365311⟩ := show rk_14 I (F365298 (γ 9 3)) from RS_o hT365308 ht344339
                            refine Gp_zald 3 hm365309 he365310 dr_cX17_share_132 rfl (gB_in bg363880'' (by decide) (by decide)) (G_nam fun z365312 hz365312 => ?_)
                            have bz365312 : gB z365312 0 1 := by rw [hz365312]; exact bf365311 _
                            refine G_if_eq 145 dr_cX17_share_133 (by decide +kernel) (fun hc365313 => ?_) (fun hc365313 => ?_)
                            · have r365314 : z365312.toInt = 0 := gj_eq hc365313 (show Int32.toInt 0 = 0 by decide)
                              have bz365312' : gB z365312 0 0 := gB_t0 r365314
                              obtain ⟨z365315, hz365315⟩ : ∃ z : Int32, z = g363880 + Int32.ofInt 1 := ⟨_, rfl⟩
                              have ez365315 : z365315.toInt = g363880.toInt + 1 := gI_inc hz365315 (by decide) bg363880'' (by decide) (by decide)
                              have bz365315 : gB z365315 2 100 := ⟨by omega, by omega⟩
                              refine G_iinc (L' := [(3, .int z365315), (5, .int g365190), (4, .int g365263), (2, .int g363881), (0, .ref q344310), (1, .ref q344311)]) z365315 2 dr_cX17_share_145 rfl hz365315.symm (Nat.le_of_ble_eq_true rfl) rfl ?_
                              refine G_goto 10 dr_cX17_share_148 (by decide +kernel) ?_
                              refine G_lv (L' := [(3, .int z365315), (2, .int g363881), (0, .ref q344310), (1, .ref q344311)]) [0, 3, 4, 5] rfl ?_
                              exact ih10_363888 F365298 z365315 g363881 (gB_w bz365315 (by decide) (by decide)) bg363881 hT365308 hs365306 (by rw [ez365315]; rw [cB_of he365304]; exact sl_u hf365301 (by omega) (by omega) (by omega) cq365267) (by omega) kp365307 mk365305 (mz_up ez365315 (Int.le_trans bg363880''.2 (by decide)) hm10_363888)
                            · have r365316 : z365312.toInt ≠ 0 := gj_neq hc365313 (show Int32.toInt 0 = 0 by decide)
                              have bz365312' : gB z365312 1 1 := gB_t1 bz365312 r365316
                              refine G_iload_n 3 dr_cX17_share_136 rfl ?_
                              refine G_iload 1 dr_cX17_share_137 rfl ?_
                              refine G_iconst 1 dr_cX17_share_139 (by decide +kernel) ?_
                              refine G_iadd dr_cX17_share_140 (G_nam fun z365317 hz365317 => ?_)
                              have ez365317 : z365317.toInt = g365263.toInt + 1 := by rw [gI_add hz365317 bg365263' (gBl (show Int32.toInt 1 = 1 by decide)) (by decide) (by decide), show Int32.toInt 1 = 1 from by decide]
                              have bz365317 : gB z365317 1 99 := gB_add (gI_add hz365317 bg365263' (gBl (show Int32.toInt 1 = 1 by decide)) (by decide) (by decide)) bg365263' (gBl (show Int32.toInt 1 = 1 by decide)) (by decide) (by decide)
                              refine G_mmax dr_cX17_share_141 wr_11_21 wr_1_140 wr_1_6 wr_1_141 (Nat.le_of_ble_eq_true rfl) (Nat.le_of_ble_eq_true rfl) (show 0 ≤ 0 by first | omega | decide) (show 0 ≤ 0 by first | omega | decide) (G_nam fun z365318 hz365318 => ?_)
                              have ez365318 : g363881.toInt ≤ z365318.toInt ∧ z365317.toInt ≤ z365318.toInt ∧ (z365318.toInt = g363881.toInt ∨ z365318.toInt = z365317.toInt) := by have := gI_max hz365318; omega
                              have bz365318 : gB z365318 1 1999 := ⟨by omega, by omega⟩
                              have bz365318' : gB z365318 1 100 := ⟨by omega, by omega⟩
                              refine G_istore_n (L' := [(2, .int z365318), (5, .int g365190), (4, .int g365263), (3, .int g363880), (0, .ref q344310), (1, .ref q344311)]) dr_cX17_share_144 (Nat.le_of_ble_eq_true rfl) rfl ?_
                              obtain ⟨z365319, hz365319⟩ : ∃ z : Int32, z = g363880 + Int32.ofInt 1 := ⟨_, rfl⟩
                              have ez365319 : z365319.toInt = g363880.toInt + 1 := gI_inc hz365319 (by decide) bg363880'' (by decide) (by decide)
                              have bz365319 : gB z365319 2 100 := ⟨by omega, by omega⟩
                              refine G_iinc (L' := [(3, .int z365319), (2, .int z365318), (5, .int g365190), (4, .int g365263), (0, .ref q344310), (1, .ref q344311)]) z365319 3 dr_cX17_share_145 rfl hz365319.symm (Nat.le_of_ble_eq_true rfl) rfl ?_
                              refine G_goto 10 dr_cX17_share_148 (by decide +kernel) ?_
                              refine G_lv (L' := [(3, .int z365319), (2, .int z365318), (0, .ref q344310), (1, .ref q344311)]) [0, 1, 4, 5] rfl ?_
                              exact ih10_363888 F365298 z365319 z365318 (gB_w bz365319 (by decide) (by decide)) (gB_w bz365318' (by decide) (by decide)) hT365308 hs365306 (by rw [ez365319]; rw [cB_of he365304]; exact sl_u hf365301 (by omega) (by omega) (by omega) cq365267) (by omega) kp365307 mk365305 (mz_up ez365319 (Int.le_trans bg363880''.2 (by decide)) hm10_363888)
                          · have r365320 : z365295.toInt = 1 := gj_eq hc365296 (show Int32.toInt 1 = 1 by decide)
                            have bz365295' : gB z365295 1 1 := ⟨by omega, by omega⟩
                            obtain ⟨z365321, hz365321⟩ : ∃ z : Int32, z = g365263 + Int32.ofInt 1 := ⟨_, rfl⟩
                            have ez365321 : z365321.toInt = g365263.toInt + 1 := gI_inc hz365321 (by decide) bg365263' (by decide) (by decide)
                            have bz365321 : gB z365321 1 99 := ⟨by omega, by omega⟩
                            refine G_iinc (L' := [(4, .int z365321), (5, .int g365190), (3, .int g363880), (2, .int g363881), (0, .ref q344310), (1, .ref q344311)]) z365321 1 dr_cX17_share_113 rfl hz365321.symm (Nat.le_of_ble_eq_true rfl) rfl ?_
                            refine G_goto 96 dr_cX17_share_116 (by decide +kernel) ?_
                            refine G_lv (L' := [(5, .int g365190), (4, .int z365321), (3, .int g363880), (2, .int g363881), (0, .ref q344310), (1, .ref q344311)]) [1, 0, 2, 3, 4, 5] rfl ?_
                            exact ih96_365265 z365321 (gB_w bz365321 (by decide) (by decide)) (by rw [cB_of he365203]; exact cq365267) (by omega) (mz_up ez365321 (Int.le_trans bg365263'.2 (by decide)) hm96_365265)
                    exact hlp96_365265 (((100 : Int) - 0).toNat + 1) 0 (gB_w (gBl (show Int32.toInt 0 = 0 by decide)) (by decide) (by decide)) (by rw [cB_of he365203]; exact cq365205) (by have qa0 : Int32.toInt 0 = 0 := (by decide); omega) (Nat.lt_succ_self _)
                  · have r365322 : g365190.toInt < g363880.toInt := gC_nle hc365206
                    have bg365190' : gB g365190 0 98 := ⟨by omega, by omega⟩
                    have bg363880'' : gB g363880 1 99 := ⟨by omega, by omega⟩
                    refine G_aload_n 4 dr_cX17_share_53 rfl ?_
                    refine Gp_get 3 hm365201 he365200 dr_cX17_share_54 (gk_X17 D I) (Nat.le_of_ble_eq_true rfl) wr_7_77 rfl ?_
                    refine G_iload 0 dr_cX17_share_57 rfl ?_
                    have hm365323 : (γ 9 3) ∈ P344308 := RS_m hT365192 ht344339 (by decide)
                    obtain ⟨f365325, he365324, bf365325⟩ := show rk_14 I (F365191 (γ 9 3)) from RS_o hT365192 ht344339
                    refine Gp_zald 3 hm365323 he365324 dr_cX17_share_59 rfl (gB_in bg365190' (by decide) (by decide)) (G_nam fun z365326 hz365326 => ?_)
                    have bz365326 : gB z365326 0 1 := by rw [hz365326]; exact bf365325 _
                    refine G_if_eq 90 dr_cX17_share_60 (by decide +kernel) (fun hc365327 => ?_) (fun hc365327 => ?_)
                    · have r365328 : z365326.toInt = 0 := gj_eq hc365327 (show Int32.toInt 0 = 0 by decide)
                      have bz365326' : gB z365326 0 0 := gB_t0 r365328
                      obtain ⟨z365329, hz365329⟩ : ∃ z : Int32, z = g365190 + Int32.ofInt 1 := ⟨_, rfl⟩
                      have ez365329 : z365329.toInt = g365190.toInt + 1 := gI_inc hz365329 (by decide) bg365190' (by decide) (by decide)
                      have bz365329 : gB z365329 1 99 := ⟨by omega, by omega⟩
                      refine G_iinc (L' := [(5, .int z365329), (4, .int 0), (3, .int g363880), (2, .int g363881), (0, .ref q344310), (1, .ref q344311)]) z365329 0 dr_cX17_share_90 rfl hz365329.symm (Nat.le_of_ble_eq_true rfl) rfl ?_
                      refine G_goto 47 dr_cX17_share_93 (by decide +kernel) ?_
                      exact ih47_365196 F365191 z365329 (gB_w bz365329 (by decide) (by decide)) hT365192 hs365193 (by rw [cB_of he365203]; exact cq365205) x365195 x365196 (mz_up ez365329 (Int.le_trans bg365190'.2 (by decide)) hm47_365196)
                    · have r365330 : z365326.toInt ≠ 0 := gj_neq hc365327 (show Int32.toInt 0 = 0 by decide)
                      have bz365326' : gB z365326 1 1 := gB_t1 bz365326 r365330
                      refine G_aload_n 4 dr_cX17_share_63 rfl ?_
                      refine Gp_get 1 hm365201 he365200 dr_cX17_share_64 (gk_X17 D I) (Nat.le_of_ble_eq_true rfl) wr_7_75 rfl ?_
                      refine G_iload_n 2 dr_cX17_share_67 rfl ?_
                      have hm365331 : (γ 9 1) ∈ P344308 := RS_m hT365192 ht344337 (by decide)
                      obtain ⟨f365333, he365332, hg365334⟩ := show rk_13 I γ (F365191 (γ 9 1)) from RS_o hT365192 ht344337
                      obtain ⟨q365335, hx365337⟩ : ∃ x, x = γ 11 g363880.toInt.toNat := ⟨_, rfl⟩
                      have ht365336 : rKd γ q365335 36 := by rw [hx365337]; exact (hg365334 _ (show g363880.toInt.toNat < 2000 by omega)).2.1
                      refine Gp_aald 5 hm365331 he365332 dr_cX17_share_68 rfl rfl (gB_in bg363880'' (by decide) (by decide)) ?_
                      rw [show f365333 g363880.toNatClampNeg = some q365335 from (hg365334 _ (show g363880.toInt.toNat < 2000 by omega)).1.trans (by rw [hx365337])]
                      change G _ _ _ _ _ _ _ (.ref q365335 :: _) _ _ _
                      refine G_iload 0 dr_cX17_share_69 rfl ?_
                      have hm365338 : q365335 ∈ P344308 := RS_m hT365192 ht365336 (by decide)
                      obtain ⟨f365340, he365339, wf365340⟩ := show rk_36 I (F365191 q365335) from RS_o hT365192 ht365336
                      refine Gw_callS (As := [.ref q365335, .int g365190]) (gV_ok D I) (cp_1845_SpillForgeModel_has l hl0 D I P344308 F365191 q365335 g365190 f365340 hm365338 he365339 (gB_w bg365190' (by decide) (by decide))) dr_cX17_share_71 ⟨wr_10_203, wr_1_14, wr_10_205, by decide, rfl, (Nat.le_of_ble_eq_true rfl), (Nat.le_of_ble_eq_true rfl)⟩ wr_10_204 (show 0 + 0 ≤ 0 by first | omega | decide) (show 0 + 0 ≤ 0 by first | omega | decide) (Nat.le_of_ble_eq_true rfl) (fun r365344 w365345 dc365341 ds365342 hp365343 => ?_) (fun _ _ _ _ _ z => z.elim)
                      rcases hp365343 with ⟨z365346, z365347, rfl, rfl, hdc, hds, r365348, r365349, r365350, r365351, r365352⟩ | ⟨z365353, z365354, rfl, rfl, hdc, hds, r365355, r365356, r365357, r365358, r365359⟩
                      · change G _ _ _ _ _ _ _ (.int 0 :: _) _ _ _
                        refine G_widen (cs' := 0) (sl' := 0) (by omega) (by omega) ?_
                        refine G_if_eq 90 dr_cX17_share_74 (by decide +kernel) (fun _ => ?_) (fun hc => absurd hc (by decide))
                        obtain ⟨z365361, hz365361⟩ : ∃ z : Int32, z = g365190 + Int32.ofInt 1 := ⟨_, rfl⟩
                        have ez365361 : z365361.toInt = g365190.toInt + 1 := gI_inc hz365361 (by decide) bg365190' (by decide) (by decide)
                        have bz365361 : gB z365361 1 99 := ⟨by omega, by omega⟩
                        refine G_iinc (L' := [(5, .int z365361), (4, .int 0), (3, .int g363880), (2, .int g363881), (0, .ref q344310), (1, .ref q344311)]) z365361 0 dr_cX17_share_90 rfl hz365361.symm (Nat.le_of_ble_eq_true rfl) rfl ?_
                        refine G_goto 47 dr_cX17_share_93 (by decide +kernel) ?_
                        exact ih47_365196 F365191 z365361 (gB_w bz365361 (by decide) (by decide)) hT365192 hs365193 (by rw [cB_of he365203]; exact cq365205) x365195 x365196 (mz_up ez365361 (Int.le_trans bg365190'.2 (by decide)) hm47_365196)
                      · change G _ _ _ _ _ _ _ (.int 1 :: _) _ _ _
                        refine G_widen (cs' := 0) (sl' := 0) (by omega) (by omega) ?_
                        refine G_if_eq 90 dr_cX17_share_74 (by decide +kernel) (fun hc => absurd hc (by decide)) (fun _ => ?_)
                        refine G_aload_n 4 dr_cX17_share_77 rfl ?_
                        refine Gp_get 16 hm365201 he365200 dr_cX17_share_78 (gk_X17 D I) (Nat.le_of_ble_eq_true rfl) wr_7_90 rfl ?_
                        refine G_aload_n 4 dr_cX17_share_81 rfl ?_
                        refine Gp_get 19 hm365201 he365200 dr_cX17_share_82 (gk_X17 D I) (Nat.le_of_ble_eq_true rfl) wr_7_93 rfl ?_
                        refine G_iload 0 dr_cX17_share_85 rfl ?_
                        refine Gp_iald 0 hm365202 he365203 dr_cX17_share_87 rfl (gB_in bg365190' (by decide) (by decide)) (G_nam fun z365362 hz365362 => ?_)
                        have bz365362 : gB z365362 (-1) 1999 := by rw [hz365362]; exact bf365204 _
                        have r365363 : 0 ≤ z365362.toInt := by rw [hz365362]; exact (cq365205 g365190.toInt.toNat (by omega)).1
                        have bz365362' : gB z365362 0 1999 := ⟨by omega, by omega⟩
                        refine G_iconst 1 dr_cX17_share_88 (by decide +kernel) ?_
                        have hm365364 : (γ 9 16) ∈ P344308 := RS_m hT365192 ht344346 (by decide)
                        obtain ⟨f365366, he365365⟩ := show rk_19 I (F365191 (γ 9 16)) from RS_o hT365192 ht344346
                        refine Gp_iast 0 hm365364 he365365 dr_cX17_share_89 rfl (gB_in bz365362' (by decide) (by decide)) (fun F365367 e365368 n365369 => ?_)
                        obtain ⟨f365370, hf365370⟩ : ∃ z, z = upd f365366 z365362.toNatClampNeg 1 := ⟨_, rfl⟩
                        rw [← hf365370] at e365368
                        have he365371 : F365367 q344310 = .inr (22, [.ref (γ 9 0), .ref (γ 9 1), .ref (γ 9 2), .ref (γ 9 3), .ref (γ 9 4), .ref (γ 9 5), .ref (γ 9 6), .ref (γ 9 7), .ref (γ 9 8), .int p344319, .int p344320, .int p344321, .int p344322, .int p344323, .int p344324, .ref (γ 9 15), .ref (γ 9 16), .ref (γ 9 17), .ref (γ 9 18), .ref (γ 9 19), .ref (γ 9 20), .ref (γ 9 21), .ref (γ 9 22), .int p344325, .int p344326, .int p344327, .int p344328, .int p344329, .ref q344317, .ref (γ 9 29), .int p344330, .ref (γ 9 31), .int p344331, .int p344332, .int p344333, .ref q344318]) := (n365369 q344310 (rn_oa he365200 he365365)).trans he365200
                        have he365372 : F365367 (γ 9 19) = .inl (I .int, 2000, .inl f365204) := (n365369 (γ 9 19) (rn_ty ht344349 ht344346 (by decide))).trans he365203
                        have he365373 : F365367 (γ 9 3) = .inl (I .boolean, 2000, .inl f365325) := (n365369 (γ 9 3) (rn_ty ht344339 ht344346 (by decide))).trans he365324
                        have he365374 : F365367 (γ 9 1) = .inl (I (.array .long), 2000, .inr (.inr (.inr (.inr f365333)))) := (n365369 (γ 9 1) (rn_ref_num he365332 he365365)).trans he365332
                        have he365375 : F365367 q365335 = .inl (I .long, 32, .inr (.inl f365340)) := (n365369 q365335 (rn_long_num he365339 he365365)).trans he365339
                        have he365376 : F365367 (γ 9 16) = .inl (I .int, 2000, .inl f365370) := e365368
                        have mk365377 : mKp (F344309 q344310) (F365367 q344310) := mKp_tr x365196 (mKp_eq (n365369 q344310 (rn_ty htq344310 ht344346 (by decide))))
                        have hs365378 : rStr γ [1] F344309 F365367 := rStr_put hs365193 n365369 ht344346 (by decide)
                        have kp365379 : F365367 q344310 = F344309 q344310 := (n365369 q344310 (rn_ty htq344310 ht344346 (by decide))).trans x365195
                        obtain ⟨z365380, hz365380⟩ : ∃ z : Int32, z = g365190 + Int32.ofInt 1 := ⟨_, rfl⟩
                        have ez365380 : z365380.toInt = g365190.toInt + 1 := gI_inc hz365380 (by decide) bg365190' (by decide) (by decide)
                        have bz365380 : gB z365380 1 99 := ⟨by omega, by omega⟩
                        refine G_iinc (L' := [(5, .int z365380), (4, .int 0), (3, .int g363880), (2, .int g363881), (0, .ref q344310), (1, .ref q344311)]) z365380 0 dr_cX17_share_90 rfl hz365380.symm (Nat.le_of_ble_eq_true rfl) rfl ?_
                        refine G_goto 47 dr_cX17_share_93 (by decide +kernel) ?_
                        have hT365381 : RS D I P344308 F365367 γ el := RS_set hT365192 n365369 ht344346 (by decide) ⟨f365370, he365376⟩
                        exact ih47_365196 F365367 z365380 (gB_w bz365380 (by decide) (by decide)) hT365381 hs365378 (by rw [cB_of he365372]; exact cq365205) kp365379 mk365377 (mz_up ez365380 (Int.le_trans bg365190'.2 (by decide)) hm47_365196)
              exact hlp47_365196 (((100 : Int) - 0).toNat + 1) F364987 0 (gB_w (gBl (show Int32.toInt 0 = 0 by decide)) (by decide) (by decide)) hT364988 hs364989 (by rw [cB_of he364999]; exact cq365001) x364991 x364992 (Nat.lt_succ_self _)
            · have r365382 : g364986.toInt < g363880.toInt := gC_nle hc365002
              have bg364986' : gB g364986 0 98 := ⟨by omega, by omega⟩
              have bg363880'' : gB g363880 1 99 := ⟨by omega, by omega⟩
              refine G_aload_n 4 dr_cX17_share_30 rfl ?_
              refine Gp_get 16 hm364997 he364996 dr_cX17_share_31 (gk_X17 D I) (Nat.le_of_ble_eq_true rfl) wr_7_90 rfl ?_
              refine G_iload 0 dr_cX17_share_34 rfl ?_
              refine G_iconst 0 dr_cX17_share_36 (by decide +kernel) ?_
              have hm365383 : (γ 9 16) ∈ P344308 := RS_m hT364988 ht344346 (by decide)
              obtain ⟨f365385, he365384⟩ := show rk_19 I (F364987 (γ 9 16)) from RS_o hT364988 ht344346
              refine Gp_iast 0 hm365383 he365384 dr_cX17_share_37 rfl (gB_in bg364986' (by decide) (by decide)) (fun F365386 e365387 n365388 => ?_)
              obtain ⟨f365389, hf365389⟩ : ∃ z, z = upd f365385 g364986.toNatClampNeg 0 := ⟨_, rfl⟩
              rw [← hf365389] at e365387
              have he365390 : F365386 q344310 = .inr (22, [.ref (γ 9 0), .ref (γ 9 1), .ref (γ 9 2), .ref (γ 9 3), .ref (γ 9 4), .ref (γ 9 5), .ref (γ 9 6), .ref (γ 9 7), .ref (γ 9 8), .int p344319, .int p344320, .int p344321, .int p344322, .int p344323, .int p344324, .ref (γ 9 15), .ref (γ 9 16), .ref (γ 9 17), .ref (γ 9 18), .ref (γ 9 19), .ref (γ 9 20), .ref (γ 9 21), .ref (γ 9 22), .int p344325, .int p344326, .int p344327, .int p344328, .int p344329, .ref q344317, .ref (γ 9 29), .int p344330, .ref (γ 9 31), .int p344331, .int p344332, .int p344333, .ref q344318]) := (n365388 q344310 (rn_oa he364996 he365384)).trans he364996
              have he365391 : F365386 (γ 9 19) = .inl (I .int, 2000, .inl f365000) := (n365388 (γ 9 19) (rn_ty ht344349 ht344346 (by decide))).trans he364999
              have he365392 : F365386 (γ 9 16) = .inl (I .int, 2000, .inl f365389) := e365387
              have mk365393 : mKp (F344309 q344310) (F365386 q344310) := mKp_tr x364992 (mKp_eq (n365388 q344310 (rn_ty htq344310 ht344346 (by decide))))
              have hs365394 : rStr γ [1] F344309 F365386 := rStr_put hs364989 n365388 ht344346 (by decide)
              have kp365395 : F365386 q344310 = F344309 q344310 := (n365388 q344310 (rn_ty htq344310 ht344346 (by decide))).trans x364991
              obtain ⟨z365396, hz365396⟩ : ∃ z : Int32, z = g364986 + Int32.ofInt 1 := ⟨_, rfl⟩
              have ez365396 : z365396.toInt = g364986.toInt + 1 := gI_inc hz365396 (by decide) bg364986' (by decide) (by decide)
              have bz365396 : gB z365396 1 99 := ⟨by omega, by omega⟩
              refine G_iinc (L' := [(5, .int z365396), (4, .int 0), (3, .int g363880), (2, .int g363881), (0, .ref q344310), (1, .ref q344311)]) z365396 0 dr_cX17_share_38 rfl hz365396.symm (Nat.le_of_ble_eq_true rfl) rfl ?_
              refine G_goto 24 dr_cX17_share_41 (by decide +kernel) ?_
              have hT365397 : RS D I P344308 F365386 γ el := RS_set hT364988 n365388 ht344346 (by decide) ⟨f365389, he365392⟩
              exact ih24_364992 F365386 z365396 (gB_w bz365396 (by decide) (by decide)) hT365397 hs365394 (by rw [cB_of he365391]; exact cq365001) kp365395 mk365393 (mz_up ez365396 (Int.le_trans bg364986'.2 (by decide)) hm24_364992)
        exact hlp24_364992 (((2000 : Int) - 0).toNat + 1) F363882 0 (gB_w (gBl (show Int32.toInt 0 = 0 by decide)) (by decide) (by decide)) hT363883 hs363884 (by rw [cB_of he363895]; exact cq363897) x363887 x363888 (Nat.lt_succ_self _)
  exact hlp10_363888 (((101 : Int) - 0).toNat + 1) F344374 0 0 (gB_w (gBl (show Int32.toInt 0 = 0 by decide)) (by decide) (by decide)) (gB_w (gBl (show Int32.toInt 0 = 0 by decide)) (by decide) (by decide)) hT344375 hs344377 (fun q hq => absurd hq (by have qa : Int32.toInt 0 = 0 := (by decide); omega)) (by have qa0 : Int32.toInt 0 = 0 := (by decide); omega) kp344378 mk344379 (Nat.lt_succ_self _)
/- tl_RModel_zeros_10: P, F, gm, el, l3, l2; out: F, P, gm, el -/
def tl_RModel_zeros_10 (D : va_G) (I : FieldType → ClassId) (γ0 el0 : Nat → Nat → Nat) (f : Nat) (P : List Nat) (F : Nat → va_E) (q1 : Nat) (q0 : Nat) (s1 : List Nat) (s2 : Nat → va_E) (s3 : Nat → Nat → Nat) (s4 : Nat → Nat → Nat) (s5 : Int32) (s6 : Int32) (k : Nat) (e1 : Nat → va_E) (e2 : List Nat) (e3 : Nat → Nat → Nat) (e4 : Nat → Nat → Nat) : Prop := ∀ R : (List Nat) → (Nat → va_E) → (Nat → Nat → Nat) → (Nat → Nat → Nat) → (Int32) → (Int32) → Nat → (Nat → va_E) → (List Nat) → (Nat → Nat → Nat) → (Nat → Nat → Nat) → Prop,
  (∀ (P_1 : List Nat) (F_1 : Nat → va_E) (gm_1 : Nat → Nat → Nat) (el_1 : Nat → Nat → Nat) (l3_1 : Int32) (l2_1 : Int32), gB l3_1 0 2000 → gB l2_1 0 2000 → RS D I P_1 F_1 gm_1 el_1 → rSk f [101] ([1, 3, 5, 6, 8, 9, 101] ++ npk) D I P F γ0 el0 P_1 F_1 gm_1 el_1 → gm_1 6 f = γ0 6 f → gm_1 7 f = γ0 7 f → gm_1 18 f = γ0 18 f → gm_1 16 f ≤ γ0 16 f + (l2_1.toInt : Int).toNat → l2_1.toInt ≤ l3_1.toInt → (l2_1.toInt : Int) ≤ gm_1 2 (gm_1 14 (el_1 (gm_1 14 q1) (0 : Int32).toInt.toNat)) → (F_1 q0 = F q0) → 2000 ≤ l3_1.toInt → R P_1 F_1 gm_1 el_1 l3_1 l2_1 74 F_1 P_1 gm_1 el_1) →
  (∀ (P_1 : List Nat) (F_1 : Nat → va_E) (gm_1 : Nat → Nat → Nat) (el_1 : Nat → Nat → Nat) (l3_1 : Int32) (l2_1 : Int32) (x1 : Nat) (x2 : Nat → Int64) (x3 : Int32) (k : Nat) (e1 : Nat → va_E) (e2 : List Nat) (e3 : Nat → Nat → Nat) (e4 : Nat → Nat → Nat), gB l3_1 0 2000 → gB l2_1 0 2000 → RS D I P_1 F_1 gm_1 el_1 → rSk f [101] ([1, 3, 5, 6, 8, 9, 101] ++ npk) D I P F γ0 el0 P_1 F_1 gm_1 el_1 → gm_1 6 f = γ0 6 f → gm_1 7 f = γ0 7 f → gm_1 18 f = γ0 18 f → gm_1 16 f ≤ γ0 16 f + (l2_1.toInt : Int).toNat → l2_1.toInt ≤ l3_1.toInt → (l2_1.toInt : Int) ≤ gm_1 2 (gm_1 14 (el_1 (gm_1 14 q1) (0 : Int32).toInt.toNat)) → (F_1 q0 = F q0) → l3_1.toInt < 2000 → fR (F_1 q0) 0 = (gm_1 9 0) → x1 = gm_1 10 (0 : Int32).toInt.toNat → F_1 x1 = .inl (I .long, 32, .inr (.inl x2)) → tr_RModel_has l3_1 x2 (0 : Int32) → x3.toInt = l3_1.toInt + 1 → R P_1 F_1 gm_1 el_1 x3 l2_1 k e1 e2 e3 e4 → R P_1 F_1 gm_1 el_1 l3_1 l2_1 k e1 e2 e3 e4) →
  (∀ (P_1 : List Nat) (F_1 : Nat → va_E) (gm_1 : Nat → Nat → Nat) (el_1 : Nat → Nat → Nat) (l3_1 : Int32) (l2_1 : Int32) (x1 : Nat) (x2 : Nat → Int64) (x3 : Nat) (x4 : Nat) (x5 : List Nat) (x6 : Nat → va_E) (x7 : Nat → Nat → Nat) (x8 : Nat → Nat → Nat) (x9 : Nat) (x10 : Nat) (x11 : Nat) (x12 : Nat → va_E) (x13 : Nat → va_E) (x14 : Nat) (x15 : Nat) (x16 : Int32) (x17 : Nat) (x18 : List Nat) (x19 : Nat → va_E) (x20 : Nat → Nat → Nat) (x21 : Nat → Nat → Nat) (x22 : Nat) (x23 : Nat) (x24 : Int32) (x25 : Int32) (k : Nat) (e1 : Nat → va_E) (e2 : List Nat) (e3 : Nat → Nat → Nat) (e4 : Nat → Nat → Nat), gB l3_1 0 2000 → gB l2_1 0 2000 → RS D I P_1 F_1 gm_1 el_1 → rSk f [101] ([1, 3, 5, 6, 8, 9, 101] ++ npk) D I P F γ0 el0 P_1 F_1 gm_1 el_1 → gm_1 6 f = γ0 6 f → gm_1 7 f = γ0 7 f → gm_1 18 f = γ0 18 f → gm_1 16 f ≤ γ0 16 f + (l2_1.toInt : Int).toNat → l2_1.toInt ≤ l3_1.toInt → (l2_1.toInt : Int) ≤ gm_1 2 (gm_1 14 (el_1 (gm_1 14 q1) (0 : Int32).toInt.toNat)) → (F_1 q0 = F q0) → l3_1.toInt < 2000 → fR (F_1 q0) 0 = (gm_1 9 0) → x1 = gm_1 10 (0 : Int32).toInt.toNat → F_1 x1 = .inl (I .long, 32, .inr (.inl x2)) → tr_RModel_has l3_1 x2 (1 : Int32) → fR (F_1 q1) 0 = x3 → x4 = el_1 x3 (0 : Int32).toInt.toNat → rRq D I P_1 F_1 gm_1 el_1 f q1 x5 x6 x7 x8 x9 x10 x11 → (∀ b, b ≠ x9 → x12 b = x6 b) → x12 x9 = cF (x6 x9) 0 (.int 0) → (∀ b, b ≠ x9 → x13 b = x12 b) → x13 x9 = cF (x12 x9) 1 (.int l3_1) → fR (x13 q1) 0 = x14 → x15 = x8 x14 (0 : Int32).toInt.toNat → fI (x13 x14) 2 = x16 → tr_RCode_get (0 : Int32) x16 → fR (x13 x15) 0 = x17 → rIq D I x5 x13 x7 x8 f x17 l2_1.toInt.toNat x9 x18 x19 x20 x21 x22 x23 → x24.toInt = l2_1.toInt + 1 → x25.toInt = l3_1.toInt + 1 → R x18 x19 x20 x21 x25 x24 k e1 e2 e3 e4 → R P_1 F_1 gm_1 el_1 l3_1 l2_1 k e1 e2 e3 e4) →
  R s1 s2 s3 s4 s5 s6 k e1 e2 e3 e4
/- tr_RModel_zeros: P, F, gm, el -/
def tr_RModel_zeros (D : va_G) (I : FieldType → ClassId) (γ0 el0 : Nat → Nat → Nat) (f : Nat) (P : List Nat) (F : Nat → va_E) (q0 : Nat) (q1 : Nat) (o1 : List Nat) (o2 : Nat → va_E) (o3 : Nat → Nat → Nat) (o4 : Nat → Nat → Nat) : Prop := ∀ R : (List Nat) → (Nat → va_E) → (Nat → Nat → Nat) → (Nat → Nat → Nat) → Prop,
  (∀ (x1 : Nat → Nat → Nat) (x2 : Nat → Nat → Nat) (x3 : Nat → va_E) (x4 : Nat → va_E) (x5 : List Nat) (x6 : Nat → Nat → Nat) (x7 : Nat → Nat → Nat), x1 = γ0 → x2 = el0 → RS D I P x3 x1 x2 → rStr x1 [] F x3 → (x3 q0 = F q0) → tr_RModel_findLive D I x1 x2 P F q0 q1 (0 : Int32) x3 → tl_RModel_zeros_10 D I γ0 el0 f P F q1 q0 P x3 x1 x2 (0 : Int32) (0 : Int32) 74 x4 x5 x6 x7 → R x5 x4 x6 x7) →
  R o1 o2 o3 o4
