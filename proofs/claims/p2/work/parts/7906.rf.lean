theorem dr_cX17_coloured_0 : decode cX17_coloured 0 = .ok (.aload_n 1, 1) := by decide +kernel
theorem dr_cX17_coloured_1 : decode cX17_coloured 1 = .ok (.invokevirtual 70, 3) := by decide +kernel
theorem dr_cX17_coloured_4 : decode cX17_coloured 4 = .ok (.ifCond .eq 16, 3) := by decide +kernel
theorem dr_cX17_coloured_20 : decode cX17_coloured 20 = .ok (.aload_n 1, 1) := by decide +kernel
theorem dr_cX17_coloured_21 : decode cX17_coloured 21 = .ok (.invokevirtual 76, 3) := by decide +kernel
theorem dr_cX17_coloured_24 : decode cX17_coloured 24 = .ok (.ifCond .eq 16, 3) := by decide +kernel
theorem dr_cX17_coloured_40 : decode cX17_coloured 40 = .ok (.aload_n 1, 1) := by decide +kernel
theorem dr_cX17_coloured_41 : decode cX17_coloured 41 = .ok (.invokevirtual 48, 3) := by decide +kernel
theorem dr_cX17_coloured_44 : decode cX17_coloured 44 = .ok (.ifCond .eq 16, 3) := by decide +kernel
theorem dr_cX17_coloured_60 : decode cX17_coloured 60 = .ok (.return_, 1) := by decide +kernel
theorem dr_cX17_coloured_47 : decode cX17_coloured 47 = .ok (.aload_n 1, 1) := by decide +kernel
theorem dr_cX17_coloured_48 : decode cX17_coloured 48 = .ok (.aload_n 0, 1) := by decide +kernel
theorem dr_cX17_coloured_49 : decode cX17_coloured 49 = .ok (.getfield 212, 3) := by decide +kernel
theorem dr_cX17_coloured_52 : decode cX17_coloured 52 = .ok (.aload_n 1, 1) := by decide +kernel
theorem dr_cX17_coloured_53 : decode cX17_coloured 53 = .ok (.getfield 52, 3) := by decide +kernel
theorem dr_cX17_coloured_56 : decode cX17_coloured 56 = .ok (.iaload, 1) := by decide +kernel
theorem dr_cX17_coloured_57 : decode cX17_coloured 57 = .ok (.putfield 52, 3) := by decide +kernel
theorem dr_cX17_coloured_27 : decode cX17_coloured 27 = .ok (.aload_n 1, 1) := by decide +kernel
theorem dr_cX17_coloured_28 : decode cX17_coloured 28 = .ok (.aload_n 0, 1) := by decide +kernel
theorem dr_cX17_coloured_29 : decode cX17_coloured 29 = .ok (.getfield 212, 3) := by decide +kernel
theorem dr_cX17_coloured_32 : decode cX17_coloured 32 = .ok (.aload_n 1, 1) := by decide +kernel
theorem dr_cX17_coloured_33 : decode cX17_coloured 33 = .ok (.getfield 79, 3) := by decide +kernel
theorem dr_cX17_coloured_36 : decode cX17_coloured 36 = .ok (.iaload, 1) := by decide +kernel
theorem dr_cX17_coloured_37 : decode cX17_coloured 37 = .ok (.putfield 79, 3) := by decide +kernel
theorem dr_cX17_coloured_7 : decode cX17_coloured 7 = .ok (.aload_n 1, 1) := by decide +kernel
theorem dr_cX17_coloured_8 : decode cX17_coloured 8 = .ok (.aload_n 0, 1) := by decide +kernel
theorem dr_cX17_coloured_9 : decode cX17_coloured 9 = .ok (.getfield 212, 3) := by decide +kernel
theorem dr_cX17_coloured_12 : decode cX17_coloured 12 = .ok (.aload_n 1, 1) := by decide +kernel
theorem dr_cX17_coloured_13 : decode cX17_coloured 13 = .ok (.getfield 73, 3) := by decide +kernel
theorem dr_cX17_coloured_16 : decode cX17_coloured 16 = .ok (.iaload, 1) := by decide +kernel
theorem dr_cX17_coloured_17 : decode cX17_coloured 17 = .ok (.putfield 73, 3) := by decide +kernel
theorem dr_cX17_share_0 : decode cX17_share 0 = .ok (.aload_n 0, 1) := by decide +kernel
theorem dr_cX17_share_1 : decode cX17_share 1 = .ok (.aload_n 1, 1) := by decide +kernel
theorem dr_cX17_share_2 : decode cX17_share 2 = .ok (.iconst 1, 1) := by decide +kernel
theorem dr_cX17_share_3 : decode cX17_share 3 = .ok (.invokevirtual 243, 3) := by decide +kernel
theorem wr_10_233 : (Jvm.Cond.methodLink "SpillForgeModel" (243 : Nat) ({ cls := "SpillForgeModel", name := "graph", desc := "(LSpillForgeModel$Code;Z)V" } : Jvm.MethodName)) ∈ gw := gw_10 233 rfl rfl
theorem wr_10_236 : (Jvm.Cond.code ({ cls := "SpillForgeModel", name := "graph", desc := "(LSpillForgeModel$Code;Z)V" } : Jvm.MethodName) prog_14_method_10_code (11 : Nat) (Option.none : Option Jvm.ClassFile.FieldType)) ∈ gw := gw_10 236 rfl rfl
theorem wr_10_235 : (Jvm.Cond.instanceMethod ({ cls := "SpillForgeModel", name := "graph", desc := "(LSpillForgeModel$Code;Z)V" } : Jvm.MethodName)) ∈ gw := gw_10 235 rfl rfl
theorem wr_p_99 : Cond.selects "SpillForgeModel" ⟨"SpillForgeModel", "graph", "(LSpillForgeModel$Code;Z)V"⟩ ⟨"SpillForgeModel", "graph", "(LSpillForgeModel$Code;Z)V"⟩ ∈ gw := gw_p _ 99 rfl rfl rfl
theorem dr_cX17_share_6 : decode cX17_share 6 = .ok (.iconst 0, 1) := by decide +kernel
theorem dr_cX17_share_7 : decode cX17_share 7 = .ok (.istore_n 2, 1) := by decide +kernel
theorem dr_cX17_share_8 : decode cX17_share 8 = .ok (.iconst 0, 1) := by decide +kernel
theorem dr_cX17_share_9 : decode cX17_share 9 = .ok (.istore_n 3, 1) := by decide +kernel
theorem dr_cX17_share_10 : decode cX17_share 10 = .ok (.iload_n 3, 1) := by decide +kernel
theorem dr_cX17_share_11 : decode cX17_share 11 = .ok (.aload_n 0, 1) := by decide +kernel
theorem dr_cX17_share_12 : decode cX17_share 12 = .ok (.getfield 224, 3) := by decide +kernel
theorem wr_7_85 : (Jvm.Cond.fieldLink "SpillForgeModel" (224 : Nat) "SpillForgeModel" "slots" "I") ∈ gw := gw_7 85 rfl rfl
theorem dr_cX17_share_15 : decode cX17_share 15 = .ok (.if_icmp .ge 136, 3) := by decide +kernel
theorem dr_cX17_share_151 : decode cX17_share 151 = .ok (.iconst 0, 1) := by decide +kernel
theorem dr_cX17_share_152 : decode cX17_share 152 = .ok (.istore_n 3, 1) := by decide +kernel
theorem dr_cX17_share_153 : decode cX17_share 153 = .ok (.iload_n 3, 1) := by decide +kernel
theorem dr_cX17_share_154 : decode cX17_share 154 = .ok (.aload_n 1, 1) := by decide +kernel
theorem dr_cX17_share_155 : decode cX17_share 155 = .ok (.invokevirtual 96, 3) := by decide +kernel
theorem dr_cX17_share_158 : decode cX17_share 158 = .ok (.if_icmp .ge 88, 3) := by decide +kernel
theorem dr_cX17_share_246 : decode cX17_share 246 = .ok (.aload_n 0, 1) := by decide +kernel
theorem dr_cX17_share_247 : decode cX17_share 247 = .ok (.iload_n 2, 1) := by decide +kernel
theorem dr_cX17_share_248 : decode cX17_share 248 = .ok (.putfield 224, 3) := by decide +kernel
theorem dr_cX17_share_251 : decode cX17_share 251 = .ok (.return_, 1) := by decide +kernel
theorem dr_cX17_share_161 : decode cX17_share 161 = .ok (.aload_n 1, 1) := by decide +kernel
theorem dr_cX17_share_162 : decode cX17_share 162 = .ok (.iload_n 3, 1) := by decide +kernel
theorem dr_cX17_share_163 : decode cX17_share 163 = .ok (.invokevirtual 101, 3) := by decide +kernel
theorem dr_cX17_share_166 : decode cX17_share 166 = .ok (.astore 4, 2) := by decide +kernel
theorem dr_cX17_share_168 : decode cX17_share 168 = .ok (.iconst 0, 1) := by decide +kernel
theorem dr_cX17_share_169 : decode cX17_share 169 = .ok (.istore 5, 2) := by decide +kernel
theorem dr_cX17_share_171 : decode cX17_share 171 = .ok (.iload 5, 2) := by decide +kernel
theorem dr_cX17_share_173 : decode cX17_share 173 = .ok (.aload 4, 2) := by decide +kernel
theorem dr_cX17_share_175 : decode cX17_share 175 = .ok (.getfield 117, 3) := by decide +kernel
theorem dr_cX17_share_178 : decode cX17_share 178 = .ok (.invokevirtual 121, 3) := by decide +kernel
theorem dr_cX17_share_181 : decode cX17_share 181 = .ok (.if_icmp .ge 59, 3) := by decide +kernel
theorem dr_cX17_share_240 : decode cX17_share 240 = .ok (.iinc 3 1, 3) := by decide +kernel
theorem dr_cX17_share_243 : decode cX17_share 243 = .ok (.goto (-90), 3) := by decide +kernel
theorem dr_cX17_share_184 : decode cX17_share 184 = .ok (.aload 4, 2) := by decide +kernel
theorem dr_cX17_share_186 : decode cX17_share 186 = .ok (.getfield 117, 3) := by decide +kernel
theorem dr_cX17_share_189 : decode cX17_share 189 = .ok (.iload 5, 2) := by decide +kernel
theorem dr_cX17_share_191 : decode cX17_share 191 = .ok (.invokevirtual 124, 3) := by decide +kernel
theorem dr_cX17_share_194 : decode cX17_share 194 = .ok (.checkcast 40, 3) := by decide +kernel
theorem dr_cX17_share_197 : decode cX17_share 197 = .ok (.astore 6, 2) := by decide +kernel
theorem dr_cX17_share_199 : decode cX17_share 199 = .ok (.aload 6, 2) := by decide +kernel
theorem dr_cX17_share_201 : decode cX17_share 201 = .ok (.getfield 39, 3) := by decide +kernel
theorem dr_cX17_share_204 : decode cX17_share 204 = .ok (.bipush 21, 2) := by decide +kernel
theorem dr_cX17_share_206 : decode cX17_share 206 = .ok (.if_icmp .eq 13, 3) := by decide +kernel
theorem dr_cX17_share_219 : decode cX17_share 219 = .ok (.aload 6, 2) := by decide +kernel
theorem dr_cX17_share_221 : decode cX17_share 221 = .ok (.aload_n 0, 1) := by decide +kernel
theorem dr_cX17_share_222 : decode cX17_share 222 = .ok (.getfield 221, 3) := by decide +kernel
theorem wr_7_93 : (Jvm.Cond.fieldLink "SpillForgeModel" (221 : Nat) "SpillForgeModel" "slotOf" "[I") ∈ gw := gw_7 93 rfl rfl
theorem dr_cX17_share_225 : decode cX17_share 225 = .ok (.aload 6, 2) := by decide +kernel
theorem dr_cX17_share_227 : decode cX17_share 227 = .ok (.getfield 45, 3) := by decide +kernel
theorem dr_cX17_share_230 : decode cX17_share 230 = .ok (.iaload, 1) := by decide +kernel
theorem dr_cX17_share_231 : decode cX17_share 231 = .ok (.putfield 45, 3) := by decide +kernel
theorem dr_cX17_share_234 : decode cX17_share 234 = .ok (.iinc 5 1, 3) := by decide +kernel
theorem dr_cX17_share_237 : decode cX17_share 237 = .ok (.goto (-66), 3) := by decide +kernel
theorem dr_cX17_share_209 : decode cX17_share 209 = .ok (.aload 6, 2) := by decide +kernel
theorem dr_cX17_share_211 : decode cX17_share 211 = .ok (.getfield 39, 3) := by decide +kernel
theorem dr_cX17_share_214 : decode cX17_share 214 = .ok (.bipush 23, 2) := by decide +kernel
theorem dr_cX17_share_216 : decode cX17_share 216 = .ok (.if_icmp .ne 18, 3) := by decide +kernel
theorem dr_cX17_share_18 : decode cX17_share 18 = .ok (.iconst 0, 1) := by decide +kernel
theorem dr_cX17_share_19 : decode cX17_share 19 = .ok (.istore 4, 2) := by decide +kernel
theorem dr_cX17_share_21 : decode cX17_share 21 = .ok (.iconst 0, 1) := by decide +kernel
theorem dr_cX17_share_22 : decode cX17_share 22 = .ok (.istore 5, 2) := by decide +kernel
theorem dr_cX17_share_24 : decode cX17_share 24 = .ok (.iload 5, 2) := by decide +kernel
theorem dr_cX17_share_26 : decode cX17_share 26 = .ok (.iload_n 3, 1) := by decide +kernel
theorem dr_cX17_share_27 : decode cX17_share 27 = .ok (.if_icmp .ge 17, 3) := by decide +kernel
theorem dr_cX17_share_44 : decode cX17_share 44 = .ok (.iconst 0, 1) := by decide +kernel
theorem dr_cX17_share_45 : decode cX17_share 45 = .ok (.istore 5, 2) := by decide +kernel
theorem dr_cX17_share_47 : decode cX17_share 47 = .ok (.iload 5, 2) := by decide +kernel
theorem dr_cX17_share_49 : decode cX17_share 49 = .ok (.iload_n 3, 1) := by decide +kernel
theorem dr_cX17_share_50 : decode cX17_share 50 = .ok (.if_icmp .ge 46, 3) := by decide +kernel
theorem dr_cX17_share_96 : decode cX17_share 96 = .ok (.iload 4, 2) := by decide +kernel
theorem dr_cX17_share_98 : decode cX17_share 98 = .ok (.iload_n 3, 1) := by decide +kernel
theorem dr_cX17_share_99 : decode cX17_share 99 = .ok (.if_icmp .ge 20, 3) := by decide +kernel
theorem dr_cX17_share_119 : decode cX17_share 119 = .ok (.aload_n 0, 1) := by decide +kernel
theorem dr_cX17_share_120 : decode cX17_share 120 = .ok (.getfield 221, 3) := by decide +kernel
theorem dr_cX17_share_123 : decode cX17_share 123 = .ok (.iload_n 3, 1) := by decide +kernel
theorem dr_cX17_share_124 : decode cX17_share 124 = .ok (.iload 4, 2) := by decide +kernel
theorem dr_cX17_share_126 : decode cX17_share 126 = .ok (.iastore, 1) := by decide +kernel
theorem dr_cX17_share_127 : decode cX17_share 127 = .ok (.aload_n 0, 1) := by decide +kernel
theorem dr_cX17_share_128 : decode cX17_share 128 = .ok (.getfield 131, 3) := by decide +kernel
theorem dr_cX17_share_131 : decode cX17_share 131 = .ok (.iload_n 3, 1) := by decide +kernel
theorem dr_cX17_share_132 : decode cX17_share 132 = .ok (.baload, 1) := by decide +kernel
theorem dr_cX17_share_133 : decode cX17_share 133 = .ok (.ifCond .eq 12, 3) := by decide +kernel
theorem dr_cX17_share_145 : decode cX17_share 145 = .ok (.iinc 3 1, 3) := by decide +kernel
theorem dr_cX17_share_148 : decode cX17_share 148 = .ok (.goto (-138), 3) := by decide +kernel
theorem dr_cX17_share_136 : decode cX17_share 136 = .ok (.iload_n 2, 1) := by decide +kernel
theorem dr_cX17_share_137 : decode cX17_share 137 = .ok (.iload 4, 2) := by decide +kernel
theorem dr_cX17_share_139 : decode cX17_share 139 = .ok (.iconst 1, 1) := by decide +kernel
theorem dr_cX17_share_140 : decode cX17_share 140 = .ok (.iadd, 1) := by decide +kernel
theorem dr_cX17_share_141 : decode cX17_share 141 = .ok (.invokestatic 189, 3) := by decide +kernel
theorem dr_cX17_share_144 : decode cX17_share 144 = .ok (.istore_n 2, 1) := by decide +kernel
theorem dr_cX17_share_102 : decode cX17_share 102 = .ok (.aload_n 0, 1) := by decide +kernel
theorem dr_cX17_share_103 : decode cX17_share 103 = .ok (.getfield 209, 3) := by decide +kernel
theorem dr_cX17_share_106 : decode cX17_share 106 = .ok (.iload 4, 2) := by decide +kernel
theorem dr_cX17_share_108 : decode cX17_share 108 = .ok (.iaload, 1) := by decide +kernel
theorem dr_cX17_share_109 : decode cX17_share 109 = .ok (.iconst 1, 1) := by decide +kernel
theorem dr_cX17_share_110 : decode cX17_share 110 = .ok (.if_icmp .ne 9, 3) := by decide +kernel
theorem dr_cX17_share_113 : decode cX17_share 113 = .ok (.iinc 4 1, 3) := by decide +kernel
theorem dr_cX17_share_116 : decode cX17_share 116 = .ok (.goto (-20), 3) := by decide +kernel
theorem dr_cX17_share_53 : decode cX17_share 53 = .ok (.aload_n 0, 1) := by decide +kernel
theorem dr_cX17_share_54 : decode cX17_share 54 = .ok (.getfield 131, 3) := by decide +kernel
theorem dr_cX17_share_57 : decode cX17_share 57 = .ok (.iload 5, 2) := by decide +kernel
theorem dr_cX17_share_59 : decode cX17_share 59 = .ok (.baload, 1) := by decide +kernel
theorem dr_cX17_share_60 : decode cX17_share 60 = .ok (.ifCond .eq 30, 3) := by decide +kernel
theorem dr_cX17_share_90 : decode cX17_share 90 = .ok (.iinc 5 1, 3) := by decide +kernel
theorem dr_cX17_share_93 : decode cX17_share 93 = .ok (.goto (-46), 3) := by decide +kernel
theorem dr_cX17_share_63 : decode cX17_share 63 = .ok (.aload_n 0, 1) := by decide +kernel
theorem dr_cX17_share_64 : decode cX17_share 64 = .ok (.getfield 135, 3) := by decide +kernel
theorem dr_cX17_share_67 : decode cX17_share 67 = .ok (.iload_n 3, 1) := by decide +kernel
theorem dr_cX17_share_68 : decode cX17_share 68 = .ok (.aaload, 1) := by decide +kernel
theorem dr_cX17_share_69 : decode cX17_share 69 = .ok (.iload 5, 2) := by decide +kernel
theorem dr_cX17_share_71 : decode cX17_share 71 = .ok (.invokestatic 145, 3) := by decide +kernel
theorem dr_cX17_share_74 : decode cX17_share 74 = .ok (.ifCond .eq 16, 3) := by decide +kernel
theorem dr_cX17_share_77 : decode cX17_share 77 = .ok (.aload_n 0, 1) := by decide +kernel
theorem dr_cX17_share_78 : decode cX17_share 78 = .ok (.getfield 209, 3) := by decide +kernel
theorem dr_cX17_share_81 : decode cX17_share 81 = .ok (.aload_n 0, 1) := by decide +kernel
theorem dr_cX17_share_82 : decode cX17_share 82 = .ok (.getfield 221, 3) := by decide +kernel
theorem dr_cX17_share_85 : decode cX17_share 85 = .ok (.iload 5, 2) := by decide +kernel
theorem dr_cX17_share_87 : decode cX17_share 87 = .ok (.iaload, 1) := by decide +kernel
theorem dr_cX17_share_88 : decode cX17_share 88 = .ok (.iconst 1, 1) := by decide +kernel
theorem dr_cX17_share_89 : decode cX17_share 89 = .ok (.iastore, 1) := by decide +kernel
theorem dr_cX17_share_30 : decode cX17_share 30 = .ok (.aload_n 0, 1) := by decide +kernel
theorem dr_cX17_share_31 : decode cX17_share 31 = .ok (.getfield 209, 3) := by decide +kernel
theorem dr_cX17_share_34 : decode cX17_share 34 = .ok (.iload 5, 2) := by decide +kernel
theorem dr_cX17_share_36 : decode cX17_share 36 = .ok (.iconst 0, 1) := by decide +kernel
theorem dr_cX17_share_37 : decode cX17_share 37 = .ok (.iastore, 1) := by decide +kernel
theorem dr_cX17_share_38 : decode cX17_share 38 = .ok (.iinc 5 1, 3) := by decide +kernel
theorem dr_cX17_share_41 : decode cX17_share 41 = .ok (.goto (-17), 3) := by decide +kernel
abbrev ky_389241_SpillForgeModel_coloured : gKey := (cX17_coloured, 2, "SpillForgeModel", none, [], "coloured", fun _ _ => True)
def pt_389241_SpillForgeModel_coloured (D : va_G) (I : FieldType → ClassId) (γ el : Nat → Nat → Nat) (P389236 : List Nat) (F389237 : Nat → va_E) (q389238 : Nat) (q389239 : Nat) : Option Value → va_W → Nat → Nat → Prop := fun r w dc ds => ∃ (F389474 : Nat → va_E), r = none ∧ w = va_pl P389236 F389474 ∧ RS D I P389236 F389474 γ el ∧ rStr γ [1] F389237 F389474 ∧ dc ≤ 0 ∧ ds ≤ 0 ∧ (∀ b, b ≠ q389239 → F389474 b = F389237 b) ∧ (F389474 q389238 = F389237 q389238) ∧ (F389474 (γ 9 3) = F389237 (γ 9 3)) ∧ (F389474 (γ 9 17) = F389237 (γ 9 17))
set_option maxRecDepth 100000 in
set_option maxHeartbeats 4000000 in
theorem ct_389241_SpillForgeModel_coloured (l : Launch) (hl0 : l.stackTraces = false) (D : va_G) (I : FieldType → ClassId) (γ el : Nat → Nat → Nat) (P389236 : List Nat) (F389237 : Nat → va_E) (q389238 : Nat) (q389239 : Nat) (hT : RS D I P389236 F389237 γ el) (htq389238 : rKd γ q389238 10) (htq389239 : rKd γ q389239 1) (x389240 : (rNm (fun n => 0 ≤ (cB (F389237 (γ 9 17)) n).toInt) (F389237 q389239))) : CtA (gV D I) l yX17_coloured cX17_coloured 2 none 1 20 0 0 [.ref q389238, .ref q389239] (va_pl P389236 F389237) (pt_389241_SpillForgeModel_coloured D I γ el P389236 F389237 q389238 q389239) gNA := by
  refine CtA_of hl0 (by decide) (Nat.le_of_ble_eq_true rfl) ?_
  have hm389242 : q389238 ∈ P389236 := RS_m hT htq389238 (by decide)
  obtain ⟨q389244, q389245, p389246, p389247, p389248, p389249, p389250, p389251, p389252, p389253, p389254, p389255, p389256, p389257, p389258, p389259, p389260, he389243, hB389287, ht389261, ht389262, ht389263, ht389264, ht389265, ht389266, ht389267, ht389268, ht389269, ht389270, ht389271, ht389272, ht389273, ht389274, ht389275, ht389276, ht389277, ht389278, ht389279, ht389280, ht389281, ht389282, ht389283, ht389284, hB389288⟩ := show rk_10 γ (F389237 q389238) from RS_o hT htq389238
  have hm389289 : (γ 9 17) ∈ P389236 := RS_m hT ht389274 (by decide)
  obtain ⟨f389291, he389290, bf389291⟩ := show rk_20 I (F389237 (γ 9 17)) from RS_o hT ht389274
  have hm389292 : q389239 ∈ P389236 := RS_m hT htq389239 (by decide)
  obtain ⟨p389294, p389295, p389296, p389297, p389298, p389299, p389300, he389293, bp389294, bp389295, bp389298, bp389299, bp389300, r389301, r389302, r389303, r389304⟩ := show rk_1 γ q389239 (F389237 q389239) from RS_o hT htq389239
  have bp389296 := gB_any p389296
  have bp389297 := gB_any p389297
  have cq389305 : ∀ n, nmV p389294.toInt p389295.toInt p389296.toInt p389297.toInt p389299.toInt p389300.toInt n → 0 ≤ (f389291 n).toInt := by have z := x389240; unfold rNm at z; rw [nmS_of he389293, cB_of he389290] at z; exact z
  refine G_aload_n 1 dr_cX17_coloured_0 rfl ?_
  refine Gw_callV (As := []) (gV_ok D I) (cp_214529_Row_usesA l hl0 D I P389236 F389237 q389239 p389294 p389295 p389296 p389297 p389298 p389299 p389300 hm389292 he389293 bp389294 bp389295 bp389298 bp389299 bp389300) dr_cX17_coloured_1 ⟨wr_10_192, wr_1_39, wr_10_195, by decide, rfl, (Nat.le_of_ble_eq_true rfl), (Nat.le_of_ble_eq_true rfl)⟩ wr_10_193 wr_10_194 hm389292 he389293 rfl (show 0 + 0 ≤ 0 by first | omega | decide) (show 0 + 0 ≤ 0 by first | omega | decide) (Nat.le_of_ble_eq_true rfl) (fun r389309 w389310 dc389306 ds389307 hp389308 => ?_) (fun _ _ _ _ _ z => z.elim)
  obtain ⟨o389311, rfl, rfl, hdc, hds, bo389311, x389312⟩ := hp389308
  change G _ _ _ _ _ _ _ (.int o389311 :: _) _ _ _
  refine G_widen (cs' := 0) (sl' := 0) (by omega) (by omega) ?_
  refine G_if_eq 20 dr_cX17_coloured_4 (by decide +kernel) (fun hc389313 => ?_) (fun hc389313 => ?_)
  · have r389314 : o389311.toInt = 0 := gj_eq hc389313 (show Int32.toInt 0 = 0 by decide)
    have bo389311' : gB o389311 0 0 := ⟨by omega, by omega⟩
    refine G_aload_n 1 dr_cX17_coloured_20 rfl ?_
    refine Gw_callV (As := []) (gV_ok D I) (cp_214553_Row_usesB l hl0 D I P389236 F389237 q389239 p389294 p389295 p389296 p389297 p389298 p389299 p389300 hm389292 he389293 bp389294 bp389295 bp389298 bp389299 bp389300) dr_cX17_coloured_21 ⟨wr_10_196, wr_1_39, wr_10_199, by decide, rfl, (Nat.le_of_ble_eq_true rfl), (Nat.le_of_ble_eq_true rfl)⟩ wr_10_197 wr_10_198 hm389292 he389293 rfl (show 0 + 0 ≤ 0 by first | omega | decide) (show 0 + 0 ≤ 0 by first | omega | decide) (Nat.le_of_ble_eq_true rfl) (fun r389318 w389319 dc389315 ds389316 hp389317 => ?_) (fun _ _ _ _ _ z => z.elim)
    obtain ⟨o389320, rfl, rfl, hdc, hds, bo389320, x389321⟩ := hp389317
    change G _ _ _ _ _ _ _ (.int o389320 :: _) _ _ _
    refine G_widen (cs' := 0) (sl' := 0) (by omega) (by omega) ?_
    refine G_if_eq 40 dr_cX17_coloured_24 (by decide +kernel) (fun hc389322 => ?_) (fun hc389322 => ?_)
    · have r389323 : o389320.toInt = 0 := gj_eq hc389322 (show Int32.toInt 0 = 0 by decide)
      have bo389320' : gB o389320 0 0 := ⟨by omega, by omega⟩
      refine G_aload_n 1 dr_cX17_coloured_40 rfl ?_
      refine Gw_callV (As := []) (gV_ok D I) (cp_214574_Row_sets l hl0 D I P389236 F389237 q389239 p389294 p389295 p389296 p389297 p389298 p389299 p389300 hm389292 he389293 bp389294 bp389295 bp389298 bp389299 bp389300) dr_cX17_coloured_41 ⟨wr_10_181, wr_1_39, wr_10_184, by decide, rfl, (Nat.le_of_ble_eq_true rfl), (Nat.le_of_ble_eq_true rfl)⟩ wr_10_182 wr_10_183 hm389292 he389293 rfl (show 0 + 0 ≤ 0 by first | omega | decide) (show 0 + 0 ≤ 0 by first | omega | decide) (Nat.le_of_ble_eq_true rfl) (fun r389327 w389328 dc389324 ds389325 hp389326 => ?_) (fun _ _ _ _ _ z => z.elim)
      obtain ⟨o389329, rfl, rfl, hdc, hds, bo389329, x389330⟩ := hp389326
      change G _ _ _ _ _ _ _ (.int o389329 :: _) _ _ _
      refine G_widen (cs' := 0) (sl' := 0) (by omega) (by omega) ?_
      refine G_if_eq 60 dr_cX17_coloured_44 (by decide +kernel) (fun hc389331 => ?_) (fun hc389331 => ?_)
      · have r389332 : o389329.toInt = 0 := gj_eq hc389331 (show Int32.toInt 0 = 0 by decide)
        have bo389329' : gB o389329 0 0 := ⟨by omega, by omega⟩
        exact G_vretA dr_cX17_coloured_60 rfl (Nat.le_of_ble_eq_true rfl) (Nat.le_of_ble_eq_true rfl) ⟨F389237, rfl, rfl, hT, (rStr_rf (γ := γ) (W := [1]) (F := F389237)), (Nat.le_of_ble_eq_true rfl), (Nat.le_of_ble_eq_true rfl), (fun _ _ => rfl), rfl, rfl, rfl⟩
      · have r389333 : o389329.toInt ≠ 0 := gj_neq hc389331 (show Int32.toInt 0 = 0 by decide)
        have bo389329' : gB o389329 1 1 := ⟨by omega, by omega⟩
        refine G_aload_n 1 dr_cX17_coloured_47 rfl ?_
        refine G_aload_n 0 dr_cX17_coloured_48 rfl ?_
        refine Gp_get 17 hm389242 he389243 dr_cX17_coloured_49 (gk_X17 D I) (Nat.le_of_ble_eq_true rfl) wr_7_91 rfl ?_
        refine G_aload_n 1 dr_cX17_coloured_52 rfl ?_
        refine Gp_get 1 hm389292 he389293 dr_cX17_coloured_53 (gk_X15 D I) (Nat.le_of_ble_eq_true rfl) wr_9_182 rfl ?_
        refine Gp_iald 0 hm389289 he389290 dr_cX17_coloured_56 rfl (gB_in bp389295 (by decide) (by decide)) (G_nam fun z389334 hz389334 => ?_)
        have bz389334 : gB z389334 (-1) 31 := by rw [hz389334]; exact bf389291 _
        have r389335 : 0 ≤ z389334.toInt := by rw [hz389334]; exact cq389305 _ (Or.inl ⟨by omega, rfl⟩)
        have bz389334' : gB z389334 0 31 := ⟨by omega, by omega⟩
        refine Gp_put 1 hm389292 he389293 dr_cX17_coloured_57 (gk_X15 D I) (Nat.le_of_ble_eq_true rfl) wr_9_182 rfl rfl rfl (Nat.le_of_ble_eq_true rfl) (fun F389336 e389337 n389338 => ?_)
        have he389339 : F389336 q389238 = .inr (22, [.ref (γ 9 0), .ref (γ 9 1), .ref (γ 9 2), .ref (γ 9 3), .ref (γ 9 4), .ref (γ 9 5), .ref (γ 9 6), .ref (γ 9 7), .ref (γ 9 8), .int p389246, .int p389247, .int p389248, .int p389249, .int p389250, .int p389251, .ref (γ 9 15), .ref (γ 9 16), .ref (γ 9 17), .ref (γ 9 18), .ref (γ 9 19), .ref (γ 9 20), .ref (γ 9 21), .ref (γ 9 22), .int p389252, .int p389253, .int p389254, .int p389255, .int p389256, .ref q389244, .ref (γ 9 29), .int p389257, .ref (γ 9 31), .int p389258, .int p389259, .int p389260, .ref q389245]) := (n389338 q389238 (rn_oo he389243 he389293 (by decide))).trans he389243
        have he389340 : F389336 (γ 9 17) = .inl (I .int, 2000, .inl f389291) := (n389338 (γ 9 17) (rn_ao he389290 he389293)).trans he389290
        have he389341 : F389336 q389239 = .inr (20, [.int p389294, .int z389334, .int p389296, .int p389297, .int p389298, .int p389299, .int p389300]) := e389337
        have hs389342 : rStr γ [1] F389237 F389336 := rStr_pu2 (rStr_rf (γ := γ) (W := [1]) (F := F389237)) n389338 htq389239 (by decide)
        have kp389343 : F389336 q389238 = F389237 q389238 := n389338 q389238 (rn_ty htq389238 htq389239 (by decide))
        have kp389344 : F389336 (γ 9 3) = F389237 (γ 9 3) := n389338 (γ 9 3) (rn_ty ht389266 htq389239 (by decide))
        have kp389345 : F389336 (γ 9 17) = F389237 (γ 9 17) := n389338 (γ 9 17) (rn_ty ht389274 htq389239 (by decide))
        have hT389346 : RS D I P389236 F389336 γ el := RS_set hT n389338 htq389239 (by decide) ⟨p389294, z389334, p389296, p389297, p389298, p389299, p389300, he389341, bp389294, (gB_w bz389334' (by decide) (by decide)), bp389298, bp389299, bp389300, (by omega), (by omega), (by omega), (by omega)⟩
        have of389347 : ∀ b, b ≠ q389239 → F389336 b = F389237 b := fun b hb => n389338 b hb
        exact G_vretA dr_cX17_coloured_60 rfl (Nat.le_of_ble_eq_true rfl) (Nat.le_of_ble_eq_true rfl) ⟨F389336, rfl, rfl, hT389346, hs389342, (Nat.le_of_ble_eq_true rfl), (Nat.le_of_ble_eq_true rfl), of389347, kp389343, kp389344, kp389345⟩
    · have r389348 : o389320.toInt ≠ 0 := gj_neq hc389322 (show Int32.toInt 0 = 0 by decide)
      have bo389320' : gB o389320 1 1 := ⟨by omega, by omega⟩
      refine G_aload_n 1 dr_cX17_coloured_27 rfl ?_
      refine G_aload_n 0 dr_cX17_coloured_28 rfl ?_
      refine Gp_get 17 hm389242 he389243 dr_cX17_coloured_29 (gk_X17 D I) (Nat.le_of_ble_eq_true rfl) wr_7_91 rfl ?_
      refine G_aload_n 1 dr_cX17_coloured_32 rfl ?_
      refine Gp_get 3 hm389292 he389293 dr_cX17_coloured_33 (gk_X15 D I) (Nat.le_of_ble_eq_true rfl) wr_9_190 rfl ?_
      refine Gp_iald 0 hm389289 he389290 dr_cX17_coloured_36 rfl (gB_inr (by omega) (by omega)) (G_nam fun z389349 hz389349 => ?_)
      have bz389349 : gB z389349 (-1) 31 := by rw [hz389349]; exact bf389291 _
      have r389350 : 0 ≤ z389349.toInt := by rw [hz389349]; exact cq389305 _ (Or.inr (Or.inr ⟨by omega, rfl⟩))
      have bz389349' : gB z389349 0 31 := ⟨by omega, by omega⟩
      refine Gp_put 3 hm389292 he389293 dr_cX17_coloured_37 (gk_X15 D I) (Nat.le_of_ble_eq_true rfl) wr_9_190 rfl rfl rfl (Nat.le_of_ble_eq_true rfl) (fun F389351 e389352 n389353 => ?_)
      have he389354 : F389351 q389238 = .inr (22, [.ref (γ 9 0), .ref (γ 9 1), .ref (γ 9 2), .ref (γ 9 3), .ref (γ 9 4), .ref (γ 9 5), .ref (γ 9 6), .ref (γ 9 7), .ref (γ 9 8), .int p389246, .int p389247, .int p389248, .int p389249, .int p389250, .int p389251, .ref (γ 9 15), .ref (γ 9 16), .ref (γ 9 17), .ref (γ 9 18), .ref (γ 9 19), .ref (γ 9 20), .ref (γ 9 21), .ref (γ 9 22), .int p389252, .int p389253, .int p389254, .int p389255, .int p389256, .ref q389244, .ref (γ 9 29), .int p389257, .ref (γ 9 31), .int p389258, .int p389259, .int p389260, .ref q389245]) := (n389353 q389238 (rn_oo he389243 he389293 (by decide))).trans he389243
      have he389355 : F389351 (γ 9 17) = .inl (I .int, 2000, .inl f389291) := (n389353 (γ 9 17) (rn_ao he389290 he389293)).trans he389290
      have he389356 : F389351 q389239 = .inr (20, [.int p389294, .int p389295, .int p389296, .int z389349, .int p389298, .int p389299, .int p389300]) := e389352
      have hs389357 : rStr γ [1] F389237 F389351 := rStr_pu2 (rStr_rf (γ := γ) (W := [1]) (F := F389237)) n389353 htq389239 (by decide)
      have kp389358 : F389351 q389238 = F389237 q389238 := n389353 q389238 (rn_ty htq389238 htq389239 (by decide))
      have kp389359 : F389351 (γ 9 3) = F389237 (γ 9 3) := n389353 (γ 9 3) (rn_ty ht389266 htq389239 (by decide))
      have kp389360 : F389351 (γ 9 17) = F389237 (γ 9 17) := n389353 (γ 9 17) (rn_ty ht389274 htq389239 (by decide))
      refine G_aload_n 1 dr_cX17_coloured_40 rfl ?_
      have hT389361 : RS D I P389236 F389351 γ el := RS_set hT n389353 htq389239 (by decide) ⟨p389294, p389295, p389296, z389349, p389298, p389299, p389300, he389356, bp389294, bp389295, bp389298, bp389299, bp389300, (by omega), (by omega), (by omega), (by omega)⟩
      have of389362 : ∀ b, b ≠ q389239 → F389351 b = F389237 b := fun b hb => n389353 b hb
      refine Gw_callV (As := []) (gV_ok D I) (cp_214574_Row_sets l hl0 D I P389236 F389351 q389239 p389294 p389295 p389296 z389349 p389298 p389299 p389300 hm389292 he389356 bp389294 bp389295 bp389298 bp389299 bp389300) dr_cX17_coloured_41 ⟨wr_10_181, wr_1_39, wr_10_184, by decide, rfl, (Nat.le_of_ble_eq_true rfl), (Nat.le_of_ble_eq_true rfl)⟩ wr_10_182 wr_10_183 hm389292 he389356 rfl (show 0 + 0 ≤ 0 by first | omega | decide) (show 0 + 0 ≤ 0 by first | omega | decide) (Nat.le_of_ble_eq_true rfl) (fun r389366 w389367 dc389363 ds389364 hp389365 => ?_) (fun _ _ _ _ _ z => z.elim)
      obtain ⟨o389368, rfl, rfl, hdc, hds, bo389368, x389369⟩ := hp389365
      change G _ _ _ _ _ _ _ (.int o389368 :: _) _ _ _
      refine G_widen (cs' := 0) (sl' := 0) (by omega) (by omega) ?_
      refine G_if_eq 60 dr_cX17_coloured_44 (by decide +kernel) (fun hc389370 => ?_) (fun hc389370 => ?_)
      · have r389371 : o389368.toInt = 0 := gj_eq hc389370 (show Int32.toInt 0 = 0 by decide)
        have bo389368' : gB o389368 0 0 := ⟨by omega, by omega⟩
        exact G_vretA dr_cX17_coloured_60 rfl (Nat.le_of_ble_eq_true rfl) (Nat.le_of_ble_eq_true rfl) ⟨F389351, rfl, rfl, hT389361, hs389357, (Nat.le_of_ble_eq_true rfl), (Nat.le_of_ble_eq_true rfl), of389362, kp389358, kp389359, kp389360⟩
      · have r389372 : o389368.toInt ≠ 0 := gj_neq hc389370 (show Int32.toInt 0 = 0 by decide)
        have bo389368' : gB o389368 1 1 := ⟨by omega, by omega⟩
        refine G_aload_n 1 dr_cX17_coloured_47 rfl ?_
        refine G_aload_n 0 dr_cX17_coloured_48 rfl ?_
        refine Gp_get 17 hm389242 he389354 dr_cX17_coloured_49 (gk_X17 D I) (Nat.le_of_ble_eq_true rfl) wr_7_91 rfl ?_
        refine G_aload_n 1 dr_cX17_coloured_52 rfl ?_
        refine Gp_get 1 hm389292 he389356 dr_cX17_coloured_53 (gk_X15 D I) (Nat.le_of_ble_eq_true rfl) wr_9_182 rfl ?_
        refine Gp_iald 0 hm389289 he389355 dr_cX17_coloured_56 rfl (gB_in bp389295 (by decide) (by decide)) (G_nam fun z389373 hz389373 => ?_)
        have bz389373 : gB z389373 (-1) 31 := by rw [hz389373]; exact bf389291 _
        have r389374 : 0 ≤ z389373.toInt := by rw [hz389373]; exact cq389305 _ (Or.inl ⟨by omega, rfl⟩)
        have bz389373' : gB z389373 0 31 := ⟨by omega, by omega⟩
        refine Gp_put 1 hm389292 he389356 dr_cX17_coloured_57 (gk_X15 D I) (Nat.le_of_ble_eq_true rfl) wr_9_182 rfl rfl rfl (Nat.le_of_ble_eq_true rfl) (fun F389375 e389376 n389377 => ?_)
        have he389378 : F389375 q389238 = .inr (22, [.ref (γ 9 0), .ref (γ 9 1), .ref (γ 9 2), .ref (γ 9 3), .ref (γ 9 4), .ref (γ 9 5), .ref (γ 9 6), .ref (γ 9 7), .ref (γ 9 8), .int p389246, .int p389247, .int p389248, .int p389249, .int p389250, .int p389251, .ref (γ 9 15), .ref (γ 9 16), .ref (γ 9 17), .ref (γ 9 18), .ref (γ 9 19), .ref (γ 9 20), .ref (γ 9 21), .ref (γ 9 22), .int p389252, .int p389253, .int p389254, .int p389255, .int p389256, .ref q389244, .ref (γ 9 29), .int p389257, .ref (γ 9 31), .int p389258, .int p389259, .int p389260, .ref q389245]) := (n389377 q389238 (rn_oo he389354 he389356 (by decide))).trans he389354
        have he389379 : F389375 (γ 9 17) = .inl (I .int, 2000, .inl f389291) := (n389377 (γ 9 17) (rn_ao he389355 he389356)).trans he389355
        have he389380 : F389375 q389239 = .inr (20, [.int p389294, .int z389373, .int p389296, .int z389349, .int p389298, .int p389299, .int p389300]) := e389376
        have hs389381 : rStr γ [1] F389237 F389375 := rStr_pu2 hs389357 n389377 htq389239 (by decide)
        have kp389382 : F389375 q389238 = F389237 q389238 := (n389377 q389238 (rn_ty htq389238 htq389239 (by decide))).trans kp389358
        have kp389383 : F389375 (γ 9 3) = F389237 (γ 9 3) := (n389377 (γ 9 3) (rn_ty ht389266 htq389239 (by decide))).trans kp389359
        have kp389384 : F389375 (γ 9 17) = F389237 (γ 9 17) := (n389377 (γ 9 17) (rn_ty ht389274 htq389239 (by decide))).trans kp389360
        have hT389385 : RS D I P389236 F389375 γ el := RS_set hT389361 n389377 htq389239 (by decide) ⟨p389294, z389373, p389296, z389349, p389298, p389299, p389300, he389380, bp389294, (gB_w bz389373' (by decide) (by decide)), bp389298, bp389299, bp389300, (by omega), (by omega), (by omega), (by omega)⟩
        have of389386 : ∀ b, b ≠ q389239 → F389375 b = F389237 b := fun b hb => (n389377 b hb).trans (of389362 b hb)
        exact G_vretA dr_cX17_coloured_60 rfl (Nat.le_of_ble_eq_true rfl) (Nat.le_of_ble_eq_true rfl) ⟨F389375, rfl, rfl, hT389385, hs389381, (Nat.le_of_ble_eq_true rfl), (Nat.le_of_ble_eq_true rfl), of389386, kp389382, kp389383, kp389384⟩
  · have r389387 : o389311.toInt ≠ 0 := gj_neq hc389313 (show Int32.toInt 0 = 0 by decide)
    have bo389311' : gB o389311 1 1 := ⟨by omega, by omega⟩
    refine G_aload_n 1 dr_cX17_coloured_7 rfl ?_
    refine G_aload_n 0 dr_cX17_coloured_8 rfl ?_
    refine Gp_get 17 hm389242 he389243 dr_cX17_coloured_9 (gk_X17 D I) (Nat.le_of_ble_eq_true rfl) wr_7_91 rfl ?_
    refine G_aload_n 1 dr_cX17_coloured_12 rfl ?_
    refine Gp_get 2 hm389292 he389293 dr_cX17_coloured_13 (gk_X15 D I) (Nat.le_of_ble_eq_true rfl) wr_9_186 rfl ?_
    refine Gp_iald 0 hm389289 he389290 dr_cX17_coloured_16 rfl (gB_inr (by omega) (by omega)) (G_nam fun z389388 hz389388 => ?_)
    have bz389388 : gB z389388 (-1) 31 := by rw [hz389388]; exact bf389291 _
    have r389389 : 0 ≤ z389388.toInt := by rw [hz389388]; exact cq389305 _ (Or.inr (Or.inl ⟨by omega, rfl⟩))
    have bz389388' : gB z389388 0 31 := ⟨by omega, by omega⟩
    refine Gp_put 2 hm389292 he389293 dr_cX17_coloured_17 (gk_X15 D I) (Nat.le_of_ble_eq_true rfl) wr_9_186 rfl rfl rfl (Nat.le_of_ble_eq_true rfl) (fun F389390 e389391 n389392 => ?_)
    have he389393 : F389390 q389238 = .inr (22, [.ref (γ 9 0), .ref (γ 9 1), .ref (γ 9 2), .ref (γ 9 3), .ref (γ 9 4), .ref (γ 9 5), .ref (γ 9 6), .ref (γ 9 7), .ref (γ 9 8), .int p389246, .int p389247, .int p389248, .int p389249, .int p389250, .int p389251, .ref (γ 9 15), .ref (γ 9 16), .ref (γ 9 17), .ref (γ 9 18), .ref (γ 9 19), .ref (γ 9 20), .ref (γ 9 21), .ref (γ 9 22), .int p389252, .int p389253, .int p389254, .int p389255, .int p389256, .ref q389244, .ref (γ 9 29), .int p389257, .ref (γ 9 31), .int p389258, .int p389259, .int p389260, .ref q389245]) := (n389392 q389238 (rn_oo he389243 he389293 (by decide))).trans he389243
    have he389394 : F389390 (γ 9 17) = .inl (I .int, 2000, .inl f389291) := (n389392 (γ 9 17) (rn_ao he389290 he389293)).trans he389290
    have he389395 : F389390 q389239 = .inr (20, [.int p389294, .int p389295, .int z389388, .int p389297, .int p389298, .int p389299, .int p389300]) := e389391
    have hs389396 : rStr γ [1] F389237 F389390 := rStr_pu2 (rStr_rf (γ := γ) (W := [1]) (F := F389237)) n389392 htq389239 (by decide)
    have kp389397 : F389390 q389238 = F389237 q389238 := n389392 q389238 (rn_ty htq389238 htq389239 (by decide))
    have kp389398 : F389390 (γ 9 3) = F389237 (γ 9 3) := n389392 (γ 9 3) (rn_ty ht389266 htq389239 (by decide))
    have kp389399 : F389390 (γ 9 17) = F389237 (γ 9 17) := n389392 (γ 9 17) (rn_ty ht389274 htq389239 (by decide))
    refine G_aload_n 1 dr_cX17_coloured_20 rfl ?_
    have hT389400 : RS D I P389236 F389390 γ el := RS_set hT n389392 htq389239 (by decide) ⟨p389294, p389295, z389388, p389297, p389298, p389299, p389300, he389395, bp389294, bp389295, bp389298, bp389299, bp389300, (by omega), (by omega), (by omega), (by omega)⟩
    have of389401 : ∀ b, b ≠ q389239 → F389390 b = F389237 b := fun b hb => n389392 b hb
    refine Gw_callV (As := []) (gV_ok D I) (cp_214553_Row_usesB l hl0 D I P389236 F389390 q389239 p389294 p389295 z389388 p389297 p389298 p389299 p389300 hm389292 he389395 bp389294 bp389295 bp389298 bp389299 bp389300) dr_cX17_coloured_21 ⟨wr_10_196, wr_1_39, wr_10_199, by decide, rfl, (Nat.le_of_ble_eq_true rfl), (Nat.le_of_ble_eq_true rfl)⟩ wr_10_197 wr_10_198 hm389292 he389395 rfl (show 0 + 0 ≤ 0 by first | omega | decide) (show 0 + 0 ≤ 0 by first | omega | decide) (Nat.le_of_ble_eq_true rfl) (fun r389405 w389406 dc389402 ds389403 hp389404 => ?_) (fun _ _ _ _ _ z => z.elim)
    obtain ⟨o389407, rfl, rfl, hdc, hds, bo389407, x389408⟩ := hp389404
    change G _ _ _ _ _ _ _ (.int o389407 :: _) _ _ _
    refine G_widen (cs' := 0) (sl' := 0) (by omega) (by omega) ?_
    refine G_if_eq 40 dr_cX17_coloured_24 (by decide +kernel) (fun hc389409 => ?_) (fun hc389409 => ?_)
    · have r389410 : o389407.toInt = 0 := gj_eq hc389409 (show Int32.toInt 0 = 0 by decide)
      have bo389407' : gB o389407 0 0 := ⟨by omega, by omega⟩
      refine G_aload_n 1 dr_cX17_coloured_40 rfl ?_
      refine Gw_callV (As := []) (gV_ok D I) (cp_214574_Row_sets l hl0 D I P389236 F389390 q389239 p389294 p389295 z389388 p389297 p389298 p389299 p389300 hm389292 he389395 bp389294 bp389295 bp389298 bp389299 bp389300) dr_cX17_coloured_41 ⟨wr_10_181, wr_1_39, wr_10_184, by decide, rfl, (Nat.le_of_ble_eq_true rfl), (Nat.le_of_ble_eq_true rfl)⟩ wr_10_182 wr_10_183 hm389292 he389395 rfl (show 0 + 0 ≤ 0 by first | omega | decide) (show 0 + 0 ≤ 0 by first | omega | decide) (Nat.le_of_ble_eq_true rfl) (fun r389414 w389415 dc389411 ds389412 hp389413 => ?_) (fun _ _ _ _ _ z => z.elim)
      obtain ⟨o389416, rfl, rfl, hdc, hds, bo389416, x389417⟩ := hp389413
      change G _ _ _ _ _ _ _ (.int o389416 :: _) _ _ _
      refine G_widen (cs' := 0) (sl' := 0) (by omega) (by omega) ?_
      refine G_if_eq 60 dr_cX17_coloured_44 (by decide +kernel) (fun hc389418 => ?_) (fun hc389418 => ?_)
      · have r389419 : o389416.toInt = 0 := gj_eq hc389418 (show Int32.toInt 0 = 0 by decide)
        have bo389416' : gB o389416 0 0 := ⟨by omega, by omega⟩
        exact G_vretA dr_cX17_coloured_60 rfl (Nat.le_of_ble_eq_true rfl) (Nat.le_of_ble_eq_true rfl) ⟨F389390, rfl, rfl, hT389400, hs389396, (Nat.le_of_ble_eq_true rfl), (Nat.le_of_ble_eq_true rfl), of389401, kp389397, kp389398, kp389399⟩
      · have r389420 : o389416.toInt ≠ 0 := gj_neq hc389418 (show Int32.toInt 0 = 0 by decide)
        have bo389416' : gB o389416 1 1 := ⟨by omega, by omega⟩
        refine G_aload_n 1 dr_cX17_coloured_47 rfl ?_
        refine G_aload_n 0 dr_cX17_coloured_48 rfl ?_
        refine Gp_get 17 hm389242 he389393 dr_cX17_coloured_49 (gk_X17 D I) (Nat.le_of_ble_eq_true rfl) wr_7_91 rfl ?_
        refine G_aload_n 1 dr_cX17_coloured_52 rfl ?_
        refine Gp_get 1 hm389292 he389395 dr_cX17_coloured_53 (gk_X15 D I) (Nat.le_of_ble_eq_true rfl) wr_9_182 rfl ?_
        refine Gp_iald 0 hm389289 he389394 dr_cX17_coloured_56 rfl (gB_in bp389295 (by decide) (by decide)) (G_nam fun z389421 hz389421 => ?_)
        have bz389421 : gB z389421 (-1) 31 := by rw [hz389421]; exact bf389291 _
        have r389422 : 0 ≤ z389421.toInt := by rw [hz389421]; exact cq389305 _ (Or.inl ⟨by omega, rfl⟩)
        have bz389421' : gB z389421 0 31 := ⟨by omega, by omega⟩
        refine Gp_put 1 hm389292 he389395 dr_cX17_coloured_57 (gk_X15 D I) (Nat.le_of_ble_eq_true rfl) wr_9_182 rfl rfl rfl (Nat.le_of_ble_eq_true rfl) (fun F389423 e389424 n389425 => ?_)
        have he389426 : F389423 q389238 = .inr (22, [.ref (γ 9 0), .ref (γ 9 1), .ref (γ 9 2), .ref (γ 9 3), .ref (γ 9 4), .ref (γ 9 5), .ref (γ 9 6), .ref (γ 9 7), .ref (γ 9 8), .int p389246, .int p389247, .int p389248, .int p389249, .int p389250, .int p389251, .ref (γ 9 15), .ref (γ 9 16), .ref (γ 9 17), .ref (γ 9 18), .ref (γ 9 19), .ref (γ 9 20), .ref (γ 9 21), .ref (γ 9 22), .int p389252, .int p389253, .int p389254, .int p389255, .int p389256, .ref q389244, .ref (γ 9 29), .int p389257, .ref (γ 9 31), .int p389258, .int p389259, .int p389260, .ref q389245]) := (n389425 q389238 (rn_oo he389393 he389395 (by decide))).trans he389393
        have he389427 : F389423 (γ 9 17) = .inl (I .int, 2000, .inl f389291) := (n389425 (γ 9 17) (rn_ao he389394 he389395)).trans he389394
        have he389428 : F389423 q389239 = .inr (20, [.int p389294, .int z389421, .int z389388, .int p389297, .int p389298, .int p389299, .int p389300]) := e389424
        have hs389429 : rStr γ [1] F389237 F389423 := rStr_pu2 hs389396 n389425 htq389239 (by decide)
        have kp389430 : F389423 q389238 = F389237 q389238 := (n389425 q389238 (rn_ty htq389238 htq389239 (by decide))).trans kp389397
        have kp389431 : F389423 (γ 9 3) = F389237 (γ 9 3) := (n389425 (γ 9 3) (rn_ty ht389266 htq389239 (by decide))).trans kp389398
        have kp389432 : F389423 (γ 9 17) = F389237 (γ 9 17) := (n389425 (γ 9 17) (rn_ty ht389274 htq389239 (by decide))).trans kp389399
        have hT389433 : RS D I P389236 F389423 γ el := RS_set hT389400 n389425 htq389239 (by decide) ⟨p389294, z389421, z389388, p389297, p389298, p389299, p389300, he389428, bp389294, (gB_w bz389421' (by decide) (by decide)), bp389298, bp389299, bp389300, (by omega), (by omega), (by omega), (by omega)⟩
        have of389434 : ∀ b, b ≠ q389239 → F389423 b = F389237 b := fun b hb => (n389425 b hb).trans (of389401 b hb)
        exact G_vretA dr_cX17_coloured_60 rfl (Nat.le_of_ble_eq_true rfl) (Nat.le_of_ble_eq_true rfl) ⟨F389423, rfl, rfl, hT389433, hs389429, (Nat.le_of_ble_eq_true rfl), (Nat.le_of_ble_eq_true rfl), of389434, kp389430, kp389431, kp389432⟩
    · have r389435 : o389407.toInt ≠ 0 := gj_neq hc389409 (show Int32.toInt 0 = 0 by decide)
      have bo389407' : gB o389407 1 1 := ⟨by omega, by omega⟩
      refine G_aload_n 1 dr_cX17_coloured_27 rfl ?_
      refine G_aload_n 0 dr_cX17_coloured_28 rfl ?_
      refine Gp_get 17 hm389242 he389393 dr_cX17_coloured_29 (gk_X17 D I) (Nat.le_of_ble_eq_true rfl) wr_7_91 rfl ?_
      refine G_aload_n 1 dr_cX17_coloured_32 rfl ?_
      refine Gp_get 3 hm389292 he389395 dr_cX17_coloured_33 (gk_X15 D I) (Nat.le_of_ble_eq_true rfl) wr_9_190 rfl ?_
      refine Gp_iald 0 hm389289 he389394 dr_cX17_coloured_36 rfl (gB_inr (by omega) (by omega)) (G_nam fun z389436 hz389436 => ?_)
      have bz389436 : gB z389436 (-1) 31 := by rw [hz389436]; exact bf389291 _
      have r389437 : 0 ≤ z389436.toInt := by rw [hz389436]; exact cq389305 _ (Or.inr (Or.inr ⟨by omega, rfl⟩))
      have bz389436' : gB z389436 0 31 := ⟨by omega, by omega⟩
      refine Gp_put 3 hm389292 he389395 dr_cX17_coloured_37 (gk_X15 D I) (Nat.le_of_ble_eq_true rfl) wr_9_190 rfl rfl rfl (Nat.le_of_ble_eq_true rfl) (fun F389438 e389439 n389440 => ?_)
      have he389441 : F389438 q389238 = .inr (22, [.ref (γ 9 0), .ref (γ 9 1), .ref (γ 9 2), .ref (γ 9 3), .ref (γ 9 4), .ref (γ 9 5), .ref (γ 9 6), .ref (γ 9 7), .ref (γ 9 8), .int p389246, .int p389247, .int p389248, .int p389249, .int p389250, .int p389251, .ref (γ 9 15), .ref (γ 9 16), .ref (γ 9 17), .ref (γ 9 18), .ref (γ 9 19), .ref (γ 9 20), .ref (γ 9 21), .ref (γ 9 22), .int p389252, .int p389253, .int p389254, .int p389255, .int p389256, .ref q389244, .ref (γ 9 29), .int p389257, .ref (γ 9 31), .int p389258, .int p389259, .int p389260, .ref q389245]) := (n389440 q389238 (rn_oo he389393 he389395 (by decide))).trans he389393
      have he389442 : F389438 (γ 9 17) = .inl (I .int, 2000, .inl f389291) := (n389440 (γ 9 17) (rn_ao he389394 he389395)).trans he389394
      have he389443 : F389438 q389239 = .inr (20, [.int p389294, .int p389295, .int z389388, .int z389436, .int p389298, .int p389299, .int p389300]) := e389439
      have hs389444 : rStr γ [1] F389237 F389438 := rStr_pu2 hs389396 n389440 htq389239 (by decide)
      have kp389445 : F389438 q389238 = F389237 q389238 := (n389440 q389238 (rn_ty htq389238 htq389239 (by decide))).trans kp389397
      have kp389446 : F389438 (γ 9 3) = F389237 (γ 9 3) := (n389440 (γ 9 3) (rn_ty ht389266 htq389239 (by decide))).trans kp389398
      have kp389447 : F389438 (γ 9 17) = F389237 (γ 9 17) := (n389440 (γ 9 17) (rn_ty ht389274 htq389239 (by decide))).trans kp389399
      refine G_aload_n 1 dr_cX17_coloured_40 rfl ?_
      have hT389448 : RS D I P389236 F389438 γ el := RS_set hT389400 n389440 htq389239 (by decide) ⟨p389294, p389295, z389388, z389436, p389298, p389299, p389300, he389443, bp389294, bp389295, bp389298, bp389299, bp389300, (by omega), (by omega), (by omega), (by omega)⟩
      have of389449 : ∀ b, b ≠ q389239 → F389438 b = F389237 b := fun b hb => (n389440 b hb).trans (of389401 b hb)
      refine Gw_callV (As := []) (gV_ok D I) (cp_214574_Row_sets l hl0 D I P389236 F389438 q389239 p389294 p389295 z389388 z389436 p389298 p389299 p389300 hm389292 he389443 bp389294 bp389295 bp389298 bp389299 bp389300) dr_cX17_coloured_41 ⟨wr_10_181, wr_1_39, wr_10_184, by decide, rfl, (Nat.le_of_ble_eq_true rfl), (Nat.le_of_ble_eq_true rfl)⟩ wr_10_182 wr_10_183 hm389292 he389443 rfl (show 0 + 0 ≤ 0 by first | omega | decide) (show 0 + 0 ≤ 0 by first | omega | decide) (Nat.le_of_ble_eq_true rfl) (fun r389453 w389454 dc389450 ds389451 hp389452 => ?_) (fun _ _ _ _ _ z => z.elim)
      obtain ⟨o389455, rfl, rfl, hdc, hds, bo389455, x389456⟩ := hp389452
      change G _ _ _ _ _ _ _ (.int o389455 :: _) _ _ _
      refine G_widen (cs' := 0) (sl' := 0) (by omega) (by omega) ?_
      refine G_if_eq 60 dr_cX17_coloured_44 (by decide +kernel) (fun hc389457 => ?_) (fun hc389457 => ?_)
      · have r389458 : o389455.toInt = 0 := gj_eq hc389457 (show Int32.toInt 0 = 0 by decide)
        have bo389455' : gB o389455 0 0 := ⟨by omega, by omega⟩
        exact G_vretA dr_cX17_coloured_60 rfl (Nat.le_of_ble_eq_true rfl) (Nat.le_of_ble_eq_true rfl) ⟨F389438, rfl, rfl, hT389448, hs389444, (Nat.le_of_ble_eq_true rfl), (Nat.le_of_ble_eq_true rfl), of389449, kp389445, kp389446, kp389447⟩
      · have r389459 : o389455.toInt ≠ 0 := gj_neq hc389457 (show Int32.toInt 0 = 0 by decide)
        have bo389455' : gB o389455 1 1 := ⟨by omega, by omega⟩
        refine G_aload_n 1 dr_cX17_coloured_47 rfl ?_
        refine G_aload_n 0 dr_cX17_coloured_48 rfl ?_
        refine Gp_get 17 hm389242 he389441 dr_cX17_coloured_49 (gk_X17 D I) (Nat.le_of_ble_eq_true rfl) wr_7_91 rfl ?_
        refine G_aload_n 1 dr_cX17_coloured_52 rfl ?_
        refine Gp_get 1 hm389292 he389443 dr_cX17_coloured_53 (gk_X15 D I) (Nat.le_of_ble_eq_true rfl) wr_9_182 rfl ?_
        refine Gp_iald 0 hm389289 he389442 dr_cX17_coloured_56 rfl (gB_in bp389295 (by decide) (by decide)) (G_nam fun z389460 hz389460 => ?_)
        have bz389460 : gB z389460 (-1) 31 := by rw [hz389460]; exact bf389291 _
        have r389461 : 0 ≤ z389460.toInt := by rw [hz389460]; exact cq389305 _ (Or.inl ⟨by omega, rfl⟩)
        have bz389460' : gB z389460 0 31 := ⟨by omega, by omega⟩
        refine Gp_put 1 hm389292 he389443 dr_cX17_coloured_57 (gk_X15 D I) (Nat.le_of_ble_eq_true rfl) wr_9_182 rfl rfl rfl (Nat.le_of_ble_eq_true rfl) (fun F389462 e389463 n389464 => ?_)
        have he389465 : F389462 q389238 = .inr (22, [.ref (γ 9 0), .ref (γ 9 1), .ref (γ 9 2), .ref (γ 9 3), .ref (γ 9 4), .ref (γ 9 5), .ref (γ 9 6), .ref (γ 9 7), .ref (γ 9 8), .int p389246, .int p389247, .int p389248, .int p389249, .int p389250, .int p389251, .ref (γ 9 15), .ref (γ 9 16), .ref (γ 9 17), .ref (γ 9 18), .ref (γ 9 19), .ref (γ 9 20), .ref (γ 9 21), .ref (γ 9 22), .int p389252, .int p389253, .int p389254, .int p389255, .int p389256, .ref q389244, .ref (γ 9 29), .int p389257, .ref (γ 9 31), .int p389258, .int p389259, .int p389260, .ref q389245]) := (n389464 q389238 (rn_oo he389441 he389443 (by decide))).trans he389441
        have he389466 : F389462 (γ 9 17) = .inl (I .int, 2000, .inl f389291) := (n389464 (γ 9 17) (rn_ao he389442 he389443)).trans he389442
        have he389467 : F389462 q389239 = .inr (20, [.int p389294, .int z389460, .int z389388, .int z389436, .int p389298, .int p389299, .int p389300]) := e389463
        have hs389468 : rStr γ [1] F389237 F389462 := rStr_pu2 hs389444 n389464 htq389239 (by decide)
        have kp389469 : F389462 q389238 = F389237 q389238 := (n389464 q389238 (rn_ty htq389238 htq389239 (by decide))).trans kp389445
        have kp389470 : F389462 (γ 9 3) = F389237 (γ 9 3) := (n389464 (γ 9 3) (rn_ty ht389266 htq389239 (by decide))).trans kp389446
        have kp389471 : F389462 (γ 9 17) = F389237 (γ 9 17) := (n389464 (γ 9 17) (rn_ty ht389274 htq389239 (by decide))).trans kp389447
        have hT389472 : RS D I P389236 F389462 γ el := RS_set hT389448 n389464 htq389239 (by decide) ⟨p389294, z389460, z389388, z389436, p389298, p389299, p389300, he389467, bp389294, (gB_w bz389460' (by decide) (by decide)), bp389298, bp389299, bp389300, (by omega), (by omega), (by omega), (by omega)⟩
        have of389473 : ∀ b, b ≠ q389239 → F389462 b = F389237 b := fun b hb => (n389464 b hb).trans (of389449 b hb)
        exact G_vretA dr_cX17_coloured_60 rfl (Nat.le_of_ble_eq_true rfl) (Nat.le_of_ble_eq_true rfl) ⟨F389462, rfl, rfl, hT389472, hs389468, (Nat.le_of_ble_eq_true rfl), (Nat.le_of_ble_eq_true rfl), of389473, kp389469, kp389470, kp389471⟩
abbrev ky_389481_SpillForgeModel_share : gKey := (cX17_share, 7, "SpillForgeModel", none, [], "share", fun _ _ => True)
def pt_389481_SpillForgeModel_share (D : va_G) (I : FieldType → ClassId) (γ el : Nat → Nat → Nat) (P389475 : List Nat) (F389476 : Nat → va_E) (q389477 : Nat) (q389478 : Nat) : Option Value → va_W → Nat → Nat → Prop := fun r w dc ds => ∃ (F417081 : Nat → va_E), r = none ∧ w = va_pl P389475 F417081 ∧ RS D I P389475 F417081 γ el ∧ rStr γ [1] F389476 F417081 ∧ dc ≤ 0 ∧ ds ≤ 0
set_option maxRecDepth 100000 in
set_option maxHeartbeats 4000000 in
theorem ct_389481_SpillForgeModel_share (l : Launch) (hl0 : l.stackTraces = false) (D : va_G) (I : FieldType → ClassId) (γ el : Nat → Nat → Nat) (P389475 : List Nat) (F389476 : Nat → va_E) (q389477 : Nat) (q389478 : Nat) (hT : RS D I P389475 F389476 γ el) (htq389477 : rKd γ q389477 10) (htq389478 : rKd γ q389478 9) (x389479 : 0 < γ 6 (γ 1 q389478)) (x389480 : (((γ 7 (γ 1 q389478) : Nat) : Int) ≤ (fI (F389476 q389477) 11).toInt)) : CtA (gV D I) l yX17_share cX17_share 7 none 6 141 0 0 [.ref q389477, .ref q389478] (va_pl P389475 F389476) (pt_389481_SpillForgeModel_share D I γ el P389475 F389476 q389477 q389478) gNA := by
  refine CtA_of hl0 (by decide) (Nat.le_of_ble_eq_true rfl) ?_
  have hm389482 : q389477 ∈ P389475 := RS_m hT htq389477 (by decide)
  obtain ⟨q389484, q389485, p389486, p389487, p389488, p389489, p389490, p389491, p389492, p389493, p389494, p389495, p389496, p389497, p389498, p389499, p389500, he389483, hB389527, ht389501, ht389502, ht389503, ht389504, ht389505, ht389506, ht389507, ht389508, ht389509, ht389510, ht389511, ht389512, ht389513, ht389514, ht389515, ht389516, ht389517, ht389518, ht389519, ht389520, ht389521, ht389522, ht389523, ht389524, hB389528⟩ := show rk_10 γ (F389476 q389477) from RS_o hT htq389477
  have hm389529 : (γ 9 19) ∈ P389475 := RS_m hT ht389516 (by decide)
  obtain ⟨f389531, he389530, bf389531⟩ := show rk_21 I (F389476 (γ 9 19)) from RS_o hT ht389516
  have r389532 : (γ 7 (γ 1 q389478) : Int) ≤ p389488.toInt := by have z := x389480; rw [he389483] at z; exact z
  have bp389488 : gB p389488 0 100 := (hB389527.2.2.1)
  refine G_aload_n 0 dr_cX17_share_0 rfl ?_
  refine G_aload_n 1 dr_cX17_share_1 rfl ?_
  refine G_iconst 1 dr_cX17_share_2 (by decide +kernel) ?_
  refine Gw_callV (As := [.ref q389478, .int 1]) (gV_ok D I) (ct_270948_SpillForgeModel_graph l hl0 D I γ el P389475 F389476 q389477 q389478 1 hT htq389477 htq389478 (gB_w (gBl (show Int32.toInt 1 = 1 by decide)) (by decide) (by decide)) (by omega)) dr_cX17_share_3 ⟨wr_10_233, wr_1_14, wr_10_236, by decide, rfl, (Nat.le_of_ble_eq_true rfl), (Nat.le_of_ble_eq_true rfl)⟩ wr_10_235 wr_p_99 hm389482 he389483 rfl (show 0 + 0 ≤ 0 by first | omega | decide) (show 0 + 0 ≤ 0 by first | omega | decide) (Nat.le_of_ble_eq_true rfl) (fun r389536 w389537 dc389533 ds389534 hp389535 => ?_) (fun _ _ _ _ _ z => z.elim)
  obtain ⟨F389540, rfl, rfl, hT389541, hs389542, hdc, hds, x389538, x389539⟩ := hp389535
  have hs389543 : rStr γ [1] F389476 F389540 := rStr_tr (rStr_rf (γ := γ) (W := [1]) (F := F389476)) (rStr_w hs389542 (by decide))
  have kp389544 : F389540 q389477 = F389476 q389477 := x389539
  rw [show Int32.toInt 1 = 1 from by decide] at x389538
  change G _ _ _ _ _ _ _ _ _ _ _
  refine G_widen (cs' := 0) (sl' := 0) (by omega) (by omega) ?_
  refine G_iconst 0 dr_cX17_share_6 (by decide +kernel) ?_
  refine G_istore_n (L' := [(2, .int 0), (0, .ref q389477), (1, .ref q389478)]) dr_cX17_share_7 (Nat.le_of_ble_eq_true rfl) rfl ?_
  refine G_iconst 0 dr_cX17_share_8 (by decide +kernel) ?_
  refine G_istore_n (L' := [(3, .int 0), (2, .int 0), (0, .ref q389477), (1, .ref q389478)]) dr_cX17_share_9 (Nat.le_of_ble_eq_true rfl) rfl ?_
  have hlp10_415036 : ∀ (n10_415036 : Nat) (F415032 : Nat → va_E) (g415030 : Int32) (g415031 : Int32), gB g415030 0 100 → gB g415031 0 1999 → RS D I P389475 F415032 γ el → rStr γ [1] F389476 F415032 → (∀ q : Nat, (q : Int) < g415030.toInt → 0 ≤ (cB (F415032 (γ 9 19)) q).toInt ∧ (cB (F415032 (γ 9 19)) q).toInt ≤ q) → (F415032 q389477 = F389476 q389477) → ((101 : Int) - g415030.toInt).toNat < n10_415036 → G (gV D I) l (gRm 6 141 0 0) (gMA (gV D I) (pt_389481_SpillForgeModel_share D I γ el P389475 F389476 q389477 q389478) gNA 0 0) ky_389481_SpillForgeModel_share 10 [(3, .int g415030), (2, .int g415031), (0, .ref q389477), (1, .ref q389478)] [] (va_pl P389475 F415032) 0 0 := by
    intro n10_415036
    induction n10_415036 with
    | zero => intro F415032 g415030 g415031 bg415030 bg415031 hT415033 hs415034 x415035 x415036 hm10_415036; exact absurd hm10_415036 (Nat.not_lt_zero _)
    | succ n10_415036 ih10_415036 =>
      intro F415032 g415030 g415031 bg415030 bg415031 hT415033 hs415034 x415035 x415036 hm10_415036
      have hs415038 : rStr γ [1] F389540 F415032 := fun b h0 hb hw => (hs415034 b h0 hb hw).trans (hs389543 b h0 hb hw).symm
      have hs415039 : rStr γ [1] F389476 F415032 := rStr_tr hs389543 hs415038
      have hm415040 : q389477 ∈ P389475 := RS_m hT415033 htq389477 (by decide)
      obtain ⟨q415042, q415043, p415044, p415045, p415046, p415047, p415048, p415049, p415050, p415051, p415052, p415053, p415054, p415055, p415056, p415057, p415058, he415041, hB415085, ht415059, ht415060, ht415061, ht415062, ht415063, ht415064, ht415065, ht415066, ht415067, ht415068, ht415069, ht415070, ht415071, ht415072, ht415073, ht415074, ht415075, ht415076, ht415077, ht415078, ht415079, ht415080, ht415081, ht415082, hB415086⟩ := show rk_10 γ (F415032 q389477) from RS_o hT415033 htq389477
      have hm415087 : (γ 9 19) ∈ P389475 := RS_m hT415033 ht415074 (by decide)
      obtain ⟨f415089, he415088, bf415089⟩ := show rk_21 I (F415032 (γ 9 19)) from RS_o hT415033 ht415074
      have r415090 : p415046.toInt = p389488.toInt := congrArg (fun e => (fI e 11).toInt) (he415041.symm.trans ((x415036).trans he389483))
      have bp415046 : gB p415046 0 100 := (hB415085.2.2.1)
      have cq415091 := x415035
      rw [cB_of he415088] at cq415091
      refine G_iload_n 0 dr_cX17_share_10 rfl ?_
      refine G_aload_n 2 dr_cX17_share_11 rfl ?_
      refine Gp_get 11 hm415040 he415041 dr_cX17_share_12 (gk_X17 D I) (Nat.le_of_ble_eq_true rfl) wr_7_85 rfl ?_
      refine G_icmp_ge 151 dr_cX17_share_15 (by decide +kernel) (fun hc415092 => ?_) (fun hc415092 => ?_)
      · have r415093 : p415046.toInt ≤ g415030.toInt := gC_le hc415092
        refine G_iconst 0 dr_cX17_share_151 (by decide +kernel) ?_
        refine G_istore_n (L' := [(3, .int 0), (2, .int g415031), (0, .ref q389477), (1, .ref q389478)]) dr_cX17_share_152 (Nat.le_of_ble_eq_true rfl) rfl ?_
        have hlp153_415560 : ∀ (n153_415560 : Nat) (F415556 : Nat → va_E) (g415555 : Int32), gB g415555 0 1000000 → RS D I P389475 F415556 γ el → rStr γ [1] F389476 F415556 → (∀ q : Nat, (q : Int) < ((γ 7 (γ 1 q389478) : Nat) : Int) → 0 ≤ (cB (F415556 (γ 9 19)) q).toInt ∧ (cB (F415556 (γ 9 19)) q).toInt ≤ q) → (F415556 q389477 = F389476 q389477) → ((1000001 : Int) - g415555.toInt).toNat < n153_415560 → G (gV D I) l (gRm 6 141 0 0) (gMA (gV D I) (pt_389481_SpillForgeModel_share D I γ el P389475 F389476 q389477 q389478) gNA 0 0) ky_389481_SpillForgeModel_share 153 [(3, .int g415555), (2, .int g415031), (0, .ref q389477), (1, .ref q389478)] [] (va_pl P389475 F415556) 0 0 := by
          intro n153_415560
          induction n153_415560 with
          | zero => intro F415556 g415555 bg415555 hT415557 hs415558 x415559 x415560 hm153_415560; exact absurd hm153_415560 (Nat.not_lt_zero _)
          | succ n153_415560 ih153_415560 =>
            intro F415556 g415555 bg415555 hT415557 hs415558 x415559 x415560 hm153_415560
            have hs415562 : rStr γ [1] F415032 F415556 := fun b h0 hb hw => (hs415558 b h0 hb hw).trans (hs415034 b h0 hb hw).symm
            have hs415563 : rStr γ [1] F389476 F415556 := rStr_tr hs415034 hs415562
            have hm415564 : q389477 ∈ P389475 := RS_m hT415557 htq389477 (by decide)
            obtain ⟨q415566, q415567, p415568, p415569, p415570, p415571, p415572, p415573, p415574, p415575, p415576, p415577, p415578, p415579, p415580, p415581, p415582, he415565, hB415609, ht415583, ht415584, ht415585, ht415586, ht415587, ht415588, ht415589, ht415590, ht415591, ht415592, ht415593, ht415594, ht415595, ht415596, ht415597, ht415598, ht415599, ht415600, ht415601, ht415602, ht415603, ht415604, ht415605, ht415606, hB415610⟩ := show rk_10 γ (F415556 q389477) from RS_o hT415557 htq389477
            have hm415611 : (γ 9 19) ∈ P389475 := RS_m hT415557 ht415598 (by decide)
            obtain ⟨f415613, he415612, bf415613⟩ := show rk_21 I (F415556 (γ 9 19)) from RS_o hT415557 ht415598
            have r415614 : p415570.toInt = p389488.toInt := congrArg (fun e => (fI e 11).toInt) (he415565.symm.trans ((x415560).trans he389483))
            have bp415570 : gB p415570 0 100 := (hB415609.2.2.1)
            have cq415615 := x415559
            rw [cB_of he415612] at cq415615
            refine G_iload_n 0 dr_cX17_share_153 rfl ?_
            refine G_aload_n 3 dr_cX17_share_154 rfl ?_
            have hm415616 : q389478 ∈ P389475 := RS_m hT415557 htq389478 (by decide)
            obtain ⟨q415618, q415619, p415620, p415621, he415617, ht415637, ht415622, ht415623, ht415624, ht415625, r415626, r415627, r415628, r415629, r415630, r415631, r415632, r415633, r415634, r415635, r415636⟩ := show rk_9 γ el q389478 (F415556 q389478) from RS_o hT415557 htq389478
            have bp415620 : gB p415620 0 1000000 := ⟨by omega, by omega⟩
            have bp415621 : gB p415621 0 1000000 := ⟨by omega, by omega⟩
            refine Gw_callV (As := []) (gV_ok D I) (cp_12451_Code_size l hl0 D I P389475 F415556 q389478 q415618 q415619 p415620 p415621 hm415616 he415617) dr_cX17_share_155 ⟨wr_10_160, wr_1_15, wr_9_131, by decide, rfl, (Nat.le_of_ble_eq_true rfl), (Nat.le_of_ble_eq_true rfl)⟩ wr_9_129 wr_9_130 hm415616 he415617 rfl (show 0 + 0 ≤ 0 by first | omega | decide) (show 0 + 0 ≤ 0 by first | omega | decide) (Nat.le_of_ble_eq_true rfl) (fun r415641 w415642 dc415638 ds415639 hp415640 => ?_) (fun _ _ _ _ _ z => z.elim)
            obtain ⟨rfl, rfl, hdc, hds⟩ := hp415640
            change G _ _ _ _ _ _ _ (.int p415621 :: _) _ _ _
            refine G_widen (cs' := 0) (sl' := 0) (by omega) (by omega) ?_
            refine G_icmp_ge 246 dr_cX17_share_158 (by decide +kernel) (fun hc415643 => ?_) (fun hc415643 => ?_)
            · have r415644 : p415621.toInt ≤ g415555.toInt := gC_le hc415643
              refine G_aload_n 2 dr_cX17_share_246 rfl ?_
              refine G_iload_n 1 dr_cX17_share_247 rfl ?_
              refine Gp_put 11 hm415564 he415565 dr_cX17_share_248 (gk_X17 D I) (Nat.le_of_ble_eq_true rfl) wr_7_85 rfl rfl rfl (Nat.le_of_ble_eq_true rfl) (fun F415645 e415646 n415647 => ?_)
              have he415648 : F415645 (γ 9 19) = .inl (I .int, 2000, .inl f415613) := (n415647 (γ 9 19) (rn_ao he415612 he415565)).trans he415612
              have he415649 : F415645 q389478 = .inr (18, [.ref q415618, .ref q415619, .int p415620, .int p415621]) := (n415647 q389478 (rn_oo he415617 he415565 (by decide))).trans he415617
              have he415650 : F415645 q389477 = .inr (22, [.ref (γ 9 0), .ref (γ 9 1), .ref (γ 9 2), .ref (γ 9 3), .ref (γ 9 4), .ref (γ 9 5), .ref (γ 9 6), .ref (γ 9 7), .ref (γ 9 8), .int p415568, .int p415569, .int g415031, .int p415571, .int p415572, .int p415573, .ref (γ 9 15), .ref (γ 9 16), .ref (γ 9 17), .ref (γ 9 18), .ref (γ 9 19), .ref (γ 9 20), .ref (γ 9 21), .ref (γ 9 22), .int p415574, .int p415575, .int p415576, .int p415577, .int p415578, .ref q415566, .ref (γ 9 29), .int p415579, .ref (γ 9 31), .int p415580, .int p415581, .int p415582, .ref q415567]) := e415646
              have hs415651 : rStr γ [1] F389476 F415645 := rStr_put hs415558 n415647 htq389477 (by decide)
              have hT415652 : RS D I P389475 F415645 γ el := RS_set hT415557 n415647 htq389477 (by decide) ⟨q415566, q415567, p415568, p415569, g415031, p415571, p415572, p415573, p415574, p415575, p415576, p415577, p415578, p415579, p415580, p415581, p415582, he415650, ⟨(hB415609.1), (hB415609.2.1), ⟨by omega, by omega⟩, (hB415609.2.2.2.1), (hB415609.2.2.2.2.1), (hB415609.2.2.2.2.2.1), (hB415609.2.2.2.2.2.2.1), (hB415609.2.2.2.2.2.2.2.1), (hB415609.2.2.2.2.2.2.2.2)⟩, ht415583, ht415584, ht415585, ht415586, ht415587, ht415588, ht415589, ht415590, ht415591, ht415592, ht415593, ht415594, ht415595, ht415596, ht415597, ht415598, ht415599, ht415600, ht415601, ht415602, ht415603, ht415604, ht415605, ht415606, hB415610⟩
              exact G_vretA dr_cX17_share_251 rfl (Nat.le_of_ble_eq_true rfl) (Nat.le_of_ble_eq_true rfl) ⟨F415645, rfl, rfl, hT415652, hs415651, (Nat.le_of_ble_eq_true rfl), (Nat.le_of_ble_eq_true rfl)⟩
            · have r415653 : g415555.toInt < p415621.toInt := gC_nle hc415643
              have bg415555' : gB g415555 0 999999 := ⟨by omega, by omega⟩
              have bp415621' : gB p415621 1 1000000 := ⟨by omega, by omega⟩
              refine G_aload_n 3 dr_cX17_share_161 rfl ?_
              refine G_iload_n 0 dr_cX17_share_162 rfl ?_
              have hm415654 : q415618 ∈ P389475 := RS_m hT415557 ht415622 (by decide)
              obtain ⟨⟨p415656, p415657, q415658, he415655, r415659, r415660, r415661, r415663⟩, r415662⟩ := show rk_4 D I γ el F415556 q415618 from RS_o hT415557 ht415622
              have bp415656 := gB_any p415656
              have bp415657 : gB p415657 0 1000000 := ⟨by omega, by omega⟩
              obtain ⟨r415664, r415665, n415672, f415673, r415666, r415667, r415668, r415669, r415670, r415671⟩ := rLC_n r415661 (by omega)
              have hm415674 : q415658 ∈ P389475 := RS_m hT415557 r415664 (by decide)
              obtain ⟨q415675, hx415676⟩ : ∃ x, x = el q415618 g415555.toInt.toNat := ⟨_, rfl⟩
              have hx415677 : f415673 g415555.toNatClampNeg = some q415675 := (r415670 _ (show g415555.toInt.toNat < γ 2 q415618 by omega)).trans (by rw [hx415676])
              have ht415680 : rKd γ q415675 2 := by rw [hx415676]; exact (r415633 _ (by omega)).resolve_right (fun z => absurd z.1 (by omega))
              have ht415681 : rFm γ q415675 q415618 := by rw [hx415676]; exact (r415662 _ (show g415555.toInt.toNat < γ 2 q415618 by omega)).2.1
              have hm415682 : q415675 ∈ P389475 := RS_m hT415557 ht415680 (by decide)
              obtain ⟨q415684, q415685, p415686, p415687, he415683, ht415694, ht415688, ht415689, ht415690, ht415691, ht415692, bp415686, bp415687, r415693, r415695, r415696⟩ := show rk_2 γ q415675 (F415556 q415675) from RS_o hT415557 ht415680
              refine Gw_callV (As := [.int g415555]) (gV_ok D I) (cp_7723_Code_get l hl0 D I P389475 F415556 q389478 q415618 q415658 g415555 q415619 p415620 p415621 p415656 p415657 f415673 n415672 q415675 q415684 q415685 p415686 p415687 hm415616 hm415654 hm415674 hm415682 he415617 he415655 r415666 he415683 (gB_w bg415555' (by decide) (by decide)) (gB_w bp415657 (by decide) (by decide)) (by omega) (by omega) (by assumption) (by omega)) dr_cX17_share_163 ⟨wr_10_161, wr_1_15, wr_10_141, by decide, rfl, (Nat.le_of_ble_eq_true rfl), (Nat.le_of_ble_eq_true rfl)⟩ wr_10_139 wr_10_140 hm415616 he415617 rfl (show 0 + 0 ≤ 0 by first | omega | decide) (show 0 + 0 ≤ 0 by first | omega | decide) (Nat.le_of_ble_eq_true rfl) (fun r415700 w415701 dc415697 ds415698 hp415699 => ?_) (fun _ _ _ _ _ z => z.elim)
              obtain ⟨rfl, rfl, hdc, hds⟩ := hp415699
              change G _ _ _ _ _ _ _ (.ref q415675 :: _) _ _ _
              refine G_widen (cs' := 0) (sl' := 0) (by omega) (by omega) ?_
              refine G_astore (L' := [(4, .ref q415675), (3, .int g415555), (2, .int g415031), (0, .ref q389477), (1, .ref q389478)]) dr_cX17_share_166 (Nat.le_of_ble_eq_true rfl) rfl ?_
              refine G_iconst 0 dr_cX17_share_168 (by decide +kernel) ?_
              refine G_istore (L' := [(5, .int 0), (4, .ref q415675), (3, .int g415555), (2, .int g415031), (0, .ref q389477), (1, .ref q389478)]) dr_cX17_share_169 (Nat.le_of_ble_eq_true rfl) rfl ?_
              have hlp171_415865 : ∀ (n171_415865 : Nat) (F415861 : Nat → va_E) (g415860 : Int32), gB g415860 0 1000000 → RS D I P389475 F415861 γ el → rStr γ [1] F389476 F415861 → (∀ q : Nat, (q : Int) < ((γ 7 (γ 1 q389478) : Nat) : Int) → 0 ≤ (cB (F415861 (γ 9 19)) q).toInt ∧ (cB (F415861 (γ 9 19)) q).toInt ≤ q) → (F415861 q389477 = F389476 q389477) → ((1000001 : Int) - g415860.toInt).toNat < n171_415865 → G (gV D I) l (gRm 6 141 0 0) (gMA (gV D I) (pt_389481_SpillForgeModel_share D I γ el P389475 F389476 q389477 q389478) gNA 0 0) ky_389481_SpillForgeModel_share 171 [(5, .int g415860), (4, .ref q415675), (3, .int g415555), (2, .int g415031), (0, .ref q389477), (1, .ref q389478)] [] (va_pl P389475 F415861) 0 0 := by
                intro n171_415865
                induction n171_415865 with
                | zero => intro F415861 g415860 bg415860 hT415862 hs415863 x415864 x415865 hm171_415865; exact absurd hm171_415865 (Nat.not_lt_zero _)
                | succ n171_415865 ih171_415865 =>
                  intro F415861 g415860 bg415860 hT415862 hs415863 x415864 x415865 hm171_415865
                  have hs415867 : rStr γ [1] F415556 F415861 := fun b h0 hb hw => (hs415863 b h0 hb hw).trans (hs415558 b h0 hb hw).symm
                  have he415868 : F415861 q389478 = .inr (18, [.ref q415618, .ref q415619, .int p415620, .int p415621]) := (hs415867 q389478 (rT0 htq389478 (by decide)) (rT1 htq389478 (by decide)) (rT2 htq389478 (by decide))).trans he415617
                  have he415869 : F415861 q415618 = .inr (4, [.int p415656, .ref q415658, .int p415657]) := (hs415867 q415618 (rT0 ht415622 (by decide)) (rT1 ht415622 (by decide)) (rT2 ht415622 (by decide))).trans he415655
                  have he415870 : F415861 q415658 = .inl (I (.object "java/lang/Object"), n415672, .inr (.inr (.inr (.inr f415673)))) := (hs415867 q415658 (rT0 r415664 (by decide)) (rT1 r415664 (by decide)) (rT2 r415664 (by decide))).trans r415666
                  have he415871 : F415861 q415675 = .inr (17, [.ref q415684, .ref q415685, .int p415686, .int p415687]) := (hs415867 q415675 (rT0 ht415680 (by decide)) (rT1 ht415680 (by decide)) (rT2 ht415680 (by decide))).trans he415683
                  have hs415872 : rStr γ [1] F389476 F415861 := rStr_tr hs415558 hs415867
                  have hm415873 : q389477 ∈ P389475 := RS_m hT415862 htq389477 (by decide)
                  obtain ⟨q415875, q415876, p415877, p415878, p415879, p415880, p415881, p415882, p415883, p415884, p415885, p415886, p415887, p415888, p415889, p415890, p415891, he415874, hB415918, ht415892, ht415893, ht415894, ht415895, ht415896, ht415897, ht415898, ht415899, ht415900, ht415901, ht415902, ht415903, ht415904, ht415905, ht415906, ht415907, ht415908, ht415909, ht415910, ht415911, ht415912, ht415913, ht415914, ht415915, hB415919⟩ := show rk_10 γ (F415861 q389477) from RS_o hT415862 htq389477
                  have hm415920 : (γ 9 19) ∈ P389475 := RS_m hT415862 ht415907 (by decide)
                  obtain ⟨f415922, he415921, bf415922⟩ := show rk_21 I (F415861 (γ 9 19)) from RS_o hT415862 ht415907
                  have r415923 : p415879.toInt = p389488.toInt := congrArg (fun e => (fI e 11).toInt) (he415874.symm.trans ((x415865).trans he389483))
                  have bp415879 : gB p415879 0 100 := (hB415918.2.2.1)
                  have cq415924 := x415864
                  rw [cB_of he415921] at cq415924
                  refine G_iload 0 dr_cX17_share_171 rfl ?_
                  refine G_aload 1 dr_cX17_share_173 rfl ?_
                  refine Gp_get 0 hm415682 he415871 dr_cX17_share_175 (gk_X12 D I) (Nat.le_of_ble_eq_true rfl) wr_9_220 rfl ?_
                  have hm415925 : q415684 ∈ P389475 := RS_m hT415862 ht415688 (by decide)
                  obtain ⟨⟨p415927, p415928, q415929, he415926, r415930, r415931, r415932, r415934⟩, r415933⟩ := show rk_3 D I γ el F415861 q415684 from RS_o hT415862 ht415688
                  have bp415927 := gB_any p415927
                  have bp415928 : gB p415928 0 1000000 := ⟨by omega, by omega⟩
                  refine Gw_callV (As := []) (gV_ok D I) (cp_7_ArrayList_size l hl0 D I P389475 F415861 q415684 p415927 q415929 p415928 hm415925 he415926 (gB_w bp415928 (by decide) (by decide))) dr_cX17_share_178 ⟨wr_10_200, wr_1_18, wr_9_160, by decide, rfl, (Nat.le_of_ble_eq_true rfl), (Nat.le_of_ble_eq_true rfl)⟩ wr_9_158 wr_9_159 hm415925 he415926 rfl (show 0 + 0 ≤ 0 by first | omega | decide) (show 0 + 0 ≤ 0 by first | omega | decide) (Nat.le_of_ble_eq_true rfl) (fun r415938 w415939 dc415935 ds415936 hp415937 => ?_) (fun _ _ _ _ _ z => z.elim)
                  obtain ⟨rfl, rfl, hdc, hds⟩ := hp415937
                  change G _ _ _ _ _ _ _ (.int p415928 :: _) _ _ _
                  refine G_widen (cs' := 0) (sl' := 0) (by omega) (by omega) ?_
                  refine G_icmp_ge 240 dr_cX17_share_181 (by decide +kernel) (fun hc415940 => ?_) (fun hc415940 => ?_)
                  · have r415941 : p415928.toInt ≤ g415860.toInt := gC_le hc415940
                    obtain ⟨z415942, hz415942⟩ : ∃ z : Int32, z = g415555 + Int32.ofInt 1 := ⟨_, rfl⟩
                    have ez415942 : z415942.toInt = g415555.toInt + 1 := gI_inc hz415942 (by decide) bg415555' (by decide) (by decide)
                    have bz415942 : gB z415942 1 1000000 := ⟨by omega, by omega⟩
                    refine G_iinc (L' := [(3, .int z415942), (5, .int g415860), (4, .ref q415675), (2, .int g415031), (0, .ref q389477), (1, .ref q389478)]) z415942 2 dr_cX17_share_240 rfl hz415942.symm (Nat.le_of_ble_eq_true rfl) rfl ?_
                    refine G_goto 153 dr_cX17_share_243 (by decide +kernel) ?_
                    refine G_lv (L' := [(3, .int z415942), (2, .int g415031), (0, .ref q389477), (1, .ref q389478)]) [0, 3, 4, 5] rfl ?_
                    exact ih153_415560 F415861 z415942 (gB_w bz415942 (by decide) (by decide)) hT415862 hs415863 (by rw [cB_of he415921]; exact cq415924) x415865 (by omega)
                  · have r415943 : g415860.toInt < p415928.toInt := gC_nle hc415940
                    have bg415860' : gB g415860 0 999999 := ⟨by omega, by omega⟩
                    have bp415928' : gB p415928 1 1000000 := ⟨by omega, by omega⟩
                    refine G_aload 1 dr_cX17_share_184 rfl ?_
                    refine Gp_get 0 hm415682 he415871 dr_cX17_share_186 (gk_X12 D I) (Nat.le_of_ble_eq_true rfl) wr_9_220 rfl ?_
                    refine G_iload 0 dr_cX17_share_189 rfl ?_
                    obtain ⟨r415944, r415945, n415952, f415953, r415946, r415947, r415948, r415949, r415950, r415951⟩ := rLC_n r415932 (by omega)
                    have hm415954 : q415929 ∈ P389475 := RS_m hT415862 r415944 (by decide)
                    obtain ⟨q415955, hx415956⟩ : ∃ x, x = el q415684 g415860.toInt.toNat := ⟨_, rfl⟩
                    have hx415957 : f415953 g415860.toNatClampNeg = some q415955 := (r415950 _ (show g415860.toInt.toNat < γ 2 q415684 by omega)).trans (by rw [hx415956])
                    have ht415958 : rKd γ q415955 1 := by rw [hx415956]; exact (r415933 _ (show g415860.toInt.toNat < γ 2 q415684 by omega)).1
                    have ht415959 : rFm γ q415955 q415684 := by rw [hx415956]; exact (r415933 _ (show g415860.toInt.toNat < γ 2 q415684 by omega)).2.1
                    refine Gw_callV (As := [.int g415860]) (gV_ok D I) (cp_22_ArrayList_get l hl0 D I P389475 F415861 q415684 q415929 g415860 p415927 p415928 f415953 n415952 q415955 hm415925 hm415954 he415926 r415946 (gB_w bg415860' (by decide) (by decide)) (gB_w bp415928' (by decide) (by decide)) (by omega) (by omega) (by assumption) (by omega)) dr_cX17_share_191 ⟨wr_10_201, wr_1_18, wr_10_65, by decide, rfl, (Nat.le_of_ble_eq_true rfl), (Nat.le_of_ble_eq_true rfl)⟩ wr_10_63 wr_10_64 hm415925 he415926 rfl (show 0 + 0 ≤ 0 by first | omega | decide) (show 0 + 0 ≤ 0 by first | omega | decide) (Nat.le_of_ble_eq_true rfl) (fun r415963 w415964 dc415960 ds415961 hp415962 => ?_) (fun _ _ _ _ _ z => z.elim)
                    obtain ⟨rfl, rfl, hdc, hds⟩ := hp415962
                    change G _ _ _ _ _ _ _ (.ref q415955 :: _) _ _ _
                    refine G_widen (cs' := 0) (sl' := 0) (by omega) (by omega) ?_
                    have hm415965 : q415955 ∈ P389475 := RS_m hT415862 ht415958 (by decide)
                    obtain ⟨p415967, p415968, p415969, p415970, p415971, p415972, p415973, he415966, bp415967, bp415968, bp415971, bp415972, bp415973, r415974, r415975, r415976, r415977⟩ := show rk_1 γ q415955 (F415861 q415955) from RS_o hT415862 ht415958
                    have bp415969 := gB_any p415969
                    have bp415970 := gB_any p415970
                    refine Gp_cast hm415965 he415966 rfl dr_cX17_share_194 wr_10_202 (gr_cast 1 rfl) ?_
                    refine G_astore (L' := [(6, .ref q415955), (5, .int g415860), (4, .ref q415675), (3, .int g415555), (2, .int g415031), (0, .ref q389477), (1, .ref q389478)]) dr_cX17_share_197 (Nat.le_of_ble_eq_true rfl) rfl ?_
                    refine G_aload 0 dr_cX17_share_199 rfl ?_
                    refine Gp_get 0 hm415965 he415966 dr_cX17_share_201 (gk_X15 D I) (Nat.le_of_ble_eq_true rfl) wr_9_177 rfl ?_
                    refine G_bipush 21 dr_cX17_share_204 (by decide +kernel) ?_
                    refine G_icmp_eq 219 dr_cX17_share_206 (by decide +kernel) (fun hc415978 => ?_) (fun hc415978 => ?_)
                    · have r415979 : p415967.toInt = 21 := gj_eq hc415978 (show Int32.toInt 21 = 21 by decide)
                      have bp415967' : gB p415967 21 21 := ⟨by omega, by omega⟩
                      refine G_aload 0 dr_cX17_share_219 rfl ?_
                      refine G_aload_n 5 dr_cX17_share_221 rfl ?_
                      refine Gp_get 19 hm415873 he415874 dr_cX17_share_222 (gk_X17 D I) (Nat.le_of_ble_eq_true rfl) wr_7_93 rfl ?_
                      refine G_aload 0 dr_cX17_share_225 rfl ?_
                      refine Gp_get 4 hm415965 he415966 dr_cX17_share_227 (gk_X15 D I) (Nat.le_of_ble_eq_true rfl) wr_9_193 rfl ?_
                      refine Gp_iald 0 hm415920 he415921 dr_cX17_share_230 rfl (gB_in bp415971 (by decide) (by decide)) (G_nam fun z415980 hz415980 => ?_)
                      have bz415980 : gB z415980 (-1) 1999 := by rw [hz415980]; exact bf415922 _
                      have r415981 : γ 7 (γ 1 q415955) = γ 7 (γ 1 q389478) := by rw [show γ 1 q415955 = γ 1 q415684 from ht415959, show γ 1 q415684 = γ 1 q415675 from ht415689, show γ 1 q415675 = γ 1 q415618 from ht415681, show γ 1 q415618 = γ 1 q389478 from ht415623]
                      have r415982 : 0 ≤ z415980.toInt ∧ z415980.toInt ≤ (p415971.toInt.toNat : Int) := by rw [hz415980]; exact cq415924 p415971.toInt.toNat (by omega)
                      have bz415980' : gB z415980 0 1999 := ⟨by omega, by omega⟩
                      refine Gp_put 4 hm415965 he415966 dr_cX17_share_231 (gk_X15 D I) (Nat.le_of_ble_eq_true rfl) wr_9_193 rfl rfl rfl (Nat.le_of_ble_eq_true rfl) (fun F415983 e415984 n415985 => ?_)
                      have he415986 : F415983 q389478 = .inr (18, [.ref q415618, .ref q415619, .int p415620, .int p415621]) := (n415985 q389478 (rn_oo he415868 he415966 (by decide))).trans he415868
                      have he415987 : F415983 q415618 = .inr (4, [.int p415656, .ref q415658, .int p415657]) := (n415985 q415618 (rn_oo he415869 he415966 (by decide))).trans he415869
                      have he415988 : F415983 q415658 = .inl (I (.object "java/lang/Object"), n415672, .inr (.inr (.inr (.inr f415673)))) := (n415985 q415658 (rn_ao he415870 he415966)).trans he415870
                      have he415989 : F415983 q415675 = .inr (17, [.ref q415684, .ref q415685, .int p415686, .int p415687]) := (n415985 q415675 (rn_oo he415871 he415966 (by decide))).trans he415871
                      have he415990 : F415983 q389477 = .inr (22, [.ref (γ 9 0), .ref (γ 9 1), .ref (γ 9 2), .ref (γ 9 3), .ref (γ 9 4), .ref (γ 9 5), .ref (γ 9 6), .ref (γ 9 7), .ref (γ 9 8), .int p415877, .int p415878, .int p415879, .int p415880, .int p415881, .int p415882, .ref (γ 9 15), .ref (γ 9 16), .ref (γ 9 17), .ref (γ 9 18), .ref (γ 9 19), .ref (γ 9 20), .ref (γ 9 21), .ref (γ 9 22), .int p415883, .int p415884, .int p415885, .int p415886, .int p415887, .ref q415875, .ref (γ 9 29), .int p415888, .ref (γ 9 31), .int p415889, .int p415890, .int p415891, .ref q415876]) := (n415985 q389477 (rn_oo he415874 he415966 (by decide))).trans he415874
                      have he415991 : F415983 (γ 9 19) = .inl (I .int, 2000, .inl f415922) := (n415985 (γ 9 19) (rn_ao he415921 he415966)).trans he415921
                      have he415992 : F415983 q415684 = .inr (4, [.int p415927, .ref q415929, .int p415928]) := (n415985 q415684 (rn_oo he415926 he415966 (by decide))).trans he415926
                      have he415993 : F415983 q415929 = .inl (I (.object "java/lang/Object"), n415952, .inr (.inr (.inr (.inr f415953)))) := (n415985 q415929 (rn_ao r415946 he415966)).trans r415946
                      have he415994 : F415983 q415955 = .inr (20, [.int p415967, .int p415968, .int p415969, .int p415970, .int z415980, .int p415972, .int p415973]) := e415984
                      have hs415995 : rStr γ [1] F389476 F415983 := rStr_pu2 hs415863 n415985 ht415958 (by decide)
                      have kp415996 : F415983 q389477 = F389476 q389477 := (n415985 q389477 (rn_ty htq389477 ht415958 (by decide))).trans x415865
                      obtain ⟨z415997, hz415997⟩ : ∃ z : Int32, z = g415860 + Int32.ofInt 1 := ⟨_, rfl⟩
                      have ez415997 : z415997.toInt = g415860.toInt + 1 := gI_inc hz415997 (by decide) bg415860' (by decide) (by decide)
                      have bz415997 : gB z415997 1 1000000 := ⟨by omega, by omega⟩
                      refine G_iinc (L' := [(5, .int z415997), (6, .ref q415955), (4, .ref q415675), (3, .int g415555), (2, .int g415031), (0, .ref q389477), (1, .ref q389478)]) z415997 1 dr_cX17_share_234 rfl hz415997.symm (Nat.le_of_ble_eq_true rfl) rfl ?_
                      refine G_goto 171 dr_cX17_share_237 (by decide +kernel) ?_
                      have hT415998 : RS D I P389475 F415983 γ el := RS_set hT415862 n415985 ht415958 (by decide) ⟨p415967, p415968, p415969, p415970, z415980, p415972, p415973, he415994, (gB_w bp415967' (by decide) (by decide)), bp415968, bz415980', bp415972, bp415973, (by omega), (by omega), (by omega), (by omega)⟩
                      refine G_lv (L' := [(5, .int z415997), (4, .ref q415675), (3, .int g415555), (2, .int g415031), (0, .ref q389477), (1, .ref q389478)]) [0, 2, 3, 4, 5, 6] rfl ?_
                      exact ih171_415865 F415983 z415997 (gB_w bz415997 (by decide) (by decide)) hT415998 hs415995 (by rw [cB_of he415991]; exact cq415924) kp415996 (by omega)
                    · have r415999 : p415967.toInt ≠ 21 := gj_neq hc415978 (show Int32.toInt 21 = 21 by decide)
                      refine G_aload 0 dr_cX17_share_209 rfl ?_
                      refine Gp_get 0 hm415965 he415966 dr_cX17_share_211 (gk_X15 D I) (Nat.le_of_ble_eq_true rfl) wr_9_177 rfl ?_
                      refine G_bipush 23 dr_cX17_share_214 (by decide +kernel) ?_
                      refine G_icmp_ne 234 dr_cX17_share_216 (by decide +kernel) (fun hc416000 => ?_) (fun hc416000 => ?_)
                      · have r416001 : p415967.toInt ≠ 23 := gj_neq hc416000 (show Int32.toInt 23 = 23 by decide)
                        obtain ⟨z416002, hz416002⟩ : ∃ z : Int32, z = g415860 + Int32.ofInt 1 := ⟨_, rfl⟩
                        have ez416002 : z416002.toInt = g415860.toInt + 1 := gI_inc hz416002 (by decide) bg415860' (by decide) (by decide)
                        have bz416002 : gB z416002 1 1000000 := ⟨by omega, by omega⟩
                        refine G_iinc (L' := [(5, .int z416002), (6, .ref q415955), (4, .ref q415675), (3, .int g415555), (2, .int g415031), (0, .ref q389477), (1, .ref q389478)]) z416002 1 dr_cX17_share_234 rfl hz416002.symm (Nat.le_of_ble_eq_true rfl) rfl ?_
                        refine G_goto 171 dr_cX17_share_237 (by decide +kernel) ?_
                        refine G_lv (L' := [(5, .int z416002), (4, .ref q415675), (3, .int g415555), (2, .int g415031), (0, .ref q389477), (1, .ref q389478)]) [0, 2, 3, 4, 5, 6] rfl ?_
                        exact ih171_415865 F415861 z416002 (gB_w bz416002 (by decide) (by decide)) hT415862 hs415863 (by rw [cB_of he415921]; exact cq415924) x415865 (by omega)
                      · have r416003 : p415967.toInt = 23 := gj_eq hc416000 (show Int32.toInt 23 = 23 by decide)
                        have bp415967' : gB p415967 23 23 := ⟨by omega, by omega⟩
                        refine G_aload 0 dr_cX17_share_219 rfl ?_
                        refine G_aload_n 5 dr_cX17_share_221 rfl ?_
                        refine Gp_get 19 hm415873 he415874 dr_cX17_share_222 (gk_X17 D I) (Nat.le_of_ble_eq_true rfl) wr_7_93 rfl ?_
                        refine G_aload 0 dr_cX17_share_225 rfl ?_
                        refine Gp_get 4 hm415965 he415966 dr_cX17_share_227 (gk_X15 D I) (Nat.le_of_ble_eq_true rfl) wr_9_193 rfl ?_
                        refine Gp_iald 0 hm415920 he415921 dr_cX17_share_230 rfl (gB_in bp415971 (by decide) (by decide)) (G_nam fun z416004 hz416004 => ?_)
                        have bz416004 : gB z416004 (-1) 1999 := by rw [hz416004]; exact bf415922 _
                        have r416005 : γ 7 (γ 1 q415955) = γ 7 (γ 1 q389478) := by rw [show γ 1 q415955 = γ 1 q415684 from ht415959, show γ 1 q415684 = γ 1 q415675 from ht415689, show γ 1 q415675 = γ 1 q415618 from ht415681, show γ 1 q415618 = γ 1 q389478 from ht415623]
                        have r416006 : 0 ≤ z416004.toInt ∧ z416004.toInt ≤ (p415971.toInt.toNat : Int) := by rw [hz416004]; exact cq415924 p415971.toInt.toNat (by omega)
                        have bz416004' : gB z416004 0 1999 := ⟨by omega, by omega⟩
                        refine Gp_put 4 hm415965 he415966 dr_cX17_share_231 (gk_X15 D I) (Nat.le_of_ble_eq_true rfl) wr_9_193 rfl rfl rfl (Nat.le_of_ble_eq_true rfl) (fun F416007 e416008 n416009 => ?_)
                        have he416010 : F416007 q389478 = .inr (18, [.ref q415618, .ref q415619, .int p415620, .int p415621]) := (n416009 q389478 (rn_oo he415868 he415966 (by decide))).trans he415868
                        have he416011 : F416007 q415618 = .inr (4, [.int p415656, .ref q415658, .int p415657]) := (n416009 q415618 (rn_oo he415869 he415966 (by decide))).trans he415869
                        have he416012 : F416007 q415658 = .inl (I (.object "java/lang/Object"), n415672, .inr (.inr (.inr (.inr f415673)))) := (n416009 q415658 (rn_ao he415870 he415966)).trans he415870
                        have he416013 : F416007 q415675 = .inr (17, [.ref q415684, .ref q415685, .int p415686, .int p415687]) := (n416009 q415675 (rn_oo he415871 he415966 (by decide))).trans he415871
                        have he416014 : F416007 q389477 = .inr (22, [.ref (γ 9 0), .ref (γ 9 1), .ref (γ 9 2), .ref (γ 9 3), .ref (γ 9 4), .ref (γ 9 5), .ref (γ 9 6), .ref (γ 9 7), .ref (γ 9 8), .int p415877, .int p415878, .int p415879, .int p415880, .int p415881, .int p415882, .ref (γ 9 15), .ref (γ 9 16), .ref (γ 9 17), .ref (γ 9 18), .ref (γ 9 19), .ref (γ 9 20), .ref (γ 9 21), .ref (γ 9 22), .int p415883, .int p415884, .int p415885, .int p415886, .int p415887, .ref q415875, .ref (γ 9 29), .int p415888, .ref (γ 9 31), .int p415889, .int p415890, .int p415891, .ref q415876]) := (n416009 q389477 (rn_oo he415874 he415966 (by decide))).trans he415874
                        have he416015 : F416007 (γ 9 19) = .inl (I .int, 2000, .inl f415922) := (n416009 (γ 9 19) (rn_ao he415921 he415966)).trans he415921
                        have he416016 : F416007 q415684 = .inr (4, [.int p415927, .ref q415929, .int p415928]) := (n416009 q415684 (rn_oo he415926 he415966 (by decide))).trans he415926
                        have he416017 : F416007 q415929 = .inl (I (.object "java/lang/Object"), n415952, .inr (.inr (.inr (.inr f415953)))) := (n416009 q415929 (rn_ao r415946 he415966)).trans r415946
                        have he416018 : F416007 q415955 = .inr (20, [.int p415967, .int p415968, .int p415969, .int p415970, .int z416004, .int p415972, .int p415973]) := e416008
                        have hs416019 : rStr γ [1] F389476 F416007 := rStr_pu2 hs415863 n416009 ht415958 (by decide)
                        have kp416020 : F416007 q389477 = F389476 q389477 := (n416009 q389477 (rn_ty htq389477 ht415958 (by decide))).trans x415865
                        obtain ⟨z416021, hz416021⟩ : ∃ z : Int32, z = g415860 + Int32.ofInt 1 := ⟨_, rfl⟩
                        have ez416021 : z416021.toInt = g415860.toInt + 1 := gI_inc hz416021 (by decide) bg415860' (by decide) (by decide)
                        have bz416021 : gB z416021 1 1000000 := ⟨by omega, by omega⟩
                        refine G_iinc (L' := [(5, .int z416021), (6, .ref q415955), (4, .ref q415675), (3, .int g415555), (2, .int g415031), (0, .ref q389477), (1, .ref q389478)]) z416021 1 dr_cX17_share_234 rfl hz416021.symm (Nat.le_of_ble_eq_true rfl) rfl ?_
                        refine G_goto 171 dr_cX17_share_237 (by decide +kernel) ?_
                        have hT416022 : RS D I P389475 F416007 γ el := RS_set hT415862 n416009 ht415958 (by decide) ⟨p415967, p415968, p415969, p415970, z416004, p415972, p415973, he416018, (gB_w bp415967' (by decide) (by decide)), bp415968, bz416004', bp415972, bp415973, (by omega), (by omega), (by omega), (by omega)⟩
                        refine G_lv (L' := [(5, .int z416021), (4, .ref q415675), (3, .int g415555), (2, .int g415031), (0, .ref q389477), (1, .ref q389478)]) [0, 2, 3, 4, 5, 6] rfl ?_
                        exact ih171_415865 F416007 z416021 (gB_w bz416021 (by decide) (by decide)) hT416022 hs416019 (by rw [cB_of he416015]; exact cq415924) kp416020 (by omega)
              exact hlp171_415865 (((1000001 : Int) - 0).toNat + 1) F415556 0 (gB_w (gBl (show Int32.toInt 0 = 0 by decide)) (by decide) (by decide)) hT415557 hs415558 (by rw [cB_of he415612]; exact cq415615) x415560 (Nat.lt_succ_self _)
        exact hlp153_415560 (((1000001 : Int) - 0).toNat + 1) F415032 0 (gB_w (gBl (show Int32.toInt 0 = 0 by decide)) (by decide) (by decide)) hT415033 hs415034 (by rw [cB_of he415088]; exact fun q hq => cq415091 q (by omega)) x415036 (Nat.lt_succ_self _)
      · have r416023 : g415030.toInt < p415046.toInt := gC_nle hc415092
        have bg415030' : gB g415030 0 99 := ⟨by omega, by omega⟩
        have bp415046' : gB p415046 1 100 := ⟨by omega, by omega⟩
        refine G_iconst 0 dr_cX17_share_18 (by decide +kernel) ?_
        refine G_istore (L' := [(4, .int 0), (3, .int g415030), (2, .int g415031), (0, .ref q389477), (1, .ref q389478)]) dr_cX17_share_19 (Nat.le_of_ble_eq_true rfl) rfl ?_
        refine G_iconst 0 dr_cX17_share_21 (by decide +kernel) ?_
        refine G_istore (L' := [(5, .int 0), (4, .int 0), (3, .int g415030), (2, .int g415031), (0, .ref q389477), (1, .ref q389478)]) dr_cX17_share_22 (Nat.le_of_ble_eq_true rfl) rfl ?_
        have hlp24_416553 : ∀ (n24_416553 : Nat) (F416549 : Nat → va_E) (g416548 : Int32), gB g416548 0 1999 → RS D I P389475 F416549 γ el → rStr γ [1] F389476 F416549 → (∀ q : Nat, (q : Int) < g415030.toInt → 0 ≤ (cB (F416549 (γ 9 19)) q).toInt ∧ (cB (F416549 (γ 9 19)) q).toInt ≤ q) → (F416549 q389477 = F389476 q389477) → ((2000 : Int) - g416548.toInt).toNat < n24_416553 → G (gV D I) l (gRm 6 141 0 0) (gMA (gV D I) (pt_389481_SpillForgeModel_share D I γ el P389475 F389476 q389477 q389478) gNA 0 0) ky_389481_SpillForgeModel_share 24 [(5, .int g416548), (4, .int 0), (3, .int g415030), (2, .int g415031), (0, .ref q389477), (1, .ref q389478)] [] (va_pl P389475 F416549) 0 0 := by
          intro n24_416553
          induction n24_416553 with
          | zero => intro F416549 g416548 bg416548 hT416550 hs416551 x416552 x416553 hm24_416553; exact absurd hm24_416553 (Nat.not_lt_zero _)
          | succ n24_416553 ih24_416553 =>
            intro F416549 g416548 bg416548 hT416550 hs416551 x416552 x416553 hm24_416553
            have hs416555 : rStr γ [1] F415032 F416549 := fun b h0 hb hw => (hs416551 b h0 hb hw).trans (hs415034 b h0 hb hw).symm
            have hs416556 : rStr γ [1] F389476 F416549 := rStr_tr hs415034 hs416555
            have hm416557 : q389477 ∈ P389475 := RS_m hT416550 htq389477 (by decide)
            obtain ⟨q416559, q416560, p416561, p416562, p416563, p416564, p416565, p416566, p416567, p416568, p416569, p416570, p416571, p416572, p416573, p416574, p416575, he416558, hB416602, ht416576, ht416577, ht416578, ht416579, ht416580, ht416581, ht416582, ht416583, ht416584, ht416585, ht416586, ht416587, ht416588, ht416589, ht416590, ht416591, ht416592, ht416593, ht416594, ht416595, ht416596, ht416597, ht416598, ht416599, hB416603⟩ := show rk_10 γ (F416549 q389477) from RS_o hT416550 htq389477
            have hm416604 : (γ 9 19) ∈ P389475 := RS_m hT416550 ht416591 (by decide)
            obtain ⟨f416606, he416605, bf416606⟩ := show rk_21 I (F416549 (γ 9 19)) from RS_o hT416550 ht416591
            have r416607 : p416563.toInt = p389488.toInt := congrArg (fun e => (fI e 11).toInt) (he416558.symm.trans ((x416553).trans he389483))
            have bp416563 : gB p416563 0 100 := (hB416602.2.2.1)
            have cq416608 := x416552
            rw [cB_of he416605] at cq416608
            refine G_iload 0 dr_cX17_share_24 rfl ?_
            refine G_iload_n 2 dr_cX17_share_26 rfl ?_
            refine G_icmp_ge 44 dr_cX17_share_27 (by decide +kernel) (fun hc416609 => ?_) (fun hc416609 => ?_)
            · have r416610 : g415030.toInt ≤ g416548.toInt := gC_le hc416609
              refine G_iconst 0 dr_cX17_share_44 (by decide +kernel) ?_
              refine G_istore (L' := [(5, .int 0), (4, .int 0), (3, .int g415030), (2, .int g415031), (0, .ref q389477), (1, .ref q389478)]) dr_cX17_share_45 (Nat.le_of_ble_eq_true rfl) rfl ?_
              have hlp47_416840 : ∀ (n47_416840 : Nat) (F416836 : Nat → va_E) (g416835 : Int32), gB g416835 0 99 → RS D I P389475 F416836 γ el → rStr γ [1] F389476 F416836 → (∀ q : Nat, (q : Int) < g415030.toInt → 0 ≤ (cB (F416836 (γ 9 19)) q).toInt ∧ (cB (F416836 (γ 9 19)) q).toInt ≤ q) → (F416836 q389477 = F389476 q389477) → ((100 : Int) - g416835.toInt).toNat < n47_416840 → G (gV D I) l (gRm 6 141 0 0) (gMA (gV D I) (pt_389481_SpillForgeModel_share D I γ el P389475 F389476 q389477 q389478) gNA 0 0) ky_389481_SpillForgeModel_share 47 [(5, .int g416835), (4, .int 0), (3, .int g415030), (2, .int g415031), (0, .ref q389477), (1, .ref q389478)] [] (va_pl P389475 F416836) 0 0 := by
                intro n47_416840
                induction n47_416840 with
                | zero => intro F416836 g416835 bg416835 hT416837 hs416838 x416839 x416840 hm47_416840; exact absurd hm47_416840 (Nat.not_lt_zero _)
                | succ n47_416840 ih47_416840 =>
                  intro F416836 g416835 bg416835 hT416837 hs416838 x416839 x416840 hm47_416840
                  have hs416842 : rStr γ [1] F416549 F416836 := fun b h0 hb hw => (hs416838 b h0 hb hw).trans (hs416551 b h0 hb hw).symm
                  have hs416843 : rStr γ [1] F389476 F416836 := rStr_tr hs416551 hs416842
                  have hm416844 : q389477 ∈ P389475 := RS_m hT416837 htq389477 (by decide)
                  obtain ⟨q416846, q416847, p416848, p416849, p416850, p416851, p416852, p416853, p416854, p416855, p416856, p416857, p416858, p416859, p416860, p416861, p416862, he416845, hB416889, ht416863, ht416864, ht416865, ht416866, ht416867, ht416868, ht416869, ht416870, ht416871, ht416872, ht416873, ht416874, ht416875, ht416876, ht416877, ht416878, ht416879, ht416880, ht416881, ht416882, ht416883, ht416884, ht416885, ht416886, hB416890⟩ := show rk_10 γ (F416836 q389477) from RS_o hT416837 htq389477
                  have hm416891 : (γ 9 19) ∈ P389475 := RS_m hT416837 ht416878 (by decide)
                  obtain ⟨f416893, he416892, bf416893⟩ := show rk_21 I (F416836 (γ 9 19)) from RS_o hT416837 ht416878
                  have r416894 : p416850.toInt = p389488.toInt := congrArg (fun e => (fI e 11).toInt) (he416845.symm.trans ((x416840).trans he389483))
                  have bp416850 : gB p416850 0 100 := (hB416889.2.2.1)
                  have cq416895 := x416839
                  rw [cB_of he416892] at cq416895
                  refine G_iload 0 dr_cX17_share_47 rfl ?_
                  refine G_iload_n 2 dr_cX17_share_49 rfl ?_
                  refine G_icmp_ge 96 dr_cX17_share_50 (by decide +kernel) (fun hc416896 => ?_) (fun hc416896 => ?_)
                  · have r416897 : g415030.toInt ≤ g416835.toInt := gC_le hc416896
                    have hlp96_416953 : ∀ (n96_416953 : Nat) (g416951 : Int32), gB g416951 0 99 → (∀ q : Nat, (q : Int) < g415030.toInt → 0 ≤ (cB (F416836 (γ 9 19)) q).toInt ∧ (cB (F416836 (γ 9 19)) q).toInt ≤ q) → (g416951.toInt ≤ g415030.toInt) → ((100 : Int) - g416951.toInt).toNat < n96_416953 → G (gV D I) l (gRm 6 141 0 0) (gMA (gV D I) (pt_389481_SpillForgeModel_share D I γ el P389475 F389476 q389477 q389478) gNA 0 0) ky_389481_SpillForgeModel_share 96 [(5, .int g416835), (4, .int g416951), (3, .int g415030), (2, .int g415031), (0, .ref q389477), (1, .ref q389478)] [] (va_pl P389475 F416836) 0 0 := by
                      intro n96_416953
                      induction n96_416953 with
                      | zero => intro g416951 bg416951 x416952 x416953 hm96_416953; exact absurd hm96_416953 (Nat.not_lt_zero _)
                      | succ n96_416953 ih96_416953 =>
                        intro g416951 bg416951 x416952 x416953 hm96_416953
                        have r416955 : p416850.toInt = p389488.toInt := congrArg (fun e => (fI e 11).toInt) (he416845.symm.trans ((x416840).trans he389483))
                        have cq416956 := x416952
                        rw [cB_of he416892] at cq416956
                        refine G_iload 1 dr_cX17_share_96 rfl ?_
                        refine G_iload_n 2 dr_cX17_share_98 rfl ?_
                        refine G_icmp_ge 119 dr_cX17_share_99 (by decide +kernel) (fun hc416957 => ?_) (fun hc416957 => ?_)
                        · have r416958 : g415030.toInt ≤ g416951.toInt := gC_le hc416957
                          refine G_aload_n 4 dr_cX17_share_119 rfl ?_
                          refine Gp_get 19 hm416844 he416845 dr_cX17_share_120 (gk_X17 D I) (Nat.le_of_ble_eq_true rfl) wr_7_93 rfl ?_
                          refine G_iload_n 2 dr_cX17_share_123 rfl ?_
                          refine G_iload 1 dr_cX17_share_124 rfl ?_
                          refine Gp_iast 0 hm416891 he416892 dr_cX17_share_126 rfl (gB_in bg415030' (by decide) (by decide)) (fun F416959 e416960 n416961 => ?_)
                          obtain ⟨f416962, hf416962⟩ : ∃ z, z = upd f416893 g415030.toNatClampNeg g416951 := ⟨_, rfl⟩
                          rw [← hf416962] at e416960
                          have he416963 : F416959 q389477 = .inr (22, [.ref (γ 9 0), .ref (γ 9 1), .ref (γ 9 2), .ref (γ 9 3), .ref (γ 9 4), .ref (γ 9 5), .ref (γ 9 6), .ref (γ 9 7), .ref (γ 9 8), .int p416848, .int p416849, .int p416850, .int p416851, .int p416852, .int p416853, .ref (γ 9 15), .ref (γ 9 16), .ref (γ 9 17), .ref (γ 9 18), .ref (γ 9 19), .ref (γ 9 20), .ref (γ 9 21), .ref (γ 9 22), .int p416854, .int p416855, .int p416856, .int p416857, .int p416858, .ref q416846, .ref (γ 9 29), .int p416859, .ref (γ 9 31), .int p416860, .int p416861, .int p416862, .ref q416847]) := (n416961 q389477 (rn_oa he416845 he416892)).trans he416845
                          have he416964 : F416959 (γ 9 19) = .inl (I .int, 2000, .inl f416962) := e416960
                          have hs416965 : rStr γ [1] F389476 F416959 := rStr_put hs416838 n416961 ht416878 (by decide)
                          have kp416966 : F416959 q389477 = F389476 q389477 := (n416961 q389477 (rn_ty htq389477 ht416878 (by decide))).trans x416840
                          have bf416962 : gF f416962 (-1) 1999 := gF_upd hf416962 bf416893 (gB_w bg416951 (by decide) (by decide))
                          refine G_aload_n 4 dr_cX17_share_127 rfl ?_
                          refine Gp_get 3 hm416844 he416963 dr_cX17_share_128 (gk_X17 D I) (Nat.le_of_ble_eq_true rfl) wr_7_77 rfl ?_
                          refine G_iload_n 2 dr_cX17_share_131 rfl ?_
                          have hT416967 : RS D I P389475 F416959 γ el := RS_set hT416837 n416961 ht416878 (by decide) ⟨f416962, he416964, bf416962⟩
                          have hm416968 : (γ 9 3) ∈ P389475 := RS_m hT416967 ht416868 (by decide)
                          obtain ⟨f416970, he416969, bf416970⟩ := show rk_14 I (F416959 (γ 9 3)) from RS_o hT416967 ht416868
                          refine Gp_zald 3 hm416968 he416969 dr_cX17_share_132 rfl (gB_in bg415030' (by decide) (by decide)) (G_nam fun z416971 hz416971 => ?_)
                          have bz416971 : gB z416971 0 1 := by rw [hz416971]; exact bf416970 _
                          refine G_if_eq 145 dr_cX17_share_133 (by decide +kernel) (fun hc416972 => ?_) (fun hc416972 => ?_)
                          · have r416973 : z416971.toInt = 0 := gj_eq hc416972 (show Int32.toInt 0 = 0 by decide)
                            have bz416971' : gB z416971 0 0 := ⟨by omega, by omega⟩
                            obtain ⟨z416974, hz416974⟩ : ∃ z : Int32, z = g415030 + Int32.ofInt 1 := ⟨_, rfl⟩
                            have ez416974 : z416974.toInt = g415030.toInt + 1 := gI_inc hz416974 (by decide) bg415030' (by decide) (by decide)
                            have bz416974 : gB z416974 1 100 := ⟨by omega, by omega⟩
                            refine G_iinc (L' := [(3, .int z416974), (5, .int g416835), (4, .int g416951), (2, .int g415031), (0, .ref q389477), (1, .ref q389478)]) z416974 2 dr_cX17_share_145 rfl hz416974.symm (Nat.le_of_ble_eq_true rfl) rfl ?_
                            refine G_goto 10 dr_cX17_share_148 (by decide +kernel) ?_
                            refine G_lv (L' := [(3, .int z416974), (2, .int g415031), (0, .ref q389477), (1, .ref q389478)]) [0, 3, 4, 5] rfl ?_
                            exact ih10_415036 F416959 z416974 g415031 (gB_w bz416974 (by decide) (by decide)) bg415031 hT416967 hs416965 (by rw [ez416974]; rw [cB_of he416964]; exact sl_u hf416962 (by omega) (by omega) (by omega) cq416956) kp416966 (by omega)
                          · have r416975 : z416971.toInt ≠ 0 := gj_neq hc416972 (show Int32.toInt 0 = 0 by decide)
                            have bz416971' : gB z416971 1 1 := ⟨by omega, by omega⟩
                            refine G_iload_n 3 dr_cX17_share_136 rfl ?_
                            refine G_iload 1 dr_cX17_share_137 rfl ?_
                            refine G_iconst 1 dr_cX17_share_139 (by decide +kernel) ?_
                            refine G_iadd dr_cX17_share_140 (G_nam fun z416976 hz416976 => ?_)
                            have ez416976 : z416976.toInt = g416951.toInt + 1 := by rw [gI_add hz416976 bg416951 (gBl (show Int32.toInt 1 = 1 by decide)) (by decide) (by decide), show Int32.toInt 1 = 1 from by decide]
                            have bz416976 : gB z416976 1 100 := gB_add (gI_add hz416976 bg416951 (gBl (show Int32.toInt 1 = 1 by decide)) (by decide) (by decide)) bg416951 (gBl (show Int32.toInt 1 = 1 by decide)) (by decide) (by decide)
                            refine G_mmax dr_cX17_share_141 wr_11_21 wr_1_140 wr_1_6 wr_1_141 (Nat.le_of_ble_eq_true rfl) (Nat.le_of_ble_eq_true rfl) (show 0 ≤ 0 by first | omega | decide) (show 0 ≤ 0 by first | omega | decide) (G_nam fun z416977 hz416977 => ?_)
                            have ez416977 : g415031.toInt ≤ z416977.toInt ∧ z416976.toInt ≤ z416977.toInt ∧ (z416977.toInt = g415031.toInt ∨ z416977.toInt = z416976.toInt) := by have := gI_max hz416977; omega
                            have bz416977 : gB z416977 1 1999 := ⟨by omega, by omega⟩
                            refine G_istore_n (L' := [(2, .int z416977), (5, .int g416835), (4, .int g416951), (3, .int g415030), (0, .ref q389477), (1, .ref q389478)]) dr_cX17_share_144 (Nat.le_of_ble_eq_true rfl) rfl ?_
                            obtain ⟨z416978, hz416978⟩ : ∃ z : Int32, z = g415030 + Int32.ofInt 1 := ⟨_, rfl⟩
                            have ez416978 : z416978.toInt = g415030.toInt + 1 := gI_inc hz416978 (by decide) bg415030' (by decide) (by decide)
                            have bz416978 : gB z416978 1 100 := ⟨by omega, by omega⟩
                            refine G_iinc (L' := [(3, .int z416978), (2, .int z416977), (5, .int g416835), (4, .int g416951), (0, .ref q389477), (1, .ref q389478)]) z416978 3 dr_cX17_share_145 rfl hz416978.symm (Nat.le_of_ble_eq_true rfl) rfl ?_
                            refine G_goto 10 dr_cX17_share_148 (by decide +kernel) ?_
                            refine G_lv (L' := [(3, .int z416978), (2, .int z416977), (0, .ref q389477), (1, .ref q389478)]) [0, 1, 4, 5] rfl ?_
                            exact ih10_415036 F416959 z416978 z416977 (gB_w bz416978 (by decide) (by decide)) (gB_w bz416977 (by decide) (by decide)) hT416967 hs416965 (by rw [ez416978]; rw [cB_of he416964]; exact sl_u hf416962 (by omega) (by omega) (by omega) cq416956) kp416966 (by omega)
                        · have r416979 : g416951.toInt < g415030.toInt := gC_nle hc416957
                          have bg416951' : gB g416951 0 98 := ⟨by omega, by omega⟩
                          have bg415030'' : gB g415030 1 99 := ⟨by omega, by omega⟩
                          refine G_aload_n 4 dr_cX17_share_102 rfl ?_
                          refine Gp_get 16 hm416844 he416845 dr_cX17_share_103 (gk_X17 D I) (Nat.le_of_ble_eq_true rfl) wr_7_90 rfl ?_
                          refine G_iload 1 dr_cX17_share_106 rfl ?_
                          have hm416980 : (γ 9 16) ∈ P389475 := RS_m hT416837 ht416875 (by decide)
                          obtain ⟨f416982, he416981⟩ := show rk_19 I (F416836 (γ 9 16)) from RS_o hT416837 ht416875
                          refine Gp_iald 0 hm416980 he416981 dr_cX17_share_108 rfl (gB_in bg416951' (by decide) (by decide)) (G_nam fun z416983 hz416983 => ?_)
                          have bz416983 : gB z416983 (-2147483648) 2147483647 := gB_any z416983
                          refine G_iconst 1 dr_cX17_share_109 (by decide +kernel) ?_
                          refine G_icmp_ne 119 dr_cX17_share_110 (by decide +kernel) (fun hc416984 => ?_) (fun hc416984 => ?_)
                          · have r416985 : z416983.toInt ≠ 1 := gj_neq hc416984 (show Int32.toInt 1 = 1 by decide)
                            refine G_aload_n 4 dr_cX17_share_119 rfl ?_
                            refine Gp_get 19 hm416844 he416845 dr_cX17_share_120 (gk_X17 D I) (Nat.le_of_ble_eq_true rfl) wr_7_93 rfl ?_
                            refine G_iload_n 2 dr_cX17_share_123 rfl ?_
                            refine G_iload 1 dr_cX17_share_124 rfl ?_
                            refine Gp_iast 0 hm416891 he416892 dr_cX17_share_126 rfl (gB_in bg415030'' (by decide) (by decide)) (fun F416986 e416987 n416988 => ?_)
                            obtain ⟨f416989, hf416989⟩ : ∃ z, z = upd f416893 g415030.toNatClampNeg g416951 := ⟨_, rfl⟩
                            rw [← hf416989] at e416987
                            have he416990 : F416986 q389477 = .inr (22, [.ref (γ 9 0), .ref (γ 9 1), .ref (γ 9 2), .ref (γ 9 3), .ref (γ 9 4), .ref (γ 9 5), .ref (γ 9 6), .ref (γ 9 7), .ref (γ 9 8), .int p416848, .int p416849, .int p416850, .int p416851, .int p416852, .int p416853, .ref (γ 9 15), .ref (γ 9 16), .ref (γ 9 17), .ref (γ 9 18), .ref (γ 9 19), .ref (γ 9 20), .ref (γ 9 21), .ref (γ 9 22), .int p416854, .int p416855, .int p416856, .int p416857, .int p416858, .ref q416846, .ref (γ 9 29), .int p416859, .ref (γ 9 31), .int p416860, .int p416861, .int p416862, .ref q416847]) := (n416988 q389477 (rn_oa he416845 he416892)).trans he416845
                            have he416991 : F416986 (γ 9 16) = .inl (I .int, 2000, .inl f416982) := (n416988 (γ 9 16) (rn_ty ht416875 ht416878 (by decide))).trans he416981
                            have he416992 : F416986 (γ 9 19) = .inl (I .int, 2000, .inl f416989) := e416987
                            have hs416993 : rStr γ [1] F389476 F416986 := rStr_put hs416838 n416988 ht416878 (by decide)
                            have kp416994 : F416986 q389477 = F389476 q389477 := (n416988 q389477 (rn_ty htq389477 ht416878 (by decide))).trans x416840
                            have bf416989 : gF f416989 (-1) 1999 := gF_upd hf416989 bf416893 (gB_w bg416951' (by decide) (by decide))
                            refine G_aload_n 4 dr_cX17_share_127 rfl ?_
                            refine Gp_get 3 hm416844 he416990 dr_cX17_share_128 (gk_X17 D I) (Nat.le_of_ble_eq_true rfl) wr_7_77 rfl ?_
                            refine G_iload_n 2 dr_cX17_share_131 rfl ?_
                            have hT416995 : RS D I P389475 F416986 γ el := RS_set hT416837 n416988 ht416878 (by decide) ⟨f416989, he416992, bf416989⟩
                            have hm416996 : (γ 9 3) ∈ P389475 := RS_m hT416995 ht416868 (by decide)
                            obtain ⟨f416998, he416997, bf416998⟩ := show rk_14 I (F416986 (γ 9 3)) from RS_o hT416995 ht416868
                            refine Gp_zald 3 hm416996 he416997 dr_cX17_share_132 rfl (gB_in bg415030'' (by decide) (by decide)) (G_nam fun z416999 hz416999 => ?_)
                            have bz416999 : gB z416999 0 1 := by rw [hz416999]; exact bf416998 _
                            refine G_if_eq 145 dr_cX17_share_133 (by decide +kernel) (fun hc417000 => ?_) (fun hc417000 => ?_)
                            · have r417001 : z416999.toInt = 0 := gj_eq hc417000 (show Int32.toInt 0 = 0 by decide)
                              have bz416999' : gB z416999 0 0 := ⟨by omega, by omega⟩
                              obtain ⟨z417002, hz417002⟩ : ∃ z : Int32, z = g415030 + Int32.ofInt 1 := ⟨_, rfl⟩
                              have ez417002 : z417002.toInt = g415030.toInt + 1 := gI_inc hz417002 (by decide) bg415030'' (by decide) (by decide)
                              have bz417002 : gB z417002 2 100 := ⟨by omega, by omega⟩
                              refine G_iinc (L' := [(3, .int z417002), (5, .int g416835), (4, .int g416951), (2, .int g415031), (0, .ref q389477), (1, .ref q389478)]) z417002 2 dr_cX17_share_145 rfl hz417002.symm (Nat.le_of_ble_eq_true rfl) rfl ?_
                              refine G_goto 10 dr_cX17_share_148 (by decide +kernel) ?_
                              refine G_lv (L' := [(3, .int z417002), (2, .int g415031), (0, .ref q389477), (1, .ref q389478)]) [0, 3, 4, 5] rfl ?_
                              exact ih10_415036 F416986 z417002 g415031 (gB_w bz417002 (by decide) (by decide)) bg415031 hT416995 hs416993 (by rw [ez417002]; rw [cB_of he416992]; exact sl_u hf416989 (by omega) (by omega) (by omega) cq416956) kp416994 (by omega)
                            · have r417003 : z416999.toInt ≠ 0 := gj_neq hc417000 (show Int32.toInt 0 = 0 by decide)
                              have bz416999' : gB z416999 1 1 := ⟨by omega, by omega⟩
                              refine G_iload_n 3 dr_cX17_share_136 rfl ?_
                              refine G_iload 1 dr_cX17_share_137 rfl ?_
                              refine G_iconst 1 dr_cX17_share_139 (by decide +kernel) ?_
                              refine G_iadd dr_cX17_share_140 (G_nam fun z417004 hz417004 => ?_)
                              have ez417004 : z417004.toInt = g416951.toInt + 1 := by rw [gI_add hz417004 bg416951' (gBl (show Int32.toInt 1 = 1 by decide)) (by decide) (by decide), show Int32.toInt 1 = 1 from by decide]
                              have bz417004 : gB z417004 1 99 := gB_add (gI_add hz417004 bg416951' (gBl (show Int32.toInt 1 = 1 by decide)) (by decide) (by decide)) bg416951' (gBl (show Int32.toInt 1 = 1 by decide)) (by decide) (by decide)
                              refine G_mmax dr_cX17_share_141 wr_11_21 wr_1_140 wr_1_6 wr_1_141 (Nat.le_of_ble_eq_true rfl) (Nat.le_of_ble_eq_true rfl) (show 0 ≤ 0 by first | omega | decide) (show 0 ≤ 0 by first | omega | decide) (G_nam fun z417005 hz417005 => ?_)
                              have ez417005 : g415031.toInt ≤ z417005.toInt ∧ z417004.toInt ≤ z417005.toInt ∧ (z417005.toInt = g415031.toInt ∨ z417005.toInt = z417004.toInt) := by have := gI_max hz417005; omega
                              have bz417005 : gB z417005 1 1999 := ⟨by omega, by omega⟩
                              refine G_istore_n (L' := [(2, .int z417005), (5, .int g416835), (4, .int g416951), (3, .int g415030), (0, .ref q389477), (1, .ref q389478)]) dr_cX17_share_144 (Nat.le_of_ble_eq_true rfl) rfl ?_
                              obtain ⟨z417006, hz417006⟩ : ∃ z : Int32, z = g415030 + Int32.ofInt 1 := ⟨_, rfl⟩
                              have ez417006 : z417006.toInt = g415030.toInt + 1 := gI_inc hz417006 (by decide) bg415030'' (by decide) (by decide)
                              have bz417006 : gB z417006 2 100 := ⟨by omega, by omega⟩
                              refine G_iinc (L' := [(3, .int z417006), (2, .int z417005), (5, .int g416835), (4, .int g416951), (0, .ref q389477), (1, .ref q389478)]) z417006 3 dr_cX17_share_145 rfl hz417006.symm (Nat.le_of_ble_eq_true rfl) rfl ?_
                              refine G_goto 10 dr_cX17_share_148 (by decide +kernel) ?_
                              refine G_lv (L' := [(3, .int z417006), (2, .int z417005), (0, .ref q389477), (1, .ref q389478)]) [0, 1, 4, 5] rfl ?_
                              exact ih10_415036 F416986 z417006 z417005 (gB_w bz417006 (by decide) (by decide)) (gB_w bz417005 (by decide) (by decide)) hT416995 hs416993 (by rw [ez417006]; rw [cB_of he416992]; exact sl_u hf416989 (by omega) (by omega) (by omega) cq416956) kp416994 (by omega)
                          · have r417007 : z416983.toInt = 1 := gj_eq hc416984 (show Int32.toInt 1 = 1 by decide)
                            have bz416983' : gB z416983 1 1 := ⟨by omega, by omega⟩
                            obtain ⟨z417008, hz417008⟩ : ∃ z : Int32, z = g416951 + Int32.ofInt 1 := ⟨_, rfl⟩
                            have ez417008 : z417008.toInt = g416951.toInt + 1 := gI_inc hz417008 (by decide) bg416951' (by decide) (by decide)
                            have bz417008 : gB z417008 1 99 := ⟨by omega, by omega⟩
                            refine G_iinc (L' := [(4, .int z417008), (5, .int g416835), (3, .int g415030), (2, .int g415031), (0, .ref q389477), (1, .ref q389478)]) z417008 1 dr_cX17_share_113 rfl hz417008.symm (Nat.le_of_ble_eq_true rfl) rfl ?_
                            refine G_goto 96 dr_cX17_share_116 (by decide +kernel) ?_
                            refine G_lv (L' := [(5, .int g416835), (4, .int z417008), (3, .int g415030), (2, .int g415031), (0, .ref q389477), (1, .ref q389478)]) [1, 0, 2, 3, 4, 5] rfl ?_
                            exact ih96_416953 z417008 (gB_w bz417008 (by decide) (by decide)) (by rw [cB_of he416892]; exact cq416956) (by omega) (by omega)
                    exact hlp96_416953 (((100 : Int) - 0).toNat + 1) 0 (gB_w (gBl (show Int32.toInt 0 = 0 by decide)) (by decide) (by decide)) (by rw [cB_of he416892]; exact cq416895) (by have qa0 : Int32.toInt 0 = 0 := (by decide); omega) (Nat.lt_succ_self _)
                  · have r417009 : g416835.toInt < g415030.toInt := gC_nle hc416896
                    have bg416835' : gB g416835 0 98 := ⟨by omega, by omega⟩
                    have bg415030'' : gB g415030 1 99 := ⟨by omega, by omega⟩
                    refine G_aload_n 4 dr_cX17_share_53 rfl ?_
                    refine Gp_get 3 hm416844 he416845 dr_cX17_share_54 (gk_X17 D I) (Nat.le_of_ble_eq_true rfl) wr_7_77 rfl ?_
                    refine G_iload 0 dr_cX17_share_57 rfl ?_
                    have hm417010 : (γ 9 3) ∈ P389475 := RS_m hT416837 ht416868 (by decide)
                    obtain ⟨f417012, he417011, bf417012⟩ := show rk_14 I (F416836 (γ 9 3)) from RS_o hT416837 ht416868
                    refine Gp_zald 3 hm417010 he417011 dr_cX17_share_59 rfl (gB_in bg416835' (by decide) (by decide)) (G_nam fun z417013 hz417013 => ?_)
                    have bz417013 : gB z417013 0 1 := by rw [hz417013]; exact bf417012 _
                    refine G_if_eq 90 dr_cX17_share_60 (by decide +kernel) (fun hc417014 => ?_) (fun hc417014 => ?_)
                    · have r417015 : z417013.toInt = 0 := gj_eq hc417014 (show Int32.toInt 0 = 0 by decide)
                      have bz417013' : gB z417013 0 0 := ⟨by omega, by omega⟩
                      obtain ⟨z417016, hz417016⟩ : ∃ z : Int32, z = g416835 + Int32.ofInt 1 := ⟨_, rfl⟩
                      have ez417016 : z417016.toInt = g416835.toInt + 1 := gI_inc hz417016 (by decide) bg416835' (by decide) (by decide)
                      have bz417016 : gB z417016 1 99 := ⟨by omega, by omega⟩
                      refine G_iinc (L' := [(5, .int z417016), (4, .int 0), (3, .int g415030), (2, .int g415031), (0, .ref q389477), (1, .ref q389478)]) z417016 0 dr_cX17_share_90 rfl hz417016.symm (Nat.le_of_ble_eq_true rfl) rfl ?_
                      refine G_goto 47 dr_cX17_share_93 (by decide +kernel) ?_
                      exact ih47_416840 F416836 z417016 (gB_w bz417016 (by decide) (by decide)) hT416837 hs416838 (by rw [cB_of he416892]; exact cq416895) x416840 (by have qa0 : Int32.toInt 0 = 0 := (by decide); omega)
                    · have r417017 : z417013.toInt ≠ 0 := gj_neq hc417014 (show Int32.toInt 0 = 0 by decide)
                      have bz417013' : gB z417013 1 1 := ⟨by omega, by omega⟩
                      refine G_aload_n 4 dr_cX17_share_63 rfl ?_
                      refine Gp_get 1 hm416844 he416845 dr_cX17_share_64 (gk_X17 D I) (Nat.le_of_ble_eq_true rfl) wr_7_75 rfl ?_
                      refine G_iload_n 2 dr_cX17_share_67 rfl ?_
                      have hm417018 : (γ 9 1) ∈ P389475 := RS_m hT416837 ht416866 (by decide)
                      obtain ⟨f417020, he417019, hg417021⟩ := show rk_13 I γ (F416836 (γ 9 1)) from RS_o hT416837 ht416866
                      obtain ⟨q417022, hx417024⟩ : ∃ x, x = γ 11 g415030.toInt.toNat := ⟨_, rfl⟩
                      have ht417023 : rKd γ q417022 36 := by rw [hx417024]; exact (hg417021 _ (show g415030.toInt.toNat < 2000 by omega)).2.1
                      refine Gp_aald 5 hm417018 he417019 dr_cX17_share_68 rfl rfl (gB_in bg415030'' (by decide) (by decide)) ?_
                      rw [show f417020 g415030.toNatClampNeg = some q417022 from (hg417021 _ (show g415030.toInt.toNat < 2000 by omega)).1.trans (by rw [hx417024])]
                      change G _ _ _ _ _ _ _ (.ref q417022 :: _) _ _ _
                      refine G_iload 0 dr_cX17_share_69 rfl ?_
                      have hm417025 : q417022 ∈ P389475 := RS_m hT416837 ht417023 (by decide)
                      obtain ⟨f417027, he417026, wf417027⟩ := show rk_36 I (F416836 q417022) from RS_o hT416837 ht417023
                      refine Gw_callS (As := [.ref q417022, .int g416835]) (gV_ok D I) (cp_1838_SpillForgeModel_has l hl0 D I P389475 F416836 q417022 g416835 f417027 hm417025 he417026 (gB_w bg416835' (by decide) (by decide))) dr_cX17_share_71 ⟨wr_10_203, wr_1_14, wr_10_205, by decide, rfl, (Nat.le_of_ble_eq_true rfl), (Nat.le_of_ble_eq_true rfl)⟩ wr_10_204 (show 0 + 0 ≤ 0 by first | omega | decide) (show 0 + 0 ≤ 0 by first | omega | decide) (Nat.le_of_ble_eq_true rfl) (fun r417031 w417032 dc417028 ds417029 hp417030 => ?_) (fun _ _ _ _ _ z => z.elim)
                      rcases hp417030 with ⟨z417033, z417034, rfl, rfl, hdc, hds, r417035, r417036, r417037, r417038⟩ | ⟨z417039, z417040, rfl, rfl, hdc, hds, r417041, r417042, r417043, r417044⟩
                      · change G _ _ _ _ _ _ _ (.int 0 :: _) _ _ _
                        refine G_widen (cs' := 0) (sl' := 0) (by omega) (by omega) ?_
                        refine G_if_eq 90 dr_cX17_share_74 (by decide +kernel) (fun _ => ?_) (fun hc => absurd hc (by decide))
                        obtain ⟨z417046, hz417046⟩ : ∃ z : Int32, z = g416835 + Int32.ofInt 1 := ⟨_, rfl⟩
                        have ez417046 : z417046.toInt = g416835.toInt + 1 := gI_inc hz417046 (by decide) bg416835' (by decide) (by decide)
                        have bz417046 : gB z417046 1 99 := ⟨by omega, by omega⟩
                        refine G_iinc (L' := [(5, .int z417046), (4, .int 0), (3, .int g415030), (2, .int g415031), (0, .ref q389477), (1, .ref q389478)]) z417046 0 dr_cX17_share_90 rfl hz417046.symm (Nat.le_of_ble_eq_true rfl) rfl ?_
                        refine G_goto 47 dr_cX17_share_93 (by decide +kernel) ?_
                        exact ih47_416840 F416836 z417046 (gB_w bz417046 (by decide) (by decide)) hT416837 hs416838 (by rw [cB_of he416892]; exact cq416895) x416840 (by have qa0 : Int32.toInt 0 = 0 := (by decide); omega)
                      · change G _ _ _ _ _ _ _ (.int 1 :: _) _ _ _
                        refine G_widen (cs' := 0) (sl' := 0) (by omega) (by omega) ?_
                        refine G_if_eq 90 dr_cX17_share_74 (by decide +kernel) (fun hc => absurd hc (by decide)) (fun _ => ?_)
                        refine G_aload_n 4 dr_cX17_share_77 rfl ?_
                        refine Gp_get 16 hm416844 he416845 dr_cX17_share_78 (gk_X17 D I) (Nat.le_of_ble_eq_true rfl) wr_7_90 rfl ?_
                        refine G_aload_n 4 dr_cX17_share_81 rfl ?_
                        refine Gp_get 19 hm416844 he416845 dr_cX17_share_82 (gk_X17 D I) (Nat.le_of_ble_eq_true rfl) wr_7_93 rfl ?_
                        refine G_iload 0 dr_cX17_share_85 rfl ?_
                        refine Gp_iald 0 hm416891 he416892 dr_cX17_share_87 rfl (gB_in bg416835' (by decide) (by decide)) (G_nam fun z417047 hz417047 => ?_)
                        have bz417047 : gB z417047 (-1) 1999 := by rw [hz417047]; exact bf416893 _
                        have r417048 : 0 ≤ z417047.toInt := by rw [hz417047]; exact (cq416895 g416835.toInt.toNat (by omega)).1
                        have bz417047' : gB z417047 0 1999 := ⟨by omega, by omega⟩
                        refine G_iconst 1 dr_cX17_share_88 (by decide +kernel) ?_
                        have hm417049 : (γ 9 16) ∈ P389475 := RS_m hT416837 ht416875 (by decide)
                        obtain ⟨f417051, he417050⟩ := show rk_19 I (F416836 (γ 9 16)) from RS_o hT416837 ht416875
                        refine Gp_iast 0 hm417049 he417050 dr_cX17_share_89 rfl (gB_in bz417047' (by decide) (by decide)) (fun F417052 e417053 n417054 => ?_)
                        obtain ⟨f417055, hf417055⟩ : ∃ z, z = upd f417051 z417047.toNatClampNeg 1 := ⟨_, rfl⟩
                        rw [← hf417055] at e417053
                        have he417056 : F417052 q389477 = .inr (22, [.ref (γ 9 0), .ref (γ 9 1), .ref (γ 9 2), .ref (γ 9 3), .ref (γ 9 4), .ref (γ 9 5), .ref (γ 9 6), .ref (γ 9 7), .ref (γ 9 8), .int p416848, .int p416849, .int p416850, .int p416851, .int p416852, .int p416853, .ref (γ 9 15), .ref (γ 9 16), .ref (γ 9 17), .ref (γ 9 18), .ref (γ 9 19), .ref (γ 9 20), .ref (γ 9 21), .ref (γ 9 22), .int p416854, .int p416855, .int p416856, .int p416857, .int p416858, .ref q416846, .ref (γ 9 29), .int p416859, .ref (γ 9 31), .int p416860, .int p416861, .int p416862, .ref q416847]) := (n417054 q389477 (rn_oa he416845 he417050)).trans he416845
                        have he417057 : F417052 (γ 9 19) = .inl (I .int, 2000, .inl f416893) := (n417054 (γ 9 19) (rn_ty ht416878 ht416875 (by decide))).trans he416892
                        have he417058 : F417052 (γ 9 3) = .inl (I .boolean, 2000, .inl f417012) := (n417054 (γ 9 3) (rn_ty ht416868 ht416875 (by decide))).trans he417011
                        have he417059 : F417052 (γ 9 1) = .inl (I (.array .long), 2000, .inr (.inr (.inr (.inr f417020)))) := (n417054 (γ 9 1) (rn_ref_num he417019 he417050)).trans he417019
                        have he417060 : F417052 q417022 = .inl (I .long, 32, .inr (.inl f417027)) := (n417054 q417022 (rn_long_num he417026 he417050)).trans he417026
                        have he417061 : F417052 (γ 9 16) = .inl (I .int, 2000, .inl f417055) := e417053
                        have hs417062 : rStr γ [1] F389476 F417052 := rStr_put hs416838 n417054 ht416875 (by decide)
                        have kp417063 : F417052 q389477 = F389476 q389477 := (n417054 q389477 (rn_ty htq389477 ht416875 (by decide))).trans x416840
                        obtain ⟨z417064, hz417064⟩ : ∃ z : Int32, z = g416835 + Int32.ofInt 1 := ⟨_, rfl⟩
                        have ez417064 : z417064.toInt = g416835.toInt + 1 := gI_inc hz417064 (by decide) bg416835' (by decide) (by decide)
                        have bz417064 : gB z417064 1 99 := ⟨by omega, by omega⟩
                        refine G_iinc (L' := [(5, .int z417064), (4, .int 0), (3, .int g415030), (2, .int g415031), (0, .ref q389477), (1, .ref q389478)]) z417064 0 dr_cX17_share_90 rfl hz417064.symm (Nat.le_of_ble_eq_true rfl) rfl ?_
                        refine G_goto 47 dr_cX17_share_93 (by decide +kernel) ?_
                        have hT417065 : RS D I P389475 F417052 γ el := RS_set hT416837 n417054 ht416875 (by decide) ⟨f417055, he417061⟩
                        exact ih47_416840 F417052 z417064 (gB_w bz417064 (by decide) (by decide)) hT417065 hs417062 (by rw [cB_of he417057]; exact cq416895) kp417063 (by have qa0 : Int32.toInt 0 = 0 := (by decide); omega)
              exact hlp47_416840 (((100 : Int) - 0).toNat + 1) F416549 0 (gB_w (gBl (show Int32.toInt 0 = 0 by decide)) (by decide) (by decide)) hT416550 hs416551 (by rw [cB_of he416605]; exact cq416608) x416553 (Nat.lt_succ_self _)
            · have r417066 : g416548.toInt < g415030.toInt := gC_nle hc416609
              have bg416548' : gB g416548 0 98 := ⟨by omega, by omega⟩
              have bg415030'' : gB g415030 1 99 := ⟨by omega, by omega⟩
              refine G_aload_n 4 dr_cX17_share_30 rfl ?_
              refine Gp_get 16 hm416557 he416558 dr_cX17_share_31 (gk_X17 D I) (Nat.le_of_ble_eq_true rfl) wr_7_90 rfl ?_
              refine G_iload 0 dr_cX17_share_34 rfl ?_
              refine G_iconst 0 dr_cX17_share_36 (by decide +kernel) ?_
              have hm417067 : (γ 9 16) ∈ P389475 := RS_m hT416550 ht416588 (by decide)
              obtain ⟨f417069, he417068⟩ := show rk_19 I (F416549 (γ 9 16)) from RS_o hT416550 ht416588
              refine Gp_iast 0 hm417067 he417068 dr_cX17_share_37 rfl (gB_in bg416548' (by decide) (by decide)) (fun F417070 e417071 n417072 => ?_)
              obtain ⟨f417073, hf417073⟩ : ∃ z, z = upd f417069 g416548.toNatClampNeg 0 := ⟨_, rfl⟩
              rw [← hf417073] at e417071
              have he417074 : F417070 q389477 = .inr (22, [.ref (γ 9 0), .ref (γ 9 1), .ref (γ 9 2), .ref (γ 9 3), .ref (γ 9 4), .ref (γ 9 5), .ref (γ 9 6), .ref (γ 9 7), .ref (γ 9 8), .int p416561, .int p416562, .int p416563, .int p416564, .int p416565, .int p416566, .ref (γ 9 15), .ref (γ 9 16), .ref (γ 9 17), .ref (γ 9 18), .ref (γ 9 19), .ref (γ 9 20), .ref (γ 9 21), .ref (γ 9 22), .int p416567, .int p416568, .int p416569, .int p416570, .int p416571, .ref q416559, .ref (γ 9 29), .int p416572, .ref (γ 9 31), .int p416573, .int p416574, .int p416575, .ref q416560]) := (n417072 q389477 (rn_oa he416558 he417068)).trans he416558
              have he417075 : F417070 (γ 9 19) = .inl (I .int, 2000, .inl f416606) := (n417072 (γ 9 19) (rn_ty ht416591 ht416588 (by decide))).trans he416605
              have he417076 : F417070 (γ 9 16) = .inl (I .int, 2000, .inl f417073) := e417071
              have hs417077 : rStr γ [1] F389476 F417070 := rStr_put hs416551 n417072 ht416588 (by decide)
              have kp417078 : F417070 q389477 = F389476 q389477 := (n417072 q389477 (rn_ty htq389477 ht416588 (by decide))).trans x416553
              obtain ⟨z417079, hz417079⟩ : ∃ z : Int32, z = g416548 + Int32.ofInt 1 := ⟨_, rfl⟩
              have ez417079 : z417079.toInt = g416548.toInt + 1 := gI_inc hz417079 (by decide) bg416548' (by decide) (by decide)
              have bz417079 : gB z417079 1 99 := ⟨by omega, by omega⟩
              refine G_iinc (L' := [(5, .int z417079), (4, .int 0), (3, .int g415030), (2, .int g415031), (0, .ref q389477), (1, .ref q389478)]) z417079 0 dr_cX17_share_38 rfl hz417079.symm (Nat.le_of_ble_eq_true rfl) rfl ?_
              refine G_goto 24 dr_cX17_share_41 (by decide +kernel) ?_
              have hT417080 : RS D I P389475 F417070 γ el := RS_set hT416550 n417072 ht416588 (by decide) ⟨f417073, he417076⟩
              exact ih24_416553 F417070 z417079 (gB_w bz417079 (by decide) (by decide)) hT417080 hs417077 (by rw [cB_of he417075]; exact cq416608) kp417078 (by have qa0 : Int32.toInt 0 = 0 := (by decide); omega)
        exact hlp24_416553 (((2000 : Int) - 0).toNat + 1) F415032 0 (gB_w (gBl (show Int32.toInt 0 = 0 by decide)) (by decide) (by decide)) hT415033 hs415034 (by rw [cB_of he415088]; exact cq415091) x415036 (Nat.lt_succ_self _)
  exact hlp10_415036 (((101 : Int) - 0).toNat + 1) F389540 0 0 (gB_w (gBl (show Int32.toInt 0 = 0 by decide)) (by decide) (by decide)) (gB_w (gBl (show Int32.toInt 0 = 0 by decide)) (by decide) (by decide)) hT389541 hs389543 (fun q hq => absurd hq (by have qa : Int32.toInt 0 = 0 := (by decide); omega)) kp389544 (Nat.lt_succ_self _)
