theorem dr_cX17_coloured_0 : decode cX17_coloured 0 = .ok (.aload_n 1, 1) := by decide +kernel
theorem dr_cX17_coloured_1 : decode cX17_coloured 1 = .ok (.invokevirtual 70, 3) := by decide +kernel
theorem dr_cX17_coloured_4 : decode cX17_coloured 4 = .ok (.ifCond .eq 16, 3) := by decide +kernel
theorem dr_cX17_coloured_20 : decode cX17_coloured 20 = .ok (.aload_n 1, 1) := by decide +kernel
theorem dr_cX17_coloured_21 : decode cX17_coloured 21 = .ok (.invokevirtual 76, 3) := by decide +kernel
theorem dr_cX17_coloured_24 : decode cX17_coloured 24 = .ok (.ifCond .eq 16, 3) := by decide +kernel
theorem dr_cX17_coloured_40 : decode cX17_coloured 40 = .ok (.aload_n 1, 1) := by decide +kernel
theorem dr_cX17_coloured_41 : decode cX17_coloured 41 = .ok (.invokevirtual 48, 3) := by decide +kernel
theorem dr_cX17_coloured_44 : decode cX17_coloured 44 = .ok (.ifCond .eq 16, 3) := by decide +kernel
theorem dr_cX17_coloured_60 : decode cX17_coloured 60 = .ok (.return_, 1) := by decide +kernel
theorem dr_cX17_coloured_47 : decode cX17_coloured 47 = .ok (.aload_n 1, 1) := by decide +kernel
theorem dr_cX17_coloured_48 : decode cX17_coloured 48 = .ok (.aload_n 0, 1) := by decide +kernel
theorem dr_cX17_coloured_49 : decode cX17_coloured 49 = .ok (.getfield 212, 3) := by decide +kernel
theorem dr_cX17_coloured_52 : decode cX17_coloured 52 = .ok (.aload_n 1, 1) := by decide +kernel
theorem dr_cX17_coloured_53 : decode cX17_coloured 53 = .ok (.getfield 52, 3) := by decide +kernel
theorem dr_cX17_coloured_56 : decode cX17_coloured 56 = .ok (.iaload, 1) := by decide +kernel
theorem dr_cX17_coloured_57 : decode cX17_coloured 57 = .ok (.putfield 52, 3) := by decide +kernel
theorem dr_cX17_coloured_27 : decode cX17_coloured 27 = .ok (.aload_n 1, 1) := by decide +kernel
theorem dr_cX17_coloured_28 : decode cX17_coloured 28 = .ok (.aload_n 0, 1) := by decide +kernel
theorem dr_cX17_coloured_29 : decode cX17_coloured 29 = .ok (.getfield 212, 3) := by decide +kernel
theorem dr_cX17_coloured_32 : decode cX17_coloured 32 = .ok (.aload_n 1, 1) := by decide +kernel
theorem dr_cX17_coloured_33 : decode cX17_coloured 33 = .ok (.getfield 79, 3) := by decide +kernel
theorem dr_cX17_coloured_36 : decode cX17_coloured 36 = .ok (.iaload, 1) := by decide +kernel
theorem dr_cX17_coloured_37 : decode cX17_coloured 37 = .ok (.putfield 79, 3) := by decide +kernel
theorem dr_cX17_coloured_7 : decode cX17_coloured 7 = .ok (.aload_n 1, 1) := by decide +kernel
theorem dr_cX17_coloured_8 : decode cX17_coloured 8 = .ok (.aload_n 0, 1) := by decide +kernel
theorem dr_cX17_coloured_9 : decode cX17_coloured 9 = .ok (.getfield 212, 3) := by decide +kernel
theorem dr_cX17_coloured_12 : decode cX17_coloured 12 = .ok (.aload_n 1, 1) := by decide +kernel
theorem dr_cX17_coloured_13 : decode cX17_coloured 13 = .ok (.getfield 73, 3) := by decide +kernel
theorem dr_cX17_coloured_16 : decode cX17_coloured 16 = .ok (.iaload, 1) := by decide +kernel
theorem dr_cX17_coloured_17 : decode cX17_coloured 17 = .ok (.putfield 73, 3) := by decide +kernel
theorem dr_cX17_share_0 : decode cX17_share 0 = .ok (.aload_n 0, 1) := by decide +kernel
theorem dr_cX17_share_1 : decode cX17_share 1 = .ok (.aload_n 1, 1) := by decide +kernel
theorem dr_cX17_share_2 : decode cX17_share 2 = .ok (.iconst 1, 1) := by decide +kernel
theorem dr_cX17_share_3 : decode cX17_share 3 = .ok (.invokevirtual 243, 3) := by decide +kernel
theorem wr_10_233 : (Jvm.Cond.methodLink "SpillForgeModel" (243 : Nat) ({ cls := "SpillForgeModel", name := "graph", desc := "(LSpillForgeModel$Code;Z)V" } : Jvm.MethodName)) ∈ gw := gw_10 233 rfl rfl
theorem wr_10_236 : (Jvm.Cond.code ({ cls := "SpillForgeModel", name := "graph", desc := "(LSpillForgeModel$Code;Z)V" } : Jvm.MethodName) prog_14_method_10_code (11 : Nat) (Option.none : Option Jvm.ClassFile.FieldType)) ∈ gw := gw_10 236 rfl rfl
theorem wr_10_235 : (Jvm.Cond.instanceMethod ({ cls := "SpillForgeModel", name := "graph", desc := "(LSpillForgeModel$Code;Z)V" } : Jvm.MethodName)) ∈ gw := gw_10 235 rfl rfl
theorem wr_p_99 : Cond.selects "SpillForgeModel" ⟨"SpillForgeModel", "graph", "(LSpillForgeModel$Code;Z)V"⟩ ⟨"SpillForgeModel", "graph", "(LSpillForgeModel$Code;Z)V"⟩ ∈ gw := gw_p _ 99 rfl rfl rfl
theorem dr_cX17_share_6 : decode cX17_share 6 = .ok (.iconst 0, 1) := by decide +kernel
theorem dr_cX17_share_7 : decode cX17_share 7 = .ok (.istore_n 2, 1) := by decide +kernel
theorem dr_cX17_share_8 : decode cX17_share 8 = .ok (.iconst 0, 1) := by decide +kernel
theorem dr_cX17_share_9 : decode cX17_share 9 = .ok (.istore_n 3, 1) := by decide +kernel
theorem dr_cX17_share_10 : decode cX17_share 10 = .ok (.iload_n 3, 1) := by decide +kernel
theorem dr_cX17_share_11 : decode cX17_share 11 = .ok (.aload_n 0, 1) := by decide +kernel
theorem dr_cX17_share_12 : decode cX17_share 12 = .ok (.getfield 224, 3) := by decide +kernel
theorem wr_7_85 : (Jvm.Cond.fieldLink "SpillForgeModel" (224 : Nat) "SpillForgeModel" "slots" "I") ∈ gw := gw_7 85 rfl rfl
theorem dr_cX17_share_15 : decode cX17_share 15 = .ok (.if_icmp .ge 136, 3) := by decide +kernel
theorem dr_cX17_share_151 : decode cX17_share 151 = .ok (.iconst 0, 1) := by decide +kernel
theorem dr_cX17_share_152 : decode cX17_share 152 = .ok (.istore_n 3, 1) := by decide +kernel
theorem dr_cX17_share_153 : decode cX17_share 153 = .ok (.iload_n 3, 1) := by decide +kernel
theorem dr_cX17_share_154 : decode cX17_share 154 = .ok (.aload_n 1, 1) := by decide +kernel
theorem dr_cX17_share_155 : decode cX17_share 155 = .ok (.invokevirtual 96, 3) := by decide +kernel
theorem dr_cX17_share_158 : decode cX17_share 158 = .ok (.if_icmp .ge 88, 3) := by decide +kernel
theorem dr_cX17_share_246 : decode cX17_share 246 = .ok (.aload_n 0, 1) := by decide +kernel
theorem dr_cX17_share_247 : decode cX17_share 247 = .ok (.iload_n 2, 1) := by decide +kernel
theorem dr_cX17_share_248 : decode cX17_share 248 = .ok (.putfield 224, 3) := by decide +kernel
theorem dr_cX17_share_251 : decode cX17_share 251 = .ok (.return_, 1) := by decide +kernel
theorem dr_cX17_share_161 : decode cX17_share 161 = .ok (.aload_n 1, 1) := by decide +kernel
theorem dr_cX17_share_162 : decode cX17_share 162 = .ok (.iload_n 3, 1) := by decide +kernel
theorem dr_cX17_share_163 : decode cX17_share 163 = .ok (.invokevirtual 101, 3) := by decide +kernel
theorem dr_cX17_share_166 : decode cX17_share 166 = .ok (.astore 4, 2) := by decide +kernel
theorem dr_cX17_share_168 : decode cX17_share 168 = .ok (.iconst 0, 1) := by decide +kernel
theorem dr_cX17_share_169 : decode cX17_share 169 = .ok (.istore 5, 2) := by decide +kernel
theorem dr_cX17_share_171 : decode cX17_share 171 = .ok (.iload 5, 2) := by decide +kernel
theorem dr_cX17_share_173 : decode cX17_share 173 = .ok (.aload 4, 2) := by decide +kernel
theorem dr_cX17_share_175 : decode cX17_share 175 = .ok (.getfield 117, 3) := by decide +kernel
theorem dr_cX17_share_178 : decode cX17_share 178 = .ok (.invokevirtual 121, 3) := by decide +kernel
theorem dr_cX17_share_181 : decode cX17_share 181 = .ok (.if_icmp .ge 59, 3) := by decide +kernel
theorem dr_cX17_share_240 : decode cX17_share 240 = .ok (.iinc 3 1, 3) := by decide +kernel
theorem dr_cX17_share_243 : decode cX17_share 243 = .ok (.goto (-90), 3) := by decide +kernel
theorem dr_cX17_share_184 : decode cX17_share 184 = .ok (.aload 4, 2) := by decide +kernel
theorem dr_cX17_share_186 : decode cX17_share 186 = .ok (.getfield 117, 3) := by decide +kernel
theorem dr_cX17_share_189 : decode cX17_share 189 = .ok (.iload 5, 2) := by decide +kernel
theorem dr_cX17_share_191 : decode cX17_share 191 = .ok (.invokevirtual 124, 3) := by decide +kernel
theorem dr_cX17_share_194 : decode cX17_share 194 = .ok (.checkcast 40, 3) := by decide +kernel
theorem dr_cX17_share_197 : decode cX17_share 197 = .ok (.astore 6, 2) := by decide +kernel
theorem dr_cX17_share_199 : decode cX17_share 199 = .ok (.aload 6, 2) := by decide +kernel
theorem dr_cX17_share_201 : decode cX17_share 201 = .ok (.getfield 39, 3) := by decide +kernel
theorem dr_cX17_share_204 : decode cX17_share 204 = .ok (.bipush 21, 2) := by decide +kernel
theorem dr_cX17_share_206 : decode cX17_share 206 = .ok (.if_icmp .eq 13, 3) := by decide +kernel
theorem dr_cX17_share_219 : decode cX17_share 219 = .ok (.aload 6, 2) := by decide +kernel
theorem dr_cX17_share_221 : decode cX17_share 221 = .ok (.aload_n 0, 1) := by decide +kernel
theorem dr_cX17_share_222 : decode cX17_share 222 = .ok (.getfield 221, 3) := by decide +kernel
theorem wr_7_93 : (Jvm.Cond.fieldLink "SpillForgeModel" (221 : Nat) "SpillForgeModel" "slotOf" "[I") ∈ gw := gw_7 93 rfl rfl
theorem dr_cX17_share_225 : decode cX17_share 225 = .ok (.aload 6, 2) := by decide +kernel
theorem dr_cX17_share_227 : decode cX17_share 227 = .ok (.getfield 45, 3) := by decide +kernel
theorem dr_cX17_share_230 : decode cX17_share 230 = .ok (.iaload, 1) := by decide +kernel
theorem dr_cX17_share_231 : decode cX17_share 231 = .ok (.putfield 45, 3) := by decide +kernel
theorem dr_cX17_share_234 : decode cX17_share 234 = .ok (.iinc 5 1, 3) := by decide +kernel
theorem dr_cX17_share_237 : decode cX17_share 237 = .ok (.goto (-66), 3) := by decide +kernel
theorem dr_cX17_share_209 : decode cX17_share 209 = .ok (.aload 6, 2) := by decide +kernel
theorem dr_cX17_share_211 : decode cX17_share 211 = .ok (.getfield 39, 3) := by decide +kernel
theorem dr_cX17_share_214 : decode cX17_share 214 = .ok (.bipush 23, 2) := by decide +kernel
theorem dr_cX17_share_216 : decode cX17_share 216 = .ok (.if_icmp .ne 18, 3) := by decide +kernel
theorem dr_cX17_share_18 : decode cX17_share 18 = .ok (.iconst 0, 1) := by decide +kernel
theorem dr_cX17_share_19 : decode cX17_share 19 = .ok (.istore 4, 2) := by decide +kernel
theorem dr_cX17_share_21 : decode cX17_share 21 = .ok (.iconst 0, 1) := by decide +kernel
theorem dr_cX17_share_22 : decode cX17_share 22 = .ok (.istore 5, 2) := by decide +kernel
theorem dr_cX17_share_24 : decode cX17_share 24 = .ok (.iload 5, 2) := by decide +kernel
theorem dr_cX17_share_26 : decode cX17_share 26 = .ok (.iload_n 3, 1) := by decide +kernel
theorem dr_cX17_share_27 : decode cX17_share 27 = .ok (.if_icmp .ge 17, 3) := by decide +kernel
theorem dr_cX17_share_44 : decode cX17_share 44 = .ok (.iconst 0, 1) := by decide +kernel
theorem dr_cX17_share_45 : decode cX17_share 45 = .ok (.istore 5, 2) := by decide +kernel
theorem dr_cX17_share_47 : decode cX17_share 47 = .ok (.iload 5, 2) := by decide +kernel
theorem dr_cX17_share_49 : decode cX17_share 49 = .ok (.iload_n 3, 1) := by decide +kernel
theorem dr_cX17_share_50 : decode cX17_share 50 = .ok (.if_icmp .ge 46, 3) := by decide +kernel
theorem dr_cX17_share_96 : decode cX17_share 96 = .ok (.iload 4, 2) := by decide +kernel
theorem dr_cX17_share_98 : decode cX17_share 98 = .ok (.iload_n 3, 1) := by decide +kernel
theorem dr_cX17_share_99 : decode cX17_share 99 = .ok (.if_icmp .ge 20, 3) := by decide +kernel
theorem dr_cX17_share_119 : decode cX17_share 119 = .ok (.aload_n 0, 1) := by decide +kernel
theorem dr_cX17_share_120 : decode cX17_share 120 = .ok (.getfield 221, 3) := by decide +kernel
theorem dr_cX17_share_123 : decode cX17_share 123 = .ok (.iload_n 3, 1) := by decide +kernel
theorem dr_cX17_share_124 : decode cX17_share 124 = .ok (.iload 4, 2) := by decide +kernel
theorem dr_cX17_share_126 : decode cX17_share 126 = .ok (.iastore, 1) := by decide +kernel
theorem dr_cX17_share_127 : decode cX17_share 127 = .ok (.aload_n 0, 1) := by decide +kernel
theorem dr_cX17_share_128 : decode cX17_share 128 = .ok (.getfield 131, 3) := by decide +kernel
theorem dr_cX17_share_131 : decode cX17_share 131 = .ok (.iload_n 3, 1) := by decide +kernel
theorem dr_cX17_share_132 : decode cX17_share 132 = .ok (.baload, 1) := by decide +kernel
theorem dr_cX17_share_133 : decode cX17_share 133 = .ok (.ifCond .eq 12, 3) := by decide +kernel
theorem dr_cX17_share_145 : decode cX17_share 145 = .ok (.iinc 3 1, 3) := by decide +kernel
theorem dr_cX17_share_148 : decode cX17_share 148 = .ok (.goto (-138), 3) := by decide +kernel
theorem dr_cX17_share_136 : decode cX17_share 136 = .ok (.iload_n 2, 1) := by decide +kernel
theorem dr_cX17_share_137 : decode cX17_share 137 = .ok (.iload 4, 2) := by decide +kernel
theorem dr_cX17_share_139 : decode cX17_share 139 = .ok (.iconst 1, 1) := by decide +kernel
theorem dr_cX17_share_140 : decode cX17_share 140 = .ok (.iadd, 1) := by decide +kernel
theorem dr_cX17_share_141 : decode cX17_share 141 = .ok (.invokestatic 189, 3) := by decide +kernel
theorem dr_cX17_share_144 : decode cX17_share 144 = .ok (.istore_n 2, 1) := by decide +kernel
theorem dr_cX17_share_102 : decode cX17_share 102 = .ok (.aload_n 0, 1) := by decide +kernel
theorem dr_cX17_share_103 : decode cX17_share 103 = .ok (.getfield 209, 3) := by decide +kernel
theorem dr_cX17_share_106 : decode cX17_share 106 = .ok (.iload 4, 2) := by decide +kernel
theorem dr_cX17_share_108 : decode cX17_share 108 = .ok (.iaload, 1) := by decide +kernel
theorem dr_cX17_share_109 : decode cX17_share 109 = .ok (.iconst 1, 1) := by decide +kernel
theorem dr_cX17_share_110 : decode cX17_share 110 = .ok (.if_icmp .ne 9, 3) := by decide +kernel
theorem dr_cX17_share_113 : decode cX17_share 113 = .ok (.iinc 4 1, 3) := by decide +kernel
theorem dr_cX17_share_116 : decode cX17_share 116 = .ok (.goto (-20), 3) := by decide +kernel
theorem dr_cX17_share_53 : decode cX17_share 53 = .ok (.aload_n 0, 1) := by decide +kernel
theorem dr_cX17_share_54 : decode cX17_share 54 = .ok (.getfield 131, 3) := by decide +kernel
theorem dr_cX17_share_57 : decode cX17_share 57 = .ok (.iload 5, 2) := by decide +kernel
theorem dr_cX17_share_59 : decode cX17_share 59 = .ok (.baload, 1) := by decide +kernel
theorem dr_cX17_share_60 : decode cX17_share 60 = .ok (.ifCond .eq 30, 3) := by decide +kernel
theorem dr_cX17_share_90 : decode cX17_share 90 = .ok (.iinc 5 1, 3) := by decide +kernel
theorem dr_cX17_share_93 : decode cX17_share 93 = .ok (.goto (-46), 3) := by decide +kernel
theorem dr_cX17_share_63 : decode cX17_share 63 = .ok (.aload_n 0, 1) := by decide +kernel
theorem dr_cX17_share_64 : decode cX17_share 64 = .ok (.getfield 135, 3) := by decide +kernel
theorem dr_cX17_share_67 : decode cX17_share 67 = .ok (.iload_n 3, 1) := by decide +kernel
theorem dr_cX17_share_68 : decode cX17_share 68 = .ok (.aaload, 1) := by decide +kernel
theorem dr_cX17_share_69 : decode cX17_share 69 = .ok (.iload 5, 2) := by decide +kernel
theorem dr_cX17_share_71 : decode cX17_share 71 = .ok (.invokestatic 145, 3) := by decide +kernel
theorem dr_cX17_share_74 : decode cX17_share 74 = .ok (.ifCond .eq 16, 3) := by decide +kernel
theorem dr_cX17_share_77 : decode cX17_share 77 = .ok (.aload_n 0, 1) := by decide +kernel
theorem dr_cX17_share_78 : decode cX17_share 78 = .ok (.getfield 209, 3) := by decide +kernel
theorem dr_cX17_share_81 : decode cX17_share 81 = .ok (.aload_n 0, 1) := by decide +kernel
theorem dr_cX17_share_82 : decode cX17_share 82 = .ok (.getfield 221, 3) := by decide +kernel
theorem dr_cX17_share_85 : decode cX17_share 85 = .ok (.iload 5, 2) := by decide +kernel
theorem dr_cX17_share_87 : decode cX17_share 87 = .ok (.iaload, 1) := by decide +kernel
theorem dr_cX17_share_88 : decode cX17_share 88 = .ok (.iconst 1, 1) := by decide +kernel
theorem dr_cX17_share_89 : decode cX17_share 89 = .ok (.iastore, 1) := by decide +kernel
theorem dr_cX17_share_30 : decode cX17_share 30 = .ok (.aload_n 0, 1) := by decide +kernel
theorem dr_cX17_share_31 : decode cX17_share 31 = .ok (.getfield 209, 3) := by decide +kernel
theorem dr_cX17_share_34 : decode cX17_share 34 = .ok (.iload 5, 2) := by decide +kernel
theorem dr_cX17_share_36 : decode cX17_share 36 = .ok (.iconst 0, 1) := by decide +kernel
theorem dr_cX17_share_37 : decode cX17_share 37 = .ok (.iastore, 1) := by decide +kernel
theorem dr_cX17_share_38 : decode cX17_share 38 = .ok (.iinc 5 1, 3) := by decide +kernel
theorem dr_cX17_share_41 : decode cX17_share 41 = .ok (.goto (-17), 3) := by decide +kernel
abbrev ky_343737_SpillForgeModel_coloured : gKey := (cX17_coloured, 2, "SpillForgeModel", none, [], "coloured", fun _ _ => True)
def pt_343737_SpillForgeModel_coloured (D : va_G) (I : FieldType → ClassId) (γ el : Nat → Nat → Nat) (P343732 : List Nat) (F343733 : Nat → va_E) (q343734 : Nat) (q343735 : Nat) : Option Value → va_W → Nat → Nat → Prop := fun r w dc ds => ∃ (F343978 : Nat → va_E), r = none ∧ w = va_pl P343732 F343978 ∧ RS D I P343732 F343978 γ el ∧ rStr γ [1] F343733 F343978 ∧ dc ≤ 0 ∧ ds ≤ 0 ∧ (∀ b, b ≠ q343735 → F343978 b = F343733 b) ∧ (F343978 q343734 = F343733 q343734) ∧ (F343978 (γ 9 3) = F343733 (γ 9 3)) ∧ (F343978 (γ 9 17) = F343733 (γ 9 17))
set_option maxRecDepth 100000 in
set_option maxHeartbeats 4000000 in
theorem ct_343737_SpillForgeModel_coloured (l : Launch) (hl0 : l.stackTraces = false) (D : va_G) (I : FieldType → ClassId) (γ el : Nat → Nat → Nat) (P343732 : List Nat) (F343733 : Nat → va_E) (q343734 : Nat) (q343735 : Nat) (hT : RS D I P343732 F343733 γ el) (htq343734 : rKd γ q343734 10) (htq343735 : rKd γ q343735 1) (x343736 : (rNm (fun n => 0 ≤ (cB (F343733 (γ 9 17)) n).toInt) (F343733 q343735))) : CtA (gV D I) l yX17_coloured cX17_coloured 2 none 1 20 0 0 [.ref q343734, .ref q343735] (va_pl P343732 F343733) (pt_343737_SpillForgeModel_coloured D I γ el P343732 F343733 q343734 q343735) gNA := by
  refine CtA_of hl0 (by decide) (Nat.le_of_ble_eq_true rfl) ?_
  have hm343738 : q343734 ∈ P343732 := RS_m hT htq343734 (by decide)
  obtain ⟨q343740, q343741, p343742, p343743, p343744, p343745, p343746, p343747, p343748, p343749, p343750, p343751, p343752, p343753, p343754, p343755, p343756, he343739, hB343783, ht343757, ht343758, ht343759, ht343760, ht343761, ht343762, ht343763, ht343764, ht343765, ht343766, ht343767, ht343768, ht343769, ht343770, ht343771, ht343772, ht343773, ht343774, ht343775, ht343776, ht343777, ht343778, ht343779, ht343780, hB343784⟩ := show rk_10 γ (F343733 q343734) from RS_o hT htq343734
  have hm343785 : (γ 9 17) ∈ P343732 := RS_m hT ht343770 (by decide)
  obtain ⟨f343787, he343786, bf343787⟩ := show rk_20 I (F343733 (γ 9 17)) from RS_o hT ht343770
  have hm343788 : q343735 ∈ P343732 := RS_m hT htq343735 (by decide)
  obtain ⟨p343790, p343791, p343792, p343793, p343794, p343795, p343796, he343789, bp343790, bp343791, bp343794, bp343795, bp343796, r343797, r343798, r343799, r343800, r343801⟩ := show rk_1 γ q343735 (F343733 q343735) from RS_o hT htq343735
  have bp343792 := gB_any p343792
  have bp343793 := gB_any p343793
  have cq343802 : ∀ n, nmV p343790.toInt p343791.toInt p343792.toInt p343793.toInt p343795.toInt p343796.toInt n → 0 ≤ (f343787 n).toInt := by have z := x343736; unfold rNm at z; rw [nmS_of he343789, cB_of he343786] at z; exact z
  refine G_aload_n 1 dr_cX17_coloured_0 rfl ?_
  refine Gw_callV (As := []) (gV_ok D I) (cp_221556_Row_usesA l hl0 D I P343732 F343733 q343735 p343790 p343791 p343792 p343793 p343794 p343795 p343796 hm343788 he343789 bp343790 bp343791 bp343794 bp343795 bp343796) dr_cX17_coloured_1 ⟨wr_10_192, wr_1_39, wr_10_195, by decide, rfl, (Nat.le_of_ble_eq_true rfl), (Nat.le_of_ble_eq_true rfl)⟩ wr_10_193 wr_10_194 hm343788 he343789 rfl (show 0 + 0 ≤ 0 by first | omega | decide) (show 0 + 0 ≤ 0 by first | omega | decide) (Nat.le_of_ble_eq_true rfl) (fun r343806 w343807 dc343803 ds343804 hp343805 => ?_) (fun _ _ _ _ _ z => z.elim)
  obtain ⟨o343808, rfl, rfl, hdc, hds, bo343808, x343809, ht343810⟩ := hp343805
  change G _ _ _ _ _ _ _ (.int o343808 :: _) _ _ _
  refine G_widen (cs' := 0) (sl' := 0) (by omega) (by omega) ?_
  refine G_if_eq 20 dr_cX17_coloured_4 (by decide +kernel) (fun hc343811 => ?_) (fun hc343811 => ?_)
  · have r343812 : o343808.toInt = 0 := gj_eq hc343811 (show Int32.toInt 0 = 0 by decide)
    have bo343808' : gB o343808 0 0 := ⟨by omega, by omega⟩
    refine G_aload_n 1 dr_cX17_coloured_20 rfl ?_
    refine Gw_callV (As := []) (gV_ok D I) (cp_221580_Row_usesB l hl0 D I P343732 F343733 q343735 p343790 p343791 p343792 p343793 p343794 p343795 p343796 hm343788 he343789 bp343790 bp343791 bp343794 bp343795 bp343796) dr_cX17_coloured_21 ⟨wr_10_196, wr_1_39, wr_10_199, by decide, rfl, (Nat.le_of_ble_eq_true rfl), (Nat.le_of_ble_eq_true rfl)⟩ wr_10_197 wr_10_198 hm343788 he343789 rfl (show 0 + 0 ≤ 0 by first | omega | decide) (show 0 + 0 ≤ 0 by first | omega | decide) (Nat.le_of_ble_eq_true rfl) (fun r343816 w343817 dc343813 ds343814 hp343815 => ?_) (fun _ _ _ _ _ z => z.elim)
    obtain ⟨o343818, rfl, rfl, hdc, hds, bo343818, x343819, ht343820⟩ := hp343815
    change G _ _ _ _ _ _ _ (.int o343818 :: _) _ _ _
    refine G_widen (cs' := 0) (sl' := 0) (by omega) (by omega) ?_
    refine G_if_eq 40 dr_cX17_coloured_24 (by decide +kernel) (fun hc343821 => ?_) (fun hc343821 => ?_)
    · have r343822 : o343818.toInt = 0 := gj_eq hc343821 (show Int32.toInt 0 = 0 by decide)
      have bo343818' : gB o343818 0 0 := ⟨by omega, by omega⟩
      refine G_aload_n 1 dr_cX17_coloured_40 rfl ?_
      refine Gw_callV (As := []) (gV_ok D I) (cp_221601_Row_sets l hl0 D I P343732 F343733 q343735 p343790 p343791 p343792 p343793 p343794 p343795 p343796 hm343788 he343789 bp343790 bp343791 bp343794 bp343795 bp343796) dr_cX17_coloured_41 ⟨wr_10_181, wr_1_39, wr_10_184, by decide, rfl, (Nat.le_of_ble_eq_true rfl), (Nat.le_of_ble_eq_true rfl)⟩ wr_10_182 wr_10_183 hm343788 he343789 rfl (show 0 + 0 ≤ 0 by first | omega | decide) (show 0 + 0 ≤ 0 by first | omega | decide) (Nat.le_of_ble_eq_true rfl) (fun r343826 w343827 dc343823 ds343824 hp343825 => ?_) (fun _ _ _ _ _ z => z.elim)
      obtain ⟨o343828, rfl, rfl, hdc, hds, bo343828, x343829, ht343830⟩ := hp343825
      change G _ _ _ _ _ _ _ (.int o343828 :: _) _ _ _
      refine G_widen (cs' := 0) (sl' := 0) (by omega) (by omega) ?_
      refine G_if_eq 60 dr_cX17_coloured_44 (by decide +kernel) (fun hc343831 => ?_) (fun hc343831 => ?_)
      · have r343832 : o343828.toInt = 0 := gj_eq hc343831 (show Int32.toInt 0 = 0 by decide)
        have bo343828' : gB o343828 0 0 := ⟨by omega, by omega⟩
        exact G_vretA dr_cX17_coloured_60 rfl (Nat.le_of_ble_eq_true rfl) (Nat.le_of_ble_eq_true rfl) ⟨F343733, rfl, rfl, hT, (rStr_rf (γ := γ) (W := [1]) (F := F343733)), (Nat.le_of_ble_eq_true rfl), (Nat.le_of_ble_eq_true rfl), (fun _ _ => rfl), rfl, rfl, rfl⟩
      · have r343833 : o343828.toInt ≠ 0 := gj_neq hc343831 (show Int32.toInt 0 = 0 by decide)
        have bo343828' : gB o343828 1 1 := ⟨by omega, by omega⟩
        refine G_aload_n 1 dr_cX17_coloured_47 rfl ?_
        refine G_aload_n 0 dr_cX17_coloured_48 rfl ?_
        refine Gp_get 17 hm343738 he343739 dr_cX17_coloured_49 (gk_X17 D I) (Nat.le_of_ble_eq_true rfl) wr_7_91 rfl ?_
        refine G_aload_n 1 dr_cX17_coloured_52 rfl ?_
        refine Gp_get 1 hm343788 he343789 dr_cX17_coloured_53 (gk_X15 D I) (Nat.le_of_ble_eq_true rfl) wr_9_182 rfl ?_
        refine Gp_iald 0 hm343785 he343786 dr_cX17_coloured_56 rfl (gB_in bp343791 (by decide) (by decide)) (G_nam fun z343834 hz343834 => ?_)
        have bz343834 : gB z343834 (-1) 31 := by rw [hz343834]; exact bf343787 _
        have r343835 : 0 ≤ z343834.toInt := by rw [hz343834]; exact cq343802 _ (Or.inl ⟨by omega, rfl⟩)
        have bz343834' : gB z343834 0 31 := ⟨by omega, by omega⟩
        refine Gp_put 1 hm343788 he343789 dr_cX17_coloured_57 (gk_X15 D I) (Nat.le_of_ble_eq_true rfl) wr_9_182 rfl rfl rfl (Nat.le_of_ble_eq_true rfl) (fun F343836 e343837 n343838 => ?_)
        have he343839 : F343836 q343734 = .inr (22, [.ref (γ 9 0), .ref (γ 9 1), .ref (γ 9 2), .ref (γ 9 3), .ref (γ 9 4), .ref (γ 9 5), .ref (γ 9 6), .ref (γ 9 7), .ref (γ 9 8), .int p343742, .int p343743, .int p343744, .int p343745, .int p343746, .int p343747, .ref (γ 9 15), .ref (γ 9 16), .ref (γ 9 17), .ref (γ 9 18), .ref (γ 9 19), .ref (γ 9 20), .ref (γ 9 21), .ref (γ 9 22), .int p343748, .int p343749, .int p343750, .int p343751, .int p343752, .ref q343740, .ref (γ 9 29), .int p343753, .ref (γ 9 31), .int p343754, .int p343755, .int p343756, .ref q343741]) := (n343838 q343734 (rn_oo he343739 he343789 (by decide))).trans he343739
        have he343840 : F343836 (γ 9 17) = .inl (I .int, 2000, .inl f343787) := (n343838 (γ 9 17) (rn_ao he343786 he343789)).trans he343786
        have he343841 : F343836 q343735 = .inr (20, [.int p343790, .int z343834, .int p343792, .int p343793, .int p343794, .int p343795, .int p343796]) := e343837
        have hs343842 : rStr γ [1] F343733 F343836 := rStr_pu2 (rStr_rf (γ := γ) (W := [1]) (F := F343733)) n343838 htq343735 (by decide)
        have kp343843 : F343836 q343734 = F343733 q343734 := n343838 q343734 (rn_ty htq343734 htq343735 (by decide))
        have kp343844 : F343836 (γ 9 3) = F343733 (γ 9 3) := n343838 (γ 9 3) (rn_ty ht343762 htq343735 (by decide))
        have kp343845 : F343836 (γ 9 17) = F343733 (γ 9 17) := n343838 (γ 9 17) (rn_ty ht343770 htq343735 (by decide))
        have hT343846 : RS D I P343732 F343836 γ el := RS_set hT n343838 htq343735 (by decide) ⟨p343790, z343834, p343792, p343793, p343794, p343795, p343796, he343841, bp343790, (gB_w bz343834' (by decide) (by decide)), bp343794, bp343795, bp343796, (by omega), (by omega), (by omega), (by omega), (by omega)⟩
        have of343847 : ∀ b, b ≠ q343735 → F343836 b = F343733 b := fun b hb => n343838 b hb
        exact G_vretA dr_cX17_coloured_60 rfl (Nat.le_of_ble_eq_true rfl) (Nat.le_of_ble_eq_true rfl) ⟨F343836, rfl, rfl, hT343846, hs343842, (Nat.le_of_ble_eq_true rfl), (Nat.le_of_ble_eq_true rfl), of343847, kp343843, kp343844, kp343845⟩
    · have r343848 : o343818.toInt ≠ 0 := gj_neq hc343821 (show Int32.toInt 0 = 0 by decide)
      have bo343818' : gB o343818 1 1 := ⟨by omega, by omega⟩
      refine G_aload_n 1 dr_cX17_coloured_27 rfl ?_
      refine G_aload_n 0 dr_cX17_coloured_28 rfl ?_
      refine Gp_get 17 hm343738 he343739 dr_cX17_coloured_29 (gk_X17 D I) (Nat.le_of_ble_eq_true rfl) wr_7_91 rfl ?_
      refine G_aload_n 1 dr_cX17_coloured_32 rfl ?_
      refine Gp_get 3 hm343788 he343789 dr_cX17_coloured_33 (gk_X15 D I) (Nat.le_of_ble_eq_true rfl) wr_9_190 rfl ?_
      refine Gp_iald 0 hm343785 he343786 dr_cX17_coloured_36 rfl (gB_inr (by omega) (by omega)) (G_nam fun z343849 hz343849 => ?_)
      have bz343849 : gB z343849 (-1) 31 := by rw [hz343849]; exact bf343787 _
      have r343850 : 0 ≤ z343849.toInt := by rw [hz343849]; exact cq343802 _ (Or.inr (Or.inr ⟨by omega, rfl⟩))
      have bz343849' : gB z343849 0 31 := ⟨by omega, by omega⟩
      refine Gp_put 3 hm343788 he343789 dr_cX17_coloured_37 (gk_X15 D I) (Nat.le_of_ble_eq_true rfl) wr_9_190 rfl rfl rfl (Nat.le_of_ble_eq_true rfl) (fun F343851 e343852 n343853 => ?_)
      have he343854 : F343851 q343734 = .inr (22, [.ref (γ 9 0), .ref (γ 9 1), .ref (γ 9 2), .ref (γ 9 3), .ref (γ 9 4), .ref (γ 9 5), .ref (γ 9 6), .ref (γ 9 7), .ref (γ 9 8), .int p343742, .int p343743, .int p343744, .int p343745, .int p343746, .int p343747, .ref (γ 9 15), .ref (γ 9 16), .ref (γ 9 17), .ref (γ 9 18), .ref (γ 9 19), .ref (γ 9 20), .ref (γ 9 21), .ref (γ 9 22), .int p343748, .int p343749, .int p343750, .int p343751, .int p343752, .ref q343740, .ref (γ 9 29), .int p343753, .ref (γ 9 31), .int p343754, .int p343755, .int p343756, .ref q343741]) := (n343853 q343734 (rn_oo he343739 he343789 (by decide))).trans he343739
      have he343855 : F343851 (γ 9 17) = .inl (I .int, 2000, .inl f343787) := (n343853 (γ 9 17) (rn_ao he343786 he343789)).trans he343786
      have he343856 : F343851 q343735 = .inr (20, [.int p343790, .int p343791, .int p343792, .int z343849, .int p343794, .int p343795, .int p343796]) := e343852
      have hs343857 : rStr γ [1] F343733 F343851 := rStr_pu2 (rStr_rf (γ := γ) (W := [1]) (F := F343733)) n343853 htq343735 (by decide)
      have kp343858 : F343851 q343734 = F343733 q343734 := n343853 q343734 (rn_ty htq343734 htq343735 (by decide))
      have kp343859 : F343851 (γ 9 3) = F343733 (γ 9 3) := n343853 (γ 9 3) (rn_ty ht343762 htq343735 (by decide))
      have kp343860 : F343851 (γ 9 17) = F343733 (γ 9 17) := n343853 (γ 9 17) (rn_ty ht343770 htq343735 (by decide))
      refine G_aload_n 1 dr_cX17_coloured_40 rfl ?_
      have hT343861 : RS D I P343732 F343851 γ el := RS_set hT n343853 htq343735 (by decide) ⟨p343790, p343791, p343792, z343849, p343794, p343795, p343796, he343856, bp343790, bp343791, bp343794, bp343795, bp343796, (by omega), (by omega), (by omega), (by omega), (by omega)⟩
      have of343862 : ∀ b, b ≠ q343735 → F343851 b = F343733 b := fun b hb => n343853 b hb
      refine Gw_callV (As := []) (gV_ok D I) (cp_221601_Row_sets l hl0 D I P343732 F343851 q343735 p343790 p343791 p343792 z343849 p343794 p343795 p343796 hm343788 he343856 bp343790 bp343791 bp343794 bp343795 bp343796) dr_cX17_coloured_41 ⟨wr_10_181, wr_1_39, wr_10_184, by decide, rfl, (Nat.le_of_ble_eq_true rfl), (Nat.le_of_ble_eq_true rfl)⟩ wr_10_182 wr_10_183 hm343788 he343856 rfl (show 0 + 0 ≤ 0 by first | omega | decide) (show 0 + 0 ≤ 0 by first | omega | decide) (Nat.le_of_ble_eq_true rfl) (fun r343866 w343867 dc343863 ds343864 hp343865 => ?_) (fun _ _ _ _ _ z => z.elim)
      obtain ⟨o343868, rfl, rfl, hdc, hds, bo343868, x343869, ht343870⟩ := hp343865
      change G _ _ _ _ _ _ _ (.int o343868 :: _) _ _ _
      refine G_widen (cs' := 0) (sl' := 0) (by omega) (by omega) ?_
      refine G_if_eq 60 dr_cX17_coloured_44 (by decide +kernel) (fun hc343871 => ?_) (fun hc343871 => ?_)
      · have r343872 : o343868.toInt = 0 := gj_eq hc343871 (show Int32.toInt 0 = 0 by decide)
        have bo343868' : gB o343868 0 0 := ⟨by omega, by omega⟩
        exact G_vretA dr_cX17_coloured_60 rfl (Nat.le_of_ble_eq_true rfl) (Nat.le_of_ble_eq_true rfl) ⟨F343851, rfl, rfl, hT343861, hs343857, (Nat.le_of_ble_eq_true rfl), (Nat.le_of_ble_eq_true rfl), of343862, kp343858, kp343859, kp343860⟩
      · have r343873 : o343868.toInt ≠ 0 := gj_neq hc343871 (show Int32.toInt 0 = 0 by decide)
        have bo343868' : gB o343868 1 1 := ⟨by omega, by omega⟩
        refine G_aload_n 1 dr_cX17_coloured_47 rfl ?_
        refine G_aload_n 0 dr_cX17_coloured_48 rfl ?_
        refine Gp_get 17 hm343738 he343854 dr_cX17_coloured_49 (gk_X17 D I) (Nat.le_of_ble_eq_true rfl) wr_7_91 rfl ?_
        refine G_aload_n 1 dr_cX17_coloured_52 rfl ?_
        refine Gp_get 1 hm343788 he343856 dr_cX17_coloured_53 (gk_X15 D I) (Nat.le_of_ble_eq_true rfl) wr_9_182 rfl ?_
        refine Gp_iald 0 hm343785 he343855 dr_cX17_coloured_56 rfl (gB_in bp343791 (by decide) (by decide)) (G_nam fun z343874 hz343874 => ?_)
        have bz343874 : gB z343874 (-1) 31 := by rw [hz343874]; exact bf343787 _
        have r343875 : 0 ≤ z343874.toInt := by rw [hz343874]; exact cq343802 _ (Or.inl ⟨by omega, rfl⟩)
        have bz343874' : gB z343874 0 31 := ⟨by omega, by omega⟩
        refine Gp_put 1 hm343788 he343856 dr_cX17_coloured_57 (gk_X15 D I) (Nat.le_of_ble_eq_true rfl) wr_9_182 rfl rfl rfl (Nat.le_of_ble_eq_true rfl) (fun F343876 e343877 n343878 => ?_)
        have he343879 : F343876 q343734 = .inr (22, [.ref (γ 9 0), .ref (γ 9 1), .ref (γ 9 2), .ref (γ 9 3), .ref (γ 9 4), .ref (γ 9 5), .ref (γ 9 6), .ref (γ 9 7), .ref (γ 9 8), .int p343742, .int p343743, .int p343744, .int p343745, .int p343746, .int p343747, .ref (γ 9 15), .ref (γ 9 16), .ref (γ 9 17), .ref (γ 9 18), .ref (γ 9 19), .ref (γ 9 20), .ref (γ 9 21), .ref (γ 9 22), .int p343748, .int p343749, .int p343750, .int p343751, .int p343752, .ref q343740, .ref (γ 9 29), .int p343753, .ref (γ 9 31), .int p343754, .int p343755, .int p343756, .ref q343741]) := (n343878 q343734 (rn_oo he343854 he343856 (by decide))).trans he343854
        have he343880 : F343876 (γ 9 17) = .inl (I .int, 2000, .inl f343787) := (n343878 (γ 9 17) (rn_ao he343855 he343856)).trans he343855
        have he343881 : F343876 q343735 = .inr (20, [.int p343790, .int z343874, .int p343792, .int z343849, .int p343794, .int p343795, .int p343796]) := e343877
        have hs343882 : rStr γ [1] F343733 F343876 := rStr_pu2 hs343857 n343878 htq343735 (by decide)
        have kp343883 : F343876 q343734 = F343733 q343734 := (n343878 q343734 (rn_ty htq343734 htq343735 (by decide))).trans kp343858
        have kp343884 : F343876 (γ 9 3) = F343733 (γ 9 3) := (n343878 (γ 9 3) (rn_ty ht343762 htq343735 (by decide))).trans kp343859
        have kp343885 : F343876 (γ 9 17) = F343733 (γ 9 17) := (n343878 (γ 9 17) (rn_ty ht343770 htq343735 (by decide))).trans kp343860
        have hT343886 : RS D I P343732 F343876 γ el := RS_set hT343861 n343878 htq343735 (by decide) ⟨p343790, z343874, p343792, z343849, p343794, p343795, p343796, he343881, bp343790, (gB_w bz343874' (by decide) (by decide)), bp343794, bp343795, bp343796, (by omega), (by omega), (by omega), (by omega), (by omega)⟩
        have of343887 : ∀ b, b ≠ q343735 → F343876 b = F343733 b := fun b hb => (n343878 b hb).trans (of343862 b hb)
        exact G_vretA dr_cX17_coloured_60 rfl (Nat.le_of_ble_eq_true rfl) (Nat.le_of_ble_eq_true rfl) ⟨F343876, rfl, rfl, hT343886, hs343882, (Nat.le_of_ble_eq_true rfl), (Nat.le_of_ble_eq_true rfl), of343887, kp343883, kp343884, kp343885⟩
  · have r343888 : o343808.toInt ≠ 0 := gj_neq hc343811 (show Int32.toInt 0 = 0 by decide)
    have bo343808' : gB o343808 1 1 := ⟨by omega, by omega⟩
    refine G_aload_n 1 dr_cX17_coloured_7 rfl ?_
    refine G_aload_n 0 dr_cX17_coloured_8 rfl ?_
    refine Gp_get 17 hm343738 he343739 dr_cX17_coloured_9 (gk_X17 D I) (Nat.le_of_ble_eq_true rfl) wr_7_91 rfl ?_
    refine G_aload_n 1 dr_cX17_coloured_12 rfl ?_
    refine Gp_get 2 hm343788 he343789 dr_cX17_coloured_13 (gk_X15 D I) (Nat.le_of_ble_eq_true rfl) wr_9_186 rfl ?_
    refine Gp_iald 0 hm343785 he343786 dr_cX17_coloured_16 rfl (gB_inr (by omega) (by omega)) (G_nam fun z343889 hz343889 => ?_)
    have bz343889 : gB z343889 (-1) 31 := by rw [hz343889]; exact bf343787 _
    have r343890 : 0 ≤ z343889.toInt := by rw [hz343889]; exact cq343802 _ (Or.inr (Or.inl ⟨by omega, rfl⟩))
    have bz343889' : gB z343889 0 31 := ⟨by omega, by omega⟩
    refine Gp_put 2 hm343788 he343789 dr_cX17_coloured_17 (gk_X15 D I) (Nat.le_of_ble_eq_true rfl) wr_9_186 rfl rfl rfl (Nat.le_of_ble_eq_true rfl) (fun F343891 e343892 n343893 => ?_)
    have he343894 : F343891 q343734 = .inr (22, [.ref (γ 9 0), .ref (γ 9 1), .ref (γ 9 2), .ref (γ 9 3), .ref (γ 9 4), .ref (γ 9 5), .ref (γ 9 6), .ref (γ 9 7), .ref (γ 9 8), .int p343742, .int p343743, .int p343744, .int p343745, .int p343746, .int p343747, .ref (γ 9 15), .ref (γ 9 16), .ref (γ 9 17), .ref (γ 9 18), .ref (γ 9 19), .ref (γ 9 20), .ref (γ 9 21), .ref (γ 9 22), .int p343748, .int p343749, .int p343750, .int p343751, .int p343752, .ref q343740, .ref (γ 9 29), .int p343753, .ref (γ 9 31), .int p343754, .int p343755, .int p343756, .ref q343741]) := (n343893 q343734 (rn_oo he343739 he343789 (by decide))).trans he343739
    have he343895 : F343891 (γ 9 17) = .inl (I .int, 2000, .inl f343787) := (n343893 (γ 9 17) (rn_ao he343786 he343789)).trans he343786
    have he343896 : F343891 q343735 = .inr (20, [.int p343790, .int p343791, .int z343889, .int p343793, .int p343794, .int p343795, .int p343796]) := e343892
    have hs343897 : rStr γ [1] F343733 F343891 := rStr_pu2 (rStr_rf (γ := γ) (W := [1]) (F := F343733)) n343893 htq343735 (by decide)
    have kp343898 : F343891 q343734 = F343733 q343734 := n343893 q343734 (rn_ty htq343734 htq343735 (by decide))
    have kp343899 : F343891 (γ 9 3) = F343733 (γ 9 3) := n343893 (γ 9 3) (rn_ty ht343762 htq343735 (by decide))
    have kp343900 : F343891 (γ 9 17) = F343733 (γ 9 17) := n343893 (γ 9 17) (rn_ty ht343770 htq343735 (by decide))
    refine G_aload_n 1 dr_cX17_coloured_20 rfl ?_
    have hT343901 : RS D I P343732 F343891 γ el := RS_set hT n343893 htq343735 (by decide) ⟨p343790, p343791, z343889, p343793, p343794, p343795, p343796, he343896, bp343790, bp343791, bp343794, bp343795, bp343796, (by omega), (by omega), (by omega), (by omega), (by omega)⟩
    have of343902 : ∀ b, b ≠ q343735 → F343891 b = F343733 b := fun b hb => n343893 b hb
    refine Gw_callV (As := []) (gV_ok D I) (cp_221580_Row_usesB l hl0 D I P343732 F343891 q343735 p343790 p343791 z343889 p343793 p343794 p343795 p343796 hm343788 he343896 bp343790 bp343791 bp343794 bp343795 bp343796) dr_cX17_coloured_21 ⟨wr_10_196, wr_1_39, wr_10_199, by decide, rfl, (Nat.le_of_ble_eq_true rfl), (Nat.le_of_ble_eq_true rfl)⟩ wr_10_197 wr_10_198 hm343788 he343896 rfl (show 0 + 0 ≤ 0 by first | omega | decide) (show 0 + 0 ≤ 0 by first | omega | decide) (Nat.le_of_ble_eq_true rfl) (fun r343906 w343907 dc343903 ds343904 hp343905 => ?_) (fun _ _ _ _ _ z => z.elim)
    obtain ⟨o343908, rfl, rfl, hdc, hds, bo343908, x343909, ht343910⟩ := hp343905
    change G _ _ _ _ _ _ _ (.int o343908 :: _) _ _ _
    refine G_widen (cs' := 0) (sl' := 0) (by omega) (by omega) ?_
    refine G_if_eq 40 dr_cX17_coloured_24 (by decide +kernel) (fun hc343911 => ?_) (fun hc343911 => ?_)
    · have r343912 : o343908.toInt = 0 := gj_eq hc343911 (show Int32.toInt 0 = 0 by decide)
      have bo343908' : gB o343908 0 0 := ⟨by omega, by omega⟩
      refine G_aload_n 1 dr_cX17_coloured_40 rfl ?_
      refine Gw_callV (As := []) (gV_ok D I) (cp_221601_Row_sets l hl0 D I P343732 F343891 q343735 p343790 p343791 z343889 p343793 p343794 p343795 p343796 hm343788 he343896 bp343790 bp343791 bp343794 bp343795 bp343796) dr_cX17_coloured_41 ⟨wr_10_181, wr_1_39, wr_10_184, by decide, rfl, (Nat.le_of_ble_eq_true rfl), (Nat.le_of_ble_eq_true rfl)⟩ wr_10_182 wr_10_183 hm343788 he343896 rfl (show 0 + 0 ≤ 0 by first | omega | decide) (show 0 + 0 ≤ 0 by first | omega | decide) (Nat.le_of_ble_eq_true rfl) (fun r343916 w343917 dc343913 ds343914 hp343915 => ?_) (fun _ _ _ _ _ z => z.elim)
      obtain ⟨o343918, rfl, rfl, hdc, hds, bo343918, x343919, ht343920⟩ := hp343915
      change G _ _ _ _ _ _ _ (.int o343918 :: _) _ _ _
      refine G_widen (cs' := 0) (sl' := 0) (by omega) (by omega) ?_
      refine G_if_eq 60 dr_cX17_coloured_44 (by decide +kernel) (fun hc343921 => ?_) (fun hc343921 => ?_)
      · have r343922 : o343918.toInt = 0 := gj_eq hc343921 (show Int32.toInt 0 = 0 by decide)
        have bo343918' : gB o343918 0 0 := ⟨by omega, by omega⟩
        exact G_vretA dr_cX17_coloured_60 rfl (Nat.le_of_ble_eq_true rfl) (Nat.le_of_ble_eq_true rfl) ⟨F343891, rfl, rfl, hT343901, hs343897, (Nat.le_of_ble_eq_true rfl), (Nat.le_of_ble_eq_true rfl), of343902, kp343898, kp343899, kp343900⟩
      · have r343923 : o343918.toInt ≠ 0 := gj_neq hc343921 (show Int32.toInt 0 = 0 by decide)
        have bo343918' : gB o343918 1 1 := ⟨by omega, by omega⟩
        refine G_aload_n 1 dr_cX17_coloured_47 rfl ?_
        refine G_aload_n 0 dr_cX17_coloured_48 rfl ?_
        refine Gp_get 17 hm343738 he343894 dr_cX17_coloured_49 (gk_X17 D I) (Nat.le_of_ble_eq_true rfl) wr_7_91 rfl ?_
        refine G_aload_n 1 dr_cX17_coloured_52 rfl ?_
        refine Gp_get 1 hm343788 he343896 dr_cX17_coloured_53 (gk_X15 D I) (Nat.le_of_ble_eq_true rfl) wr_9_182 rfl ?_
        refine Gp_iald 0 hm343785 he343895 dr_cX17_coloured_56 rfl (gB_in bp343791 (by decide) (by decide)) (G_nam fun z343924 hz343924 => ?_)
        have bz343924 : gB z343924 (-1) 31 := by rw [hz343924]; exact bf343787 _
        have r343925 : 0 ≤ z343924.toInt := by rw [hz343924]; exact cq343802 _ (Or.inl ⟨by omega, rfl⟩)
        have bz343924' : gB z343924 0 31 := ⟨by omega, by omega⟩
        refine Gp_put 1 hm343788 he343896 dr_cX17_coloured_57 (gk_X15 D I) (Nat.le_of_ble_eq_true rfl) wr_9_182 rfl rfl rfl (Nat.le_of_ble_eq_true rfl) (fun F343926 e343927 n343928 => ?_)
        have he343929 : F343926 q343734 = .inr (22, [.ref (γ 9 0), .ref (γ 9 1), .ref (γ 9 2), .ref (γ 9 3), .ref (γ 9 4), .ref (γ 9 5), .ref (γ 9 6), .ref (γ 9 7), .ref (γ 9 8), .int p343742, .int p343743, .int p343744, .int p343745, .int p343746, .int p343747, .ref (γ 9 15), .ref (γ 9 16), .ref (γ 9 17), .ref (γ 9 18), .ref (γ 9 19), .ref (γ 9 20), .ref (γ 9 21), .ref (γ 9 22), .int p343748, .int p343749, .int p343750, .int p343751, .int p343752, .ref q343740, .ref (γ 9 29), .int p343753, .ref (γ 9 31), .int p343754, .int p343755, .int p343756, .ref q343741]) := (n343928 q343734 (rn_oo he343894 he343896 (by decide))).trans he343894
        have he343930 : F343926 (γ 9 17) = .inl (I .int, 2000, .inl f343787) := (n343928 (γ 9 17) (rn_ao he343895 he343896)).trans he343895
        have he343931 : F343926 q343735 = .inr (20, [.int p343790, .int z343924, .int z343889, .int p343793, .int p343794, .int p343795, .int p343796]) := e343927
        have hs343932 : rStr γ [1] F343733 F343926 := rStr_pu2 hs343897 n343928 htq343735 (by decide)
        have kp343933 : F343926 q343734 = F343733 q343734 := (n343928 q343734 (rn_ty htq343734 htq343735 (by decide))).trans kp343898
        have kp343934 : F343926 (γ 9 3) = F343733 (γ 9 3) := (n343928 (γ 9 3) (rn_ty ht343762 htq343735 (by decide))).trans kp343899
        have kp343935 : F343926 (γ 9 17) = F343733 (γ 9 17) := (n343928 (γ 9 17) (rn_ty ht343770 htq343735 (by decide))).trans kp343900
        have hT343936 : RS D I P343732 F343926 γ el := RS_set hT343901 n343928 htq343735 (by decide) ⟨p343790, z343924, z343889, p343793, p343794, p343795, p343796, he343931, bp343790, (gB_w bz343924' (by decide) (by decide)), bp343794, bp343795, bp343796, (by omega), (by omega), (by omega), (by omega), (by omega)⟩
        have of343937 : ∀ b, b ≠ q343735 → F343926 b = F343733 b := fun b hb => (n343928 b hb).trans (of343902 b hb)
        exact G_vretA dr_cX17_coloured_60 rfl (Nat.le_of_ble_eq_true rfl) (Nat.le_of_ble_eq_true rfl) ⟨F343926, rfl, rfl, hT343936, hs343932, (Nat.le_of_ble_eq_true rfl), (Nat.le_of_ble_eq_true rfl), of343937, kp343933, kp343934, kp343935⟩
    · have r343938 : o343908.toInt ≠ 0 := gj_neq hc343911 (show Int32.toInt 0 = 0 by decide)
      have bo343908' : gB o343908 1 1 := ⟨by omega, by omega⟩
      refine G_aload_n 1 dr_cX17_coloured_27 rfl ?_
      refine G_aload_n 0 dr_cX17_coloured_28 rfl ?_
      refine Gp_get 17 hm343738 he343894 dr_cX17_coloured_29 (gk_X17 D I) (Nat.le_of_ble_eq_true rfl) wr_7_91 rfl ?_
      refine G_aload_n 1 dr_cX17_coloured_32 rfl ?_
      refine Gp_get 3 hm343788 he343896 dr_cX17_coloured_33 (gk_X15 D I) (Nat.le_of_ble_eq_true rfl) wr_9_190 rfl ?_
      refine Gp_iald 0 hm343785 he343895 dr_cX17_coloured_36 rfl (gB_inr (by omega) (by omega)) (G_nam fun z343939 hz343939 => ?_)
      have bz343939 : gB z343939 (-1) 31 := by rw [hz343939]; exact bf343787 _
      have r343940 : 0 ≤ z343939.toInt := by rw [hz343939]; exact cq343802 _ (Or.inr (Or.inr ⟨by omega, rfl⟩))
      have bz343939' : gB z343939 0 31 := ⟨by omega, by omega⟩
      refine Gp_put 3 hm343788 he343896 dr_cX17_coloured_37 (gk_X15 D I) (Nat.le_of_ble_eq_true rfl) wr_9_190 rfl rfl rfl (Nat.le_of_ble_eq_true rfl) (fun F343941 e343942 n343943 => ?_)
      have he343944 : F343941 q343734 = .inr (22, [.ref (γ 9 0), .ref (γ 9 1), .ref (γ 9 2), .ref (γ 9 3), .ref (γ 9 4), .ref (γ 9 5), .ref (γ 9 6), .ref (γ 9 7), .ref (γ 9 8), .int p343742, .int p343743, .int p343744, .int p343745, .int p343746, .int p343747, .ref (γ 9 15), .ref (γ 9 16), .ref (γ 9 17), .ref (γ 9 18), .ref (γ 9 19), .ref (γ 9 20), .ref (γ 9 21), .ref (γ 9 22), .int p343748, .int p343749, .int p343750, .int p343751, .int p343752, .ref q343740, .ref (γ 9 29), .int p343753, .ref (γ 9 31), .int p343754, .int p343755, .int p343756, .ref q343741]) := (n343943 q343734 (rn_oo he343894 he343896 (by decide))).trans he343894
      have he343945 : F343941 (γ 9 17) = .inl (I .int, 2000, .inl f343787) := (n343943 (γ 9 17) (rn_ao he343895 he343896)).trans he343895
      have he343946 : F343941 q343735 = .inr (20, [.int p343790, .int p343791, .int z343889, .int z343939, .int p343794, .int p343795, .int p343796]) := e343942
      have hs343947 : rStr γ [1] F343733 F343941 := rStr_pu2 hs343897 n343943 htq343735 (by decide)
      have kp343948 : F343941 q343734 = F343733 q343734 := (n343943 q343734 (rn_ty htq343734 htq343735 (by decide))).trans kp343898
      have kp343949 : F343941 (γ 9 3) = F343733 (γ 9 3) := (n343943 (γ 9 3) (rn_ty ht343762 htq343735 (by decide))).trans kp343899
      have kp343950 : F343941 (γ 9 17) = F343733 (γ 9 17) := (n343943 (γ 9 17) (rn_ty ht343770 htq343735 (by decide))).trans kp343900
      refine G_aload_n 1 dr_cX17_coloured_40 rfl ?_
      have hT343951 : RS D I P343732 F343941 γ el := RS_set hT343901 n343943 htq343735 (by decide) ⟨p343790, p343791, z343889, z343939, p343794, p343795, p343796, he343946, bp343790, bp343791, bp343794, bp343795, bp343796, (by omega), (by omega), (by omega), (by omega), (by omega)⟩
      have of343952 : ∀ b, b ≠ q343735 → F343941 b = F343733 b := fun b hb => (n343943 b hb).trans (of343902 b hb)
      refine Gw_callV (As := []) (gV_ok D I) (cp_221601_Row_sets l hl0 D I P343732 F343941 q343735 p343790 p343791 z343889 z343939 p343794 p343795 p343796 hm343788 he343946 bp343790 bp343791 bp343794 bp343795 bp343796) dr_cX17_coloured_41 ⟨wr_10_181, wr_1_39, wr_10_184, by decide, rfl, (Nat.le_of_ble_eq_true rfl), (Nat.le_of_ble_eq_true rfl)⟩ wr_10_182 wr_10_183 hm343788 he343946 rfl (show 0 + 0 ≤ 0 by first | omega | decide) (show 0 + 0 ≤ 0 by first | omega | decide) (Nat.le_of_ble_eq_true rfl) (fun r343956 w343957 dc343953 ds343954 hp343955 => ?_) (fun _ _ _ _ _ z => z.elim)
      obtain ⟨o343958, rfl, rfl, hdc, hds, bo343958, x343959, ht343960⟩ := hp343955
      change G _ _ _ _ _ _ _ (.int o343958 :: _) _ _ _
      refine G_widen (cs' := 0) (sl' := 0) (by omega) (by omega) ?_
      refine G_if_eq 60 dr_cX17_coloured_44 (by decide +kernel) (fun hc343961 => ?_) (fun hc343961 => ?_)
      · have r343962 : o343958.toInt = 0 := gj_eq hc343961 (show Int32.toInt 0 = 0 by decide)
        have bo343958' : gB o343958 0 0 := ⟨by omega, by omega⟩
        exact G_vretA dr_cX17_coloured_60 rfl (Nat.le_of_ble_eq_true rfl) (Nat.le_of_ble_eq_true rfl) ⟨F343941, rfl, rfl, hT343951, hs343947, (Nat.le_of_ble_eq_true rfl), (Nat.le_of_ble_eq_true rfl), of343952, kp343948, kp343949, kp343950⟩
      · have r343963 : o343958.toInt ≠ 0 := gj_neq hc343961 (show Int32.toInt 0 = 0 by decide)
        have bo343958' : gB o343958 1 1 := ⟨by omega, by omega⟩
        refine G_aload_n 1 dr_cX17_coloured_47 rfl ?_
        refine G_aload_n 0 dr_cX17_coloured_48 rfl ?_
        refine Gp_get 17 hm343738 he343944 dr_cX17_coloured_49 (gk_X17 D I) (Nat.le_of_ble_eq_true rfl) wr_7_91 rfl ?_
        refine G_aload_n 1 dr_cX17_coloured_52 rfl ?_
        refine Gp_get 1 hm343788 he343946 dr_cX17_coloured_53 (gk_X15 D I) (Nat.le_of_ble_eq_true rfl) wr_9_182 rfl ?_
        refine Gp_iald 0 hm343785 he343945 dr_cX17_coloured_56 rfl (gB_in bp343791 (by decide) (by decide)) (G_nam fun z343964 hz343964 => ?_)
        have bz343964 : gB z343964 (-1) 31 := by rw [hz343964]; exact bf343787 _
        have r343965 : 0 ≤ z343964.toInt := by rw [hz343964]; exact cq343802 _ (Or.inl ⟨by omega, rfl⟩)
        have bz343964' : gB z343964 0 31 := ⟨by omega, by omega⟩
        refine Gp_put 1 hm343788 he343946 dr_cX17_coloured_57 (gk_X15 D I) (Nat.le_of_ble_eq_true rfl) wr_9_182 rfl rfl rfl (Nat.le_of_ble_eq_true rfl) (fun F343966 e343967 n343968 => ?_)
        have he343969 : F343966 q343734 = .inr (22, [.ref (γ 9 0), .ref (γ 9 1), .ref (γ 9 2), .ref (γ 9 3), .ref (γ 9 4), .ref (γ 9 5), .ref (γ 9 6), .ref (γ 9 7), .ref (γ 9 8), .int p343742, .int p343743, .int p343744, .int p343745, .int p343746, .int p343747, .ref (γ 9 15), .ref (γ 9 16), .ref (γ 9 17), .ref (γ 9 18), .ref (γ 9 19), .ref (γ 9 20), .ref (γ 9 21), .ref (γ 9 22), .int p343748, .int p343749, .int p343750, .int p343751, .int p343752, .ref q343740, .ref (γ 9 29), .int p343753, .ref (γ 9 31), .int p343754, .int p343755, .int p343756, .ref q343741]) := (n343968 q343734 (rn_oo he343944 he343946 (by decide))).trans he343944
        have he343970 : F343966 (γ 9 17) = .inl (I .int, 2000, .inl f343787) := (n343968 (γ 9 17) (rn_ao he343945 he343946)).trans he343945
        have he343971 : F343966 q343735 = .inr (20, [.int p343790, .int z343964, .int z343889, .int z343939, .int p343794, .int p343795, .int p343796]) := e343967
        have hs343972 : rStr γ [1] F343733 F343966 := rStr_pu2 hs343947 n343968 htq343735 (by decide)
        have kp343973 : F343966 q343734 = F343733 q343734 := (n343968 q343734 (rn_ty htq343734 htq343735 (by decide))).trans kp343948
        have kp343974 : F343966 (γ 9 3) = F343733 (γ 9 3) := (n343968 (γ 9 3) (rn_ty ht343762 htq343735 (by decide))).trans kp343949
        have kp343975 : F343966 (γ 9 17) = F343733 (γ 9 17) := (n343968 (γ 9 17) (rn_ty ht343770 htq343735 (by decide))).trans kp343950
        have hT343976 : RS D I P343732 F343966 γ el := RS_set hT343951 n343968 htq343735 (by decide) ⟨p343790, z343964, z343889, z343939, p343794, p343795, p343796, he343971, bp343790, (gB_w bz343964' (by decide) (by decide)), bp343794, bp343795, bp343796, (by omega), (by omega), (by omega), (by omega), (by omega)⟩
        have of343977 : ∀ b, b ≠ q343735 → F343966 b = F343733 b := fun b hb => (n343968 b hb).trans (of343952 b hb)
        exact G_vretA dr_cX17_coloured_60 rfl (Nat.le_of_ble_eq_true rfl) (Nat.le_of_ble_eq_true rfl) ⟨F343966, rfl, rfl, hT343976, hs343972, (Nat.le_of_ble_eq_true rfl), (Nat.le_of_ble_eq_true rfl), of343977, kp343973, kp343974, kp343975⟩
abbrev ky_343985_SpillForgeModel_share : gKey := (cX17_share, 7, "SpillForgeModel", none, [], "share", fun _ _ => True)
def pt_343985_SpillForgeModel_share (D : va_G) (I : FieldType → ClassId) (γ el : Nat → Nat → Nat) (P343979 : List Nat) (F343980 : Nat → va_E) (q343981 : Nat) (q343982 : Nat) : Option Value → va_W → Nat → Nat → Prop := fun r w dc ds => ∃ (F365069 : Nat → va_E), r = none ∧ w = va_pl P343979 F365069 ∧ RS D I P343979 F365069 γ el ∧ rStr γ [1] F343980 F365069 ∧ dc ≤ 0 ∧ ds ≤ 0 ∧ mKp (F343980 q343981) (F365069 q343981)
set_option maxRecDepth 100000 in
set_option maxHeartbeats 4000000 in
theorem ct_343985_SpillForgeModel_share (l : Launch) (hl0 : l.stackTraces = false) (D : va_G) (I : FieldType → ClassId) (γ el : Nat → Nat → Nat) (P343979 : List Nat) (F343980 : Nat → va_E) (q343981 : Nat) (q343982 : Nat) (hT : RS D I P343979 F343980 γ el) (htq343981 : rKd γ q343981 10) (htq343982 : rKd γ q343982 9) (x343983 : 0 < γ 6 (γ 1 q343982)) (x343984 : (((γ 7 (γ 1 q343982) : Nat) : Int) ≤ (fI (F343980 q343981) 11).toInt)) : CtA (gV D I) l yX17_share cX17_share 7 none 6 141 0 0 [.ref q343981, .ref q343982] (va_pl P343979 F343980) (pt_343985_SpillForgeModel_share D I γ el P343979 F343980 q343981 q343982) gNA := by
  refine CtA_of hl0 (by decide) (Nat.le_of_ble_eq_true rfl) ?_
  have hm343986 : q343981 ∈ P343979 := RS_m hT htq343981 (by decide)
  refine rk10_e (show rk_10 γ (F343980 q343981) from RS_o hT htq343981) (fun q343988 q343989 p343990 p343991 p343992 p343993 p343994 p343995 p343996 p343997 p343998 p343999 p344000 p344001 p344002 p344003 p344004 he343987 hB344031 ht344005 ht344006 ht344007 ht344008 ht344009 ht344010 ht344011 ht344012 ht344013 ht344014 ht344015 ht344016 ht344017 ht344018 ht344019 ht344020 ht344021 ht344022 ht344023 ht344024 ht344025 ht344026 ht344027 ht344028 hB344032 => ?_)
  have hm344033 : (γ 9 19) ∈ P343979 := RS_m hT ht344020 (by decide)
  obtain ⟨f344035, he344034, bf344035⟩ := show rk_21 I (F343980 (γ 9 19)) from RS_o hT ht344020
  have r344036 : (γ 7 (γ 1 q343982) : Int) ≤ p343992.toInt := by have z := x343984; rw [he343987] at z; exact z
  have bp343992 : gB p343992 0 100 := (hB344031.2.2.1)
  refine G_aload_n 0 dr_cX17_share_0 rfl ?_
  refine G_aload_n 1 dr_cX17_share_1 rfl ?_
  refine G_iconst 1 dr_cX17_share_2 (by decide +kernel) ?_
  refine Gw_callV (As := [.ref q343982, .int 1]) (gV_ok D I) (ct_276669_SpillForgeModel_graph l hl0 D I γ el P343979 F343980 q343981 q343982 1 hT htq343981 htq343982 (gB_w (gBl (show Int32.toInt 1 = 1 by decide)) (by decide) (by decide)) (by omega)) dr_cX17_share_3 ⟨wr_10_233, wr_1_14, wr_10_236, by decide, rfl, (Nat.le_of_ble_eq_true rfl), (Nat.le_of_ble_eq_true rfl)⟩ wr_10_235 wr_p_99 hm343986 he343987 rfl (show 0 + 0 ≤ 0 by first | omega | decide) (show 0 + 0 ≤ 0 by first | omega | decide) (Nat.le_of_ble_eq_true rfl) (fun r344040 w344041 dc344037 ds344038 hp344039 => ?_) (fun _ _ _ _ _ z => z.elim)
  obtain ⟨F344045, rfl, rfl, hT344046, hs344047, hdc, hds, x344042, x344043, ht344044⟩ := hp344039
  have hs344048 : rStr γ [1] F343980 F344045 := rStr_tr (rStr_rf (γ := γ) (W := [1]) (F := F343980)) (rStr_w hs344047 (by decide))
  have kp344049 : F344045 q343981 = F343980 q343981 := x344043
  have mk344050 : mKp (F343980 q343981) (F344045 q343981) := mKp_tr mKp_rf (mKp_eq x344043)
  have he344051 : F344045 q343981 = .inr (22, [.ref (γ 9 0), .ref (γ 9 1), .ref (γ 9 2), .ref (γ 9 3), .ref (γ 9 4), .ref (γ 9 5), .ref (γ 9 6), .ref (γ 9 7), .ref (γ 9 8), .int p343990, .int p343991, .int p343992, .int p343993, .int p343994, .int p343995, .ref (γ 9 15), .ref (γ 9 16), .ref (γ 9 17), .ref (γ 9 18), .ref (γ 9 19), .ref (γ 9 20), .ref (γ 9 21), .ref (γ 9 22), .int p343996, .int p343997, .int p343998, .int p343999, .int p344000, .ref q343988, .ref (γ 9 29), .int p344001, .ref (γ 9 31), .int p344002, .int p344003, .int p344004, .ref q343989]) := (x344043).trans he343987
  rw [show Int32.toInt 1 = 1 from by decide] at x344042
  change G _ _ _ _ _ _ _ _ _ _ _
  refine G_widen (cs' := 0) (sl' := 0) (by omega) (by omega) ?_
  refine G_iconst 0 dr_cX17_share_6 (by decide +kernel) ?_
  refine G_istore_n (L' := [(2, .int 0), (0, .ref q343981), (1, .ref q343982)]) dr_cX17_share_7 (Nat.le_of_ble_eq_true rfl) rfl ?_
  refine G_iconst 0 dr_cX17_share_8 (by decide +kernel) ?_
  refine G_istore_n (L' := [(3, .int 0), (2, .int 0), (0, .ref q343981), (1, .ref q343982)]) dr_cX17_share_9 (Nat.le_of_ble_eq_true rfl) rfl ?_
  have hlp10_363559 : ∀ (n10_363559 : Nat) (F363553 : Nat → va_E) (g363551 : Int32) (g363552 : Int32), gB g363551 0 100 → gB g363552 0 1999 → RS D I P343979 F363553 γ el → rStr γ [1] F343980 F363553 → (∀ q : Nat, (q : Int) < g363551.toInt → 0 ≤ (cB (F363553 (γ 9 19)) q).toInt ∧ (cB (F363553 (γ 9 19)) q).toInt ≤ q) → (g363552.toInt ≤ 100) → (F363553 q343981 = F343980 q343981) → mKp (F343980 q343981) (F363553 q343981) → ((101 : Int) - g363551.toInt).toNat < n10_363559 → G (gV D I) l (gRm 6 141 0 0) (gMA (gV D I) (pt_343985_SpillForgeModel_share D I γ el P343979 F343980 q343981 q343982) gNA 0 0) ky_343985_SpillForgeModel_share 10 [(3, .int g363551), (2, .int g363552), (0, .ref q343981), (1, .ref q343982)] [] (va_pl P343979 F363553) 0 0 := by
    intro n10_363559
    induction n10_363559 with
    | zero => intro F363553 g363551 g363552 bg363551 bg363552 hT363554 hs363555 x363556 x363557 x363558 x363559 hm10_363559; exact absurd hm10_363559 (Nat.not_lt_zero _)
    | succ n10_363559 ih10_363559 =>
      intro F363553 g363551 g363552 bg363551 bg363552 hT363554 hs363555 x363556 x363557 x363558 x363559 hm10_363559
      have hs363561 : rStr γ [1] F344045 F363553 := fun b h0 hb hw => (hs363555 b h0 hb hw).trans (hs344048 b h0 hb hw).symm
      have hs363562 : rStr γ [1] F343980 F363553 := rStr_tr hs344048 hs363561
      have he363563 : F363553 q343981 = .inr (22, [.ref (γ 9 0), .ref (γ 9 1), .ref (γ 9 2), .ref (γ 9 3), .ref (γ 9 4), .ref (γ 9 5), .ref (γ 9 6), .ref (γ 9 7), .ref (γ 9 8), .int p343990, .int p343991, .int p343992, .int p343993, .int p343994, .int p343995, .ref (γ 9 15), .ref (γ 9 16), .ref (γ 9 17), .ref (γ 9 18), .ref (γ 9 19), .ref (γ 9 20), .ref (γ 9 21), .ref (γ 9 22), .int p343996, .int p343997, .int p343998, .int p343999, .int p344000, .ref q343988, .ref (γ 9 29), .int p344001, .ref (γ 9 31), .int p344002, .int p344003, .int p344004, .ref q343989]) := x363558.trans he343987
      have hm363564 : q343981 ∈ P343979 := RS_m hT363554 htq343981 (by decide)
      have hm363565 : (γ 9 19) ∈ P343979 := RS_m hT363554 ht344020 (by decide)
      obtain ⟨f363567, he363566, bf363567⟩ := show rk_21 I (F363553 (γ 9 19)) from RS_o hT363554 ht344020
      have cq363568 := x363556
      rw [cB_of he363566] at cq363568
      refine G_iload_n 0 dr_cX17_share_10 rfl ?_
      refine G_aload_n 2 dr_cX17_share_11 rfl ?_
      refine Gp_get 11 hm363564 he363563 dr_cX17_share_12 (gk_X17 D I) (Nat.le_of_ble_eq_true rfl) wr_7_85 rfl ?_
      refine G_icmp_ge 151 dr_cX17_share_15 (by decide +kernel) (fun hc363569 => ?_) (fun hc363569 => ?_)
      · have r363570 : p343992.toInt ≤ g363551.toInt := gC_le hc363569
        refine G_iconst 0 dr_cX17_share_151 (by decide +kernel) ?_
        refine G_istore_n (L' := [(3, .int 0), (2, .int g363552), (0, .ref q343981), (1, .ref q343982)]) dr_cX17_share_152 (Nat.le_of_ble_eq_true rfl) rfl ?_
        have hlp153_363914 : ∀ (n153_363914 : Nat) (F363909 : Nat → va_E) (g363908 : Int32), gB g363908 0 1000000 → RS D I P343979 F363909 γ el → rStr γ [1] F343980 F363909 → (∀ q : Nat, (q : Int) < ((γ 7 (γ 1 q343982) : Nat) : Int) → 0 ≤ (cB (F363909 (γ 9 19)) q).toInt ∧ (cB (F363909 (γ 9 19)) q).toInt ≤ q) → (F363909 q343981 = F343980 q343981) → mKp (F343980 q343981) (F363909 q343981) → ((1000001 : Int) - g363908.toInt).toNat < n153_363914 → G (gV D I) l (gRm 6 141 0 0) (gMA (gV D I) (pt_343985_SpillForgeModel_share D I γ el P343979 F343980 q343981 q343982) gNA 0 0) ky_343985_SpillForgeModel_share 153 [(3, .int g363908), (2, .int g363552), (0, .ref q343981), (1, .ref q343982)] [] (va_pl P343979 F363909) 0 0 := by
          intro n153_363914
          induction n153_363914 with
          | zero => intro F363909 g363908 bg363908 hT363910 hs363911 x363912 x363913 x363914 hm153_363914; exact absurd hm153_363914 (Nat.not_lt_zero _)
          | succ n153_363914 ih153_363914 =>
            intro F363909 g363908 bg363908 hT363910 hs363911 x363912 x363913 x363914 hm153_363914
            have hs363916 : rStr γ [1] F363553 F363909 := fun b h0 hb hw => (hs363911 b h0 hb hw).trans (hs363555 b h0 hb hw).symm
            have hs363917 : rStr γ [1] F343980 F363909 := rStr_tr hs363555 hs363916
            have he363918 : F363909 q343981 = .inr (22, [.ref (γ 9 0), .ref (γ 9 1), .ref (γ 9 2), .ref (γ 9 3), .ref (γ 9 4), .ref (γ 9 5), .ref (γ 9 6), .ref (γ 9 7), .ref (γ 9 8), .int p343990, .int p343991, .int p343992, .int p343993, .int p343994, .int p343995, .ref (γ 9 15), .ref (γ 9 16), .ref (γ 9 17), .ref (γ 9 18), .ref (γ 9 19), .ref (γ 9 20), .ref (γ 9 21), .ref (γ 9 22), .int p343996, .int p343997, .int p343998, .int p343999, .int p344000, .ref q343988, .ref (γ 9 29), .int p344001, .ref (γ 9 31), .int p344002, .int p344003, .int p344004, .ref q343989]) := x363913.trans he343987
            have hm363919 : q343981 ∈ P343979 := RS_m hT363910 htq343981 (by decide)
            have hm363920 : (γ 9 19) ∈ P343979 := RS_m hT363910 ht344020 (by decide)
            obtain ⟨f363922, he363921, bf363922⟩ := show rk_21 I (F363909 (γ 9 19)) from RS_o hT363910 ht344020
            have cq363923 := x363912
            rw [cB_of he363921] at cq363923
            refine G_iload_n 0 dr_cX17_share_153 rfl ?_
            refine G_aload_n 3 dr_cX17_share_154 rfl ?_
            have hm363924 : q343982 ∈ P343979 := RS_m hT363910 htq343982 (by decide)
            obtain ⟨q363926, q363927, p363928, p363929, he363925, ht363945, ht363930, ht363931, ht363932, ht363933, r363934, r363935, r363936, r363937, r363938, r363939, r363940, r363941, r363942, r363943, r363944⟩ := show rk_9 γ el q343982 (F363909 q343982) from RS_o hT363910 htq343982
            have bp363928 : gB p363928 0 1000000 := ⟨by omega, by omega⟩
            have bp363929 : gB p363929 0 1000000 := ⟨by omega, by omega⟩
            refine Gw_callV (As := []) (gV_ok D I) (cp_12780_Code_size l hl0 D I P343979 F363909 q343982 q363926 q363927 p363928 p363929 hm363924 he363925) dr_cX17_share_155 ⟨wr_10_160, wr_1_15, wr_9_131, by decide, rfl, (Nat.le_of_ble_eq_true rfl), (Nat.le_of_ble_eq_true rfl)⟩ wr_9_129 wr_9_130 hm363924 he363925 rfl (show 0 + 0 ≤ 0 by first | omega | decide) (show 0 + 0 ≤ 0 by first | omega | decide) (Nat.le_of_ble_eq_true rfl) (fun r363949 w363950 dc363946 ds363947 hp363948 => ?_) (fun _ _ _ _ _ z => z.elim)
            obtain ⟨rfl, rfl, hdc, hds⟩ := hp363948
            change G _ _ _ _ _ _ _ (.int p363929 :: _) _ _ _
            refine G_widen (cs' := 0) (sl' := 0) (by omega) (by omega) ?_
            refine G_icmp_ge 246 dr_cX17_share_158 (by decide +kernel) (fun hc363951 => ?_) (fun hc363951 => ?_)
            · have r363952 : p363929.toInt ≤ g363908.toInt := gC_le hc363951
              refine G_aload_n 2 dr_cX17_share_246 rfl ?_
              refine G_iload_n 1 dr_cX17_share_247 rfl ?_
              refine Gp_put 11 hm363919 he363918 dr_cX17_share_248 (gk_X17 D I) (Nat.le_of_ble_eq_true rfl) wr_7_85 rfl rfl rfl (Nat.le_of_ble_eq_true rfl) (fun F363953 e363954 n363955 => ?_)
              have he363956 : F363953 (γ 9 19) = .inl (I .int, 2000, .inl f363922) := (n363955 (γ 9 19) (rn_ao he363921 he363918)).trans he363921
              have he363957 : F363953 q343982 = .inr (18, [.ref q363926, .ref q363927, .int p363928, .int p363929]) := (n363955 q343982 (rn_oo he363925 he363918 (by decide))).trans he363925
              have he363958 : F363953 q343981 = .inr (22, [.ref (γ 9 0), .ref (γ 9 1), .ref (γ 9 2), .ref (γ 9 3), .ref (γ 9 4), .ref (γ 9 5), .ref (γ 9 6), .ref (γ 9 7), .ref (γ 9 8), .int p343990, .int p343991, .int g363552, .int p343993, .int p343994, .int p343995, .ref (γ 9 15), .ref (γ 9 16), .ref (γ 9 17), .ref (γ 9 18), .ref (γ 9 19), .ref (γ 9 20), .ref (γ 9 21), .ref (γ 9 22), .int p343996, .int p343997, .int p343998, .int p343999, .int p344000, .ref q343988, .ref (γ 9 29), .int p344001, .ref (γ 9 31), .int p344002, .int p344003, .int p344004, .ref q343989]) := e363954
              have mk363959 : mKp (F343980 q343981) (F363953 q343981) := mKp_tr x363914 (by rw [he363918, he363958]; exact ⟨rfl, rfl⟩)
              have hs363960 : rStr γ [1] F343980 F363953 := rStr_put hs363911 n363955 htq343981 (by decide)
              have hT363961 : RS D I P343979 F363953 γ el := RS_set hT363910 n363955 htq343981 (by decide) ⟨q343988, q343989, p343990, p343991, g363552, p343993, p343994, p343995, p343996, p343997, p343998, p343999, p344000, p344001, p344002, p344003, p344004, he363958, ⟨(hB344031.1), (hB344031.2.1), ⟨by omega, by omega⟩, (hB344031.2.2.2.1), (hB344031.2.2.2.2.1), (hB344031.2.2.2.2.2.1), (hB344031.2.2.2.2.2.2.1), (hB344031.2.2.2.2.2.2.2.1), (hB344031.2.2.2.2.2.2.2.2)⟩, ht344005, ht344006, ht344007, ht344008, ht344009, ht344010, ht344011, ht344012, ht344013, ht344014, ht344015, ht344016, ht344017, ht344018, ht344019, ht344020, ht344021, ht344022, ht344023, ht344024, ht344025, ht344026, ht344027, ht344028, hB344032⟩
              exact G_vretA dr_cX17_share_251 rfl (Nat.le_of_ble_eq_true rfl) (Nat.le_of_ble_eq_true rfl) ⟨F363953, rfl, rfl, hT363961, hs363960, (Nat.le_of_ble_eq_true rfl), (Nat.le_of_ble_eq_true rfl), mk363959⟩
            · have r363962 : g363908.toInt < p363929.toInt := gC_nle hc363951
              have bg363908' : gB g363908 0 999999 := ⟨by omega, by omega⟩
              have bp363929' : gB p363929 1 1000000 := ⟨by omega, by omega⟩
              refine G_aload_n 3 dr_cX17_share_161 rfl ?_
              refine G_iload_n 0 dr_cX17_share_162 rfl ?_
              have hm363963 : q363926 ∈ P343979 := RS_m hT363910 ht363930 (by decide)
              obtain ⟨⟨p363965, p363966, q363967, he363964, r363968, r363969, r363970, r363972⟩, r363971⟩ := show rk_4 D I γ el F363909 q363926 from RS_o hT363910 ht363930
              have bp363965 := gB_any p363965
              have bp363966 : gB p363966 0 1000000 := ⟨by omega, by omega⟩
              obtain ⟨r363973, r363974, n363981, f363982, r363975, r363976, r363977, r363978, r363979, r363980⟩ := rLC_n r363970 (by omega)
              have hm363983 : q363967 ∈ P343979 := RS_m hT363910 r363973 (by decide)
              obtain ⟨q363984, hx363985⟩ : ∃ x, x = el q363926 g363908.toInt.toNat := ⟨_, rfl⟩
              have hx363986 : f363982 g363908.toNatClampNeg = some q363984 := (r363979 _ (show g363908.toInt.toNat < γ 2 q363926 by omega)).trans (by rw [hx363985])
              have ht363989 : rKd γ q363984 2 := by rw [hx363985]; exact (r363941 _ (by omega)).resolve_right (fun z => absurd z.1 (by omega))
              have ht363990 : rFm γ q363984 q363926 := by rw [hx363985]; exact (r363971 _ (show g363908.toInt.toNat < γ 2 q363926 by omega)).2.1
              have hm363991 : q363984 ∈ P343979 := RS_m hT363910 ht363989 (by decide)
              obtain ⟨q363993, q363994, p363995, p363996, he363992, ht364003, ht363997, ht363998, ht363999, ht364000, ht364001, bp363995, bp363996, r364002, r364004, r364005⟩ := show rk_2 γ q363984 (F363909 q363984) from RS_o hT363910 ht363989
              refine Gw_callV (As := [.int g363908]) (gV_ok D I) (cp_7901_Code_get l hl0 D I P343979 F363909 q343982 q363926 q363967 g363908 q363927 p363928 p363929 p363965 p363966 f363982 n363981 q363984 q363993 q363994 p363995 p363996 hm363924 hm363963 hm363983 hm363991 he363925 he363964 r363975 he363992 (gB_w bg363908' (by decide) (by decide)) (gB_w bp363966 (by decide) (by decide)) (by omega) (by omega) (by assumption) (by omega)) dr_cX17_share_163 ⟨wr_10_161, wr_1_15, wr_10_141, by decide, rfl, (Nat.le_of_ble_eq_true rfl), (Nat.le_of_ble_eq_true rfl)⟩ wr_10_139 wr_10_140 hm363924 he363925 rfl (show 0 + 0 ≤ 0 by first | omega | decide) (show 0 + 0 ≤ 0 by first | omega | decide) (Nat.le_of_ble_eq_true rfl) (fun r364009 w364010 dc364006 ds364007 hp364008 => ?_) (fun _ _ _ _ _ z => z.elim)
              obtain ⟨rfl, rfl, hdc, hds, ht364011⟩ := hp364008
              change G _ _ _ _ _ _ _ (.ref q363984 :: _) _ _ _
              refine G_widen (cs' := 0) (sl' := 0) (by omega) (by omega) ?_
              refine G_astore (L' := [(4, .ref q363984), (3, .int g363908), (2, .int g363552), (0, .ref q343981), (1, .ref q343982)]) dr_cX17_share_166 (Nat.le_of_ble_eq_true rfl) rfl ?_
              refine G_iconst 0 dr_cX17_share_168 (by decide +kernel) ?_
              refine G_istore (L' := [(5, .int 0), (4, .ref q363984), (3, .int g363908), (2, .int g363552), (0, .ref q343981), (1, .ref q343982)]) dr_cX17_share_169 (Nat.le_of_ble_eq_true rfl) rfl ?_
              have hlp171_364135 : ∀ (n171_364135 : Nat) (F364130 : Nat → va_E) (g364129 : Int32), gB g364129 0 1000000 → RS D I P343979 F364130 γ el → rStr γ [1] F343980 F364130 → (∀ q : Nat, (q : Int) < ((γ 7 (γ 1 q343982) : Nat) : Int) → 0 ≤ (cB (F364130 (γ 9 19)) q).toInt ∧ (cB (F364130 (γ 9 19)) q).toInt ≤ q) → (F364130 q343981 = F343980 q343981) → mKp (F343980 q343981) (F364130 q343981) → ((1000001 : Int) - g364129.toInt).toNat < n171_364135 → G (gV D I) l (gRm 6 141 0 0) (gMA (gV D I) (pt_343985_SpillForgeModel_share D I γ el P343979 F343980 q343981 q343982) gNA 0 0) ky_343985_SpillForgeModel_share 171 [(5, .int g364129), (4, .ref q363984), (3, .int g363908), (2, .int g363552), (0, .ref q343981), (1, .ref q343982)] [] (va_pl P343979 F364130) 0 0 := by
                intro n171_364135
                induction n171_364135 with
                | zero => intro F364130 g364129 bg364129 hT364131 hs364132 x364133 x364134 x364135 hm171_364135; exact absurd hm171_364135 (Nat.not_lt_zero _)
                | succ n171_364135 ih171_364135 =>
                  intro F364130 g364129 bg364129 hT364131 hs364132 x364133 x364134 x364135 hm171_364135
                  have hs364137 : rStr γ [1] F363909 F364130 := fun b h0 hb hw => (hs364132 b h0 hb hw).trans (hs363911 b h0 hb hw).symm
                  have he364138 : F364130 q343982 = .inr (18, [.ref q363926, .ref q363927, .int p363928, .int p363929]) := (hs364137 q343982 (rT0 htq343982 (by decide)) (rT1 htq343982 (by decide)) (rT2 htq343982 (by decide))).trans he363925
                  have he364139 : F364130 q363926 = .inr (4, [.int p363965, .ref q363967, .int p363966]) := (hs364137 q363926 (rT0 ht363930 (by decide)) (rT1 ht363930 (by decide)) (rT2 ht363930 (by decide))).trans he363964
                  have he364140 : F364130 q363967 = .inl (I (.object "java/lang/Object"), n363981, .inr (.inr (.inr (.inr f363982)))) := (hs364137 q363967 (rT0 r363973 (by decide)) (rT1 r363973 (by decide)) (rT2 r363973 (by decide))).trans r363975
                  have he364141 : F364130 q363984 = .inr (17, [.ref q363993, .ref q363994, .int p363995, .int p363996]) := (hs364137 q363984 (rT0 ht363989 (by decide)) (rT1 ht363989 (by decide)) (rT2 ht363989 (by decide))).trans he363992
                  have hs364142 : rStr γ [1] F343980 F364130 := rStr_tr hs363911 hs364137
                  have he364143 : F364130 q343981 = .inr (22, [.ref (γ 9 0), .ref (γ 9 1), .ref (γ 9 2), .ref (γ 9 3), .ref (γ 9 4), .ref (γ 9 5), .ref (γ 9 6), .ref (γ 9 7), .ref (γ 9 8), .int p343990, .int p343991, .int p343992, .int p343993, .int p343994, .int p343995, .ref (γ 9 15), .ref (γ 9 16), .ref (γ 9 17), .ref (γ 9 18), .ref (γ 9 19), .ref (γ 9 20), .ref (γ 9 21), .ref (γ 9 22), .int p343996, .int p343997, .int p343998, .int p343999, .int p344000, .ref q343988, .ref (γ 9 29), .int p344001, .ref (γ 9 31), .int p344002, .int p344003, .int p344004, .ref q343989]) := x364134.trans he343987
                  have hm364144 : q343981 ∈ P343979 := RS_m hT364131 htq343981 (by decide)
                  have hm364145 : (γ 9 19) ∈ P343979 := RS_m hT364131 ht344020 (by decide)
                  obtain ⟨f364147, he364146, bf364147⟩ := show rk_21 I (F364130 (γ 9 19)) from RS_o hT364131 ht344020
                  have cq364148 := x364133
                  rw [cB_of he364146] at cq364148
                  refine G_iload 0 dr_cX17_share_171 rfl ?_
                  refine G_aload 1 dr_cX17_share_173 rfl ?_
                  refine Gp_get 0 hm363991 he364141 dr_cX17_share_175 (gk_X12 D I) (Nat.le_of_ble_eq_true rfl) wr_9_220 rfl ?_
                  have hm364149 : q363993 ∈ P343979 := RS_m hT364131 ht363997 (by decide)
                  obtain ⟨⟨p364151, p364152, q364153, he364150, r364154, r364155, r364156, r364158⟩, r364157⟩ := show rk_3 D I γ el F364130 q363993 from RS_o hT364131 ht363997
                  have bp364151 := gB_any p364151
                  have bp364152 : gB p364152 0 1000000 := ⟨by omega, by omega⟩
                  refine Gw_callV (As := []) (gV_ok D I) (cp_7_ArrayList_size l hl0 D I P343979 F364130 q363993 p364151 q364153 p364152 hm364149 he364150 (gB_w bp364152 (by decide) (by decide))) dr_cX17_share_178 ⟨wr_10_200, wr_1_18, wr_9_160, by decide, rfl, (Nat.le_of_ble_eq_true rfl), (Nat.le_of_ble_eq_true rfl)⟩ wr_9_158 wr_9_159 hm364149 he364150 rfl (show 0 + 0 ≤ 0 by first | omega | decide) (show 0 + 0 ≤ 0 by first | omega | decide) (Nat.le_of_ble_eq_true rfl) (fun r364162 w364163 dc364159 ds364160 hp364161 => ?_) (fun _ _ _ _ _ z => z.elim)
                  obtain ⟨rfl, rfl, hdc, hds⟩ := hp364161
                  change G _ _ _ _ _ _ _ (.int p364152 :: _) _ _ _
                  refine G_widen (cs' := 0) (sl' := 0) (by omega) (by omega) ?_
                  refine G_icmp_ge 240 dr_cX17_share_181 (by decide +kernel) (fun hc364164 => ?_) (fun hc364164 => ?_)
                  · have r364165 : p364152.toInt ≤ g364129.toInt := gC_le hc364164
                    obtain ⟨z364166, hz364166⟩ : ∃ z : Int32, z = g363908 + Int32.ofInt 1 := ⟨_, rfl⟩
                    have ez364166 : z364166.toInt = g363908.toInt + 1 := gI_inc hz364166 (by decide) bg363908' (by decide) (by decide)
                    have bz364166 : gB z364166 1 1000000 := ⟨by omega, by omega⟩
                    refine G_iinc (L' := [(3, .int z364166), (5, .int g364129), (4, .ref q363984), (2, .int g363552), (0, .ref q343981), (1, .ref q343982)]) z364166 2 dr_cX17_share_240 rfl hz364166.symm (Nat.le_of_ble_eq_true rfl) rfl ?_
                    refine G_goto 153 dr_cX17_share_243 (by decide +kernel) ?_
                    refine G_lv (L' := [(3, .int z364166), (2, .int g363552), (0, .ref q343981), (1, .ref q343982)]) [0, 3, 4, 5] rfl ?_
                    exact ih153_363914 F364130 z364166 (gB_w bz364166 (by decide) (by decide)) hT364131 hs364132 (by rw [cB_of he364146]; exact cq364148) x364134 x364135 (mz_up ez364166 (Int.le_trans bg363908'.2 (by decide)) hm153_363914)
                  · have r364167 : g364129.toInt < p364152.toInt := gC_nle hc364164
                    have bg364129' : gB g364129 0 999999 := ⟨by omega, by omega⟩
                    have bp364152' : gB p364152 1 1000000 := ⟨by omega, by omega⟩
                    refine G_aload 1 dr_cX17_share_184 rfl ?_
                    refine Gp_get 0 hm363991 he364141 dr_cX17_share_186 (gk_X12 D I) (Nat.le_of_ble_eq_true rfl) wr_9_220 rfl ?_
                    refine G_iload 0 dr_cX17_share_189 rfl ?_
                    obtain ⟨r364168, r364169, n364176, f364177, r364170, r364171, r364172, r364173, r364174, r364175⟩ := rLC_n r364156 (by omega)
                    have hm364178 : q364153 ∈ P343979 := RS_m hT364131 r364168 (by decide)
                    obtain ⟨q364179, hx364180⟩ : ∃ x, x = el q363993 g364129.toInt.toNat := ⟨_, rfl⟩
                    have hx364181 : f364177 g364129.toNatClampNeg = some q364179 := (r364174 _ (show g364129.toInt.toNat < γ 2 q363993 by omega)).trans (by rw [hx364180])
                    have ht364182 : rKd γ q364179 1 := by rw [hx364180]; exact (r364157 _ (show g364129.toInt.toNat < γ 2 q363993 by omega)).1
                    have ht364183 : rFm γ q364179 q363993 := by rw [hx364180]; exact (r364157 _ (show g364129.toInt.toNat < γ 2 q363993 by omega)).2.1
                    refine Gw_callV (As := [.int g364129]) (gV_ok D I) (cp_22_ArrayList_get l hl0 D I P343979 F364130 q363993 q364153 g364129 p364151 p364152 f364177 n364176 q364179 hm364149 hm364178 he364150 r364170 (gB_w bg364129' (by decide) (by decide)) (gB_w bp364152' (by decide) (by decide)) (by omega) (by omega) (by assumption) (by omega)) dr_cX17_share_191 ⟨wr_10_201, wr_1_18, wr_10_65, by decide, rfl, (Nat.le_of_ble_eq_true rfl), (Nat.le_of_ble_eq_true rfl)⟩ wr_10_63 wr_10_64 hm364149 he364150 rfl (show 0 + 0 ≤ 0 by first | omega | decide) (show 0 + 0 ≤ 0 by first | omega | decide) (Nat.le_of_ble_eq_true rfl) (fun r364187 w364188 dc364184 ds364185 hp364186 => ?_) (fun _ _ _ _ _ z => z.elim)
                    obtain ⟨rfl, rfl, hdc, hds, ht364189⟩ := hp364186
                    change G _ _ _ _ _ _ _ (.ref q364179 :: _) _ _ _
                    refine G_widen (cs' := 0) (sl' := 0) (by omega) (by omega) ?_
                    have hm364190 : q364179 ∈ P343979 := RS_m hT364131 ht364182 (by decide)
                    obtain ⟨p364192, p364193, p364194, p364195, p364196, p364197, p364198, he364191, bp364192, bp364193, bp364196, bp364197, bp364198, r364199, r364200, r364201, r364202, r364203⟩ := show rk_1 γ q364179 (F364130 q364179) from RS_o hT364131 ht364182
                    have bp364194 := gB_any p364194
                    have bp364195 := gB_any p364195
                    refine Gp_cast hm364190 he364191 rfl dr_cX17_share_194 wr_10_202 (gr_cast 1 rfl) ?_
                    refine G_astore (L' := [(6, .ref q364179), (5, .int g364129), (4, .ref q363984), (3, .int g363908), (2, .int g363552), (0, .ref q343981), (1, .ref q343982)]) dr_cX17_share_197 (Nat.le_of_ble_eq_true rfl) rfl ?_
                    refine G_aload 0 dr_cX17_share_199 rfl ?_
                    refine Gp_get 0 hm364190 he364191 dr_cX17_share_201 (gk_X15 D I) (Nat.le_of_ble_eq_true rfl) wr_9_177 rfl ?_
                    refine G_bipush 21 dr_cX17_share_204 (by decide +kernel) ?_
                    refine G_icmp_eq 219 dr_cX17_share_206 (by decide +kernel) (fun hc364204 => ?_) (fun hc364204 => ?_)
                    · have r364205 : p364192.toInt = 21 := gj_eq hc364204 (show Int32.toInt 21 = 21 by decide)
                      have bp364192' : gB p364192 21 21 := ⟨by omega, by omega⟩
                      refine G_aload 0 dr_cX17_share_219 rfl ?_
                      refine G_aload_n 5 dr_cX17_share_221 rfl ?_
                      refine Gp_get 19 hm364144 he364143 dr_cX17_share_222 (gk_X17 D I) (Nat.le_of_ble_eq_true rfl) wr_7_93 rfl ?_
                      refine G_aload 0 dr_cX17_share_225 rfl ?_
                      refine Gp_get 4 hm364190 he364191 dr_cX17_share_227 (gk_X15 D I) (Nat.le_of_ble_eq_true rfl) wr_9_193 rfl ?_
                      refine Gp_iald 0 hm364145 he364146 dr_cX17_share_230 rfl (gB_in bp364196 (by decide) (by decide)) (G_nam fun z364206 hz364206 => ?_)
                      have bz364206 : gB z364206 (-1) 1999 := by rw [hz364206]; exact bf364147 _
                      have r364207 : γ 7 (γ 1 q364179) = γ 7 (γ 1 q343982) := by rw [show γ 1 q364179 = γ 1 q363993 from ht364183, show γ 1 q363993 = γ 1 q363984 from ht363998, show γ 1 q363984 = γ 1 q363926 from ht363990, show γ 1 q363926 = γ 1 q343982 from ht363931]
                      have r364208 : 0 ≤ z364206.toInt ∧ z364206.toInt ≤ (p364196.toInt.toNat : Int) := by rw [hz364206]; exact cq364148 p364196.toInt.toNat (by omega)
                      have bz364206' : gB z364206 0 1999 := ⟨by omega, by omega⟩
                      refine Gp_put 4 hm364190 he364191 dr_cX17_share_231 (gk_X15 D I) (Nat.le_of_ble_eq_true rfl) wr_9_193 rfl rfl rfl (Nat.le_of_ble_eq_true rfl) (fun F364209 e364210 n364211 => ?_)
                      have he364212 : F364209 q343982 = .inr (18, [.ref q363926, .ref q363927, .int p363928, .int p363929]) := (n364211 q343982 (rn_oo he364138 he364191 (by decide))).trans he364138
                      have he364213 : F364209 q363926 = .inr (4, [.int p363965, .ref q363967, .int p363966]) := (n364211 q363926 (rn_oo he364139 he364191 (by decide))).trans he364139
                      have he364214 : F364209 q363967 = .inl (I (.object "java/lang/Object"), n363981, .inr (.inr (.inr (.inr f363982)))) := (n364211 q363967 (rn_ao he364140 he364191)).trans he364140
                      have he364215 : F364209 q363984 = .inr (17, [.ref q363993, .ref q363994, .int p363995, .int p363996]) := (n364211 q363984 (rn_oo he364141 he364191 (by decide))).trans he364141
                      have he364216 : F364209 q343981 = .inr (22, [.ref (γ 9 0), .ref (γ 9 1), .ref (γ 9 2), .ref (γ 9 3), .ref (γ 9 4), .ref (γ 9 5), .ref (γ 9 6), .ref (γ 9 7), .ref (γ 9 8), .int p343990, .int p343991, .int p343992, .int p343993, .int p343994, .int p343995, .ref (γ 9 15), .ref (γ 9 16), .ref (γ 9 17), .ref (γ 9 18), .ref (γ 9 19), .ref (γ 9 20), .ref (γ 9 21), .ref (γ 9 22), .int p343996, .int p343997, .int p343998, .int p343999, .int p344000, .ref q343988, .ref (γ 9 29), .int p344001, .ref (γ 9 31), .int p344002, .int p344003, .int p344004, .ref q343989]) := (n364211 q343981 (rn_oo he364143 he364191 (by decide))).trans he364143
                      have he364217 : F364209 (γ 9 19) = .inl (I .int, 2000, .inl f364147) := (n364211 (γ 9 19) (rn_ao he364146 he364191)).trans he364146
                      have he364218 : F364209 q363993 = .inr (4, [.int p364151, .ref q364153, .int p364152]) := (n364211 q363993 (rn_oo he364150 he364191 (by decide))).trans he364150
                      have he364219 : F364209 q364153 = .inl (I (.object "java/lang/Object"), n364176, .inr (.inr (.inr (.inr f364177)))) := (n364211 q364153 (rn_ao r364170 he364191)).trans r364170
                      have he364220 : F364209 q364179 = .inr (20, [.int p364192, .int p364193, .int p364194, .int p364195, .int z364206, .int p364197, .int p364198]) := e364210
                      have mk364221 : mKp (F343980 q343981) (F364209 q343981) := mKp_tr x364135 (mKp_eq (n364211 q343981 (rn_ty htq343981 ht364182 (by decide))))
                      have hs364222 : rStr γ [1] F343980 F364209 := rStr_pu2 hs364132 n364211 ht364182 (by decide)
                      have kp364223 : F364209 q343981 = F343980 q343981 := (n364211 q343981 (rn_ty htq343981 ht364182 (by decide))).trans x364134
                      obtain ⟨z364224, hz364224⟩ : ∃ z : Int32, z = g364129 + Int32.ofInt 1 := ⟨_, rfl⟩
                      have ez364224 : z364224.toInt = g364129.toInt + 1 := gI_inc hz364224 (by decide) bg364129' (by decide) (by decide)
                      have bz364224 : gB z364224 1 1000000 := ⟨by omega, by omega⟩
                      refine G_iinc (L' := [(5, .int z364224), (6, .ref q364179), (4, .ref q363984), (3, .int g363908), (2, .int g363552), (0, .ref q343981), (1, .ref q343982)]) z364224 1 dr_cX17_share_234 rfl hz364224.symm (Nat.le_of_ble_eq_true rfl) rfl ?_
                      refine G_goto 171 dr_cX17_share_237 (by decide +kernel) ?_
                      have hT364225 : RS D I P343979 F364209 γ el := RS_set hT364131 n364211 ht364182 (by decide) ⟨p364192, p364193, p364194, p364195, z364206, p364197, p364198, he364220, (gB_w bp364192' (by decide) (by decide)), bp364193, bz364206', bp364197, bp364198, (by omega), (by omega), (by omega), (by omega), (by omega)⟩
                      refine G_lv (L' := [(5, .int z364224), (4, .ref q363984), (3, .int g363908), (2, .int g363552), (0, .ref q343981), (1, .ref q343982)]) [0, 2, 3, 4, 5, 6] rfl ?_
                      exact ih171_364135 F364209 z364224 (gB_w bz364224 (by decide) (by decide)) hT364225 hs364222 (by rw [cB_of he364217]; exact cq364148) kp364223 mk364221 (mz_up ez364224 (Int.le_trans bg364129'.2 (by decide)) hm171_364135)
                    · have r364226 : p364192.toInt ≠ 21 := gj_neq hc364204 (show Int32.toInt 21 = 21 by decide)
                      refine G_aload 0 dr_cX17_share_209 rfl ?_
                      refine Gp_get 0 hm364190 he364191 dr_cX17_share_211 (gk_X15 D I) (Nat.le_of_ble_eq_true rfl) wr_9_177 rfl ?_
                      refine G_bipush 23 dr_cX17_share_214 (by decide +kernel) ?_
                      refine G_icmp_ne 234 dr_cX17_share_216 (by decide +kernel) (fun hc364227 => ?_) (fun hc364227 => ?_)
                      · have r364228 : p364192.toInt ≠ 23 := gj_neq hc364227 (show Int32.toInt 23 = 23 by decide)
                        obtain ⟨z364229, hz364229⟩ : ∃ z : Int32, z = g364129 + Int32.ofInt 1 := ⟨_, rfl⟩
                        have ez364229 : z364229.toInt = g364129.toInt + 1 := gI_inc hz364229 (by decide) bg364129' (by decide) (by decide)
                        have bz364229 : gB z364229 1 1000000 := ⟨by omega, by omega⟩
                        refine G_iinc (L' := [(5, .int z364229), (6, .ref q364179), (4, .ref q363984), (3, .int g363908), (2, .int g363552), (0, .ref q343981), (1, .ref q343982)]) z364229 1 dr_cX17_share_234 rfl hz364229.symm (Nat.le_of_ble_eq_true rfl) rfl ?_
                        refine G_goto 171 dr_cX17_share_237 (by decide +kernel) ?_
                        refine G_lv (L' := [(5, .int z364229), (4, .ref q363984), (3, .int g363908), (2, .int g363552), (0, .ref q343981), (1, .ref q343982)]) [0, 2, 3, 4, 5, 6] rfl ?_
                        exact ih171_364135 F364130 z364229 (gB_w bz364229 (by decide) (by decide)) hT364131 hs364132 (by rw [cB_of he364146]; exact cq364148) x364134 x364135 (mz_up ez364229 (Int.le_trans bg364129'.2 (by decide)) hm171_364135)
                      · have r364230 : p364192.toInt = 23 := gj_eq hc364227 (show Int32.toInt 23 = 23 by decide)
                        have bp364192' : gB p364192 23 23 := ⟨by omega, by omega⟩
                        refine G_aload 0 dr_cX17_share_219 rfl ?_
                        refine G_aload_n 5 dr_cX17_share_221 rfl ?_
                        refine Gp_get 19 hm364144 he364143 dr_cX17_share_222 (gk_X17 D I) (Nat.le_of_ble_eq_true rfl) wr_7_93 rfl ?_
                        refine G_aload 0 dr_cX17_share_225 rfl ?_
                        refine Gp_get 4 hm364190 he364191 dr_cX17_share_227 (gk_X15 D I) (Nat.le_of_ble_eq_true rfl) wr_9_193 rfl ?_
                        refine Gp_iald 0 hm364145 he364146 dr_cX17_share_230 rfl (gB_in bp364196 (by decide) (by decide)) (G_nam fun z364231 hz364231 => ?_)
                        have bz364231 : gB z364231 (-1) 1999 := by rw [hz364231]; exact bf364147 _
                        have r364232 : γ 7 (γ 1 q364179) = γ 7 (γ 1 q343982) := by rw [show γ 1 q364179 = γ 1 q363993 from ht364183, show γ 1 q363993 = γ 1 q363984 from ht363998, show γ 1 q363984 = γ 1 q363926 from ht363990, show γ 1 q363926 = γ 1 q343982 from ht363931]
                        have r364233 : 0 ≤ z364231.toInt ∧ z364231.toInt ≤ (p364196.toInt.toNat : Int) := by rw [hz364231]; exact cq364148 p364196.toInt.toNat (by omega)
                        have bz364231' : gB z364231 0 1999 := ⟨by omega, by omega⟩
                        refine Gp_put 4 hm364190 he364191 dr_cX17_share_231 (gk_X15 D I) (Nat.le_of_ble_eq_true rfl) wr_9_193 rfl rfl rfl (Nat.le_of_ble_eq_true rfl) (fun F364234 e364235 n364236 => ?_)
                        have he364237 : F364234 q343982 = .inr (18, [.ref q363926, .ref q363927, .int p363928, .int p363929]) := (n364236 q343982 (rn_oo he364138 he364191 (by decide))).trans he364138
                        have he364238 : F364234 q363926 = .inr (4, [.int p363965, .ref q363967, .int p363966]) := (n364236 q363926 (rn_oo he364139 he364191 (by decide))).trans he364139
                        have he364239 : F364234 q363967 = .inl (I (.object "java/lang/Object"), n363981, .inr (.inr (.inr (.inr f363982)))) := (n364236 q363967 (rn_ao he364140 he364191)).trans he364140
                        have he364240 : F364234 q363984 = .inr (17, [.ref q363993, .ref q363994, .int p363995, .int p363996]) := (n364236 q363984 (rn_oo he364141 he364191 (by decide))).trans he364141
                        have he364241 : F364234 q343981 = .inr (22, [.ref (γ 9 0), .ref (γ 9 1), .ref (γ 9 2), .ref (γ 9 3), .ref (γ 9 4), .ref (γ 9 5), .ref (γ 9 6), .ref (γ 9 7), .ref (γ 9 8), .int p343990, .int p343991, .int p343992, .int p343993, .int p343994, .int p343995, .ref (γ 9 15), .ref (γ 9 16), .ref (γ 9 17), .ref (γ 9 18), .ref (γ 9 19), .ref (γ 9 20), .ref (γ 9 21), .ref (γ 9 22), .int p343996, .int p343997, .int p343998, .int p343999, .int p344000, .ref q343988, .ref (γ 9 29), .int p344001, .ref (γ 9 31), .int p344002, .int p344003, .int p344004, .ref q343989]) := (n364236 q343981 (rn_oo he364143 he364191 (by decide))).trans he364143
                        have he364242 : F364234 (γ 9 19) = .inl (I .int, 2000, .inl f364147) := (n364236 (γ 9 19) (rn_ao he364146 he364191)).trans he364146
                        have he364243 : F364234 q363993 = .inr (4, [.int p364151, .ref q364153, .int p364152]) := (n364236 q363993 (rn_oo he364150 he364191 (by decide))).trans he364150
                        have he364244 : F364234 q364153 = .inl (I (.object "java/lang/Object"), n364176, .inr (.inr (.inr (.inr f364177)))) := (n364236 q364153 (rn_ao r364170 he364191)).trans r364170
                        have he364245 : F364234 q364179 = .inr (20, [.int p364192, .int p364193, .int p364194, .int p364195, .int z364231, .int p364197, .int p364198]) := e364235
                        have mk364246 : mKp (F343980 q343981) (F364234 q343981) := mKp_tr x364135 (mKp_eq (n364236 q343981 (rn_ty htq343981 ht364182 (by decide))))
                        have hs364247 : rStr γ [1] F343980 F364234 := rStr_pu2 hs364132 n364236 ht364182 (by decide)
                        have kp364248 : F364234 q343981 = F343980 q343981 := (n364236 q343981 (rn_ty htq343981 ht364182 (by decide))).trans x364134
                        obtain ⟨z364249, hz364249⟩ : ∃ z : Int32, z = g364129 + Int32.ofInt 1 := ⟨_, rfl⟩
                        have ez364249 : z364249.toInt = g364129.toInt + 1 := gI_inc hz364249 (by decide) bg364129' (by decide) (by decide)
                        have bz364249 : gB z364249 1 1000000 := ⟨by omega, by omega⟩
                        refine G_iinc (L' := [(5, .int z364249), (6, .ref q364179), (4, .ref q363984), (3, .int g363908), (2, .int g363552), (0, .ref q343981), (1, .ref q343982)]) z364249 1 dr_cX17_share_234 rfl hz364249.symm (Nat.le_of_ble_eq_true rfl) rfl ?_
                        refine G_goto 171 dr_cX17_share_237 (by decide +kernel) ?_
                        have hT364250 : RS D I P343979 F364234 γ el := RS_set hT364131 n364236 ht364182 (by decide) ⟨p364192, p364193, p364194, p364195, z364231, p364197, p364198, he364245, (gB_w bp364192' (by decide) (by decide)), bp364193, bz364231', bp364197, bp364198, (by omega), (by omega), (by omega), (by omega), (by omega)⟩
                        refine G_lv (L' := [(5, .int z364249), (4, .ref q363984), (3, .int g363908), (2, .int g363552), (0, .ref q343981), (1, .ref q343982)]) [0, 2, 3, 4, 5, 6] rfl ?_
                        exact ih171_364135 F364234 z364249 (gB_w bz364249 (by decide) (by decide)) hT364250 hs364247 (by rw [cB_of he364242]; exact cq364148) kp364248 mk364246 (mz_up ez364249 (Int.le_trans bg364129'.2 (by decide)) hm171_364135)
              exact hlp171_364135 (((1000001 : Int) - 0).toNat + 1) F363909 0 (gB_w (gBl (show Int32.toInt 0 = 0 by decide)) (by decide) (by decide)) hT363910 hs363911 (by rw [cB_of he363921]; exact cq363923) x363913 x363914 (Nat.lt_succ_self _)
        exact hlp153_363914 (((1000001 : Int) - 0).toNat + 1) F363553 0 (gB_w (gBl (show Int32.toInt 0 = 0 by decide)) (by decide) (by decide)) hT363554 hs363555 (by rw [cB_of he363566]; exact fun q hq => cq363568 q (by omega)) x363558 x363559 (Nat.lt_succ_self _)
      · have r364251 : g363551.toInt < p343992.toInt := gC_nle hc363569
        have bg363551' : gB g363551 0 99 := ⟨by omega, by omega⟩
        have bp343992' : gB p343992 1 100 := ⟨by omega, by omega⟩
        refine G_iconst 0 dr_cX17_share_18 (by decide +kernel) ?_
        refine G_istore (L' := [(4, .int 0), (3, .int g363551), (2, .int g363552), (0, .ref q343981), (1, .ref q343982)]) dr_cX17_share_19 (Nat.le_of_ble_eq_true rfl) rfl ?_
        refine G_iconst 0 dr_cX17_share_21 (by decide +kernel) ?_
        refine G_istore (L' := [(5, .int 0), (4, .int 0), (3, .int g363551), (2, .int g363552), (0, .ref q343981), (1, .ref q343982)]) dr_cX17_share_22 (Nat.le_of_ble_eq_true rfl) rfl ?_
        have hlp24_364663 : ∀ (n24_364663 : Nat) (F364658 : Nat → va_E) (g364657 : Int32), gB g364657 0 1999 → RS D I P343979 F364658 γ el → rStr γ [1] F343980 F364658 → (∀ q : Nat, (q : Int) < g363551.toInt → 0 ≤ (cB (F364658 (γ 9 19)) q).toInt ∧ (cB (F364658 (γ 9 19)) q).toInt ≤ q) → (F364658 q343981 = F343980 q343981) → mKp (F343980 q343981) (F364658 q343981) → ((2000 : Int) - g364657.toInt).toNat < n24_364663 → G (gV D I) l (gRm 6 141 0 0) (gMA (gV D I) (pt_343985_SpillForgeModel_share D I γ el P343979 F343980 q343981 q343982) gNA 0 0) ky_343985_SpillForgeModel_share 24 [(5, .int g364657), (4, .int 0), (3, .int g363551), (2, .int g363552), (0, .ref q343981), (1, .ref q343982)] [] (va_pl P343979 F364658) 0 0 := by
          intro n24_364663
          induction n24_364663 with
          | zero => intro F364658 g364657 bg364657 hT364659 hs364660 x364661 x364662 x364663 hm24_364663; exact absurd hm24_364663 (Nat.not_lt_zero _)
          | succ n24_364663 ih24_364663 =>
            intro F364658 g364657 bg364657 hT364659 hs364660 x364661 x364662 x364663 hm24_364663
            have hs364665 : rStr γ [1] F363553 F364658 := fun b h0 hb hw => (hs364660 b h0 hb hw).trans (hs363555 b h0 hb hw).symm
            have hs364666 : rStr γ [1] F343980 F364658 := rStr_tr hs363555 hs364665
            have he364667 : F364658 q343981 = .inr (22, [.ref (γ 9 0), .ref (γ 9 1), .ref (γ 9 2), .ref (γ 9 3), .ref (γ 9 4), .ref (γ 9 5), .ref (γ 9 6), .ref (γ 9 7), .ref (γ 9 8), .int p343990, .int p343991, .int p343992, .int p343993, .int p343994, .int p343995, .ref (γ 9 15), .ref (γ 9 16), .ref (γ 9 17), .ref (γ 9 18), .ref (γ 9 19), .ref (γ 9 20), .ref (γ 9 21), .ref (γ 9 22), .int p343996, .int p343997, .int p343998, .int p343999, .int p344000, .ref q343988, .ref (γ 9 29), .int p344001, .ref (γ 9 31), .int p344002, .int p344003, .int p344004, .ref q343989]) := x364662.trans he343987
            have hm364668 : q343981 ∈ P343979 := RS_m hT364659 htq343981 (by decide)
            have hm364669 : (γ 9 19) ∈ P343979 := RS_m hT364659 ht344020 (by decide)
            obtain ⟨f364671, he364670, bf364671⟩ := show rk_21 I (F364658 (γ 9 19)) from RS_o hT364659 ht344020
            have cq364672 := x364661
            rw [cB_of he364670] at cq364672
            refine G_iload 0 dr_cX17_share_24 rfl ?_
            refine G_iload_n 2 dr_cX17_share_26 rfl ?_
            refine G_icmp_ge 44 dr_cX17_share_27 (by decide +kernel) (fun hc364673 => ?_) (fun hc364673 => ?_)
            · have r364674 : g363551.toInt ≤ g364657.toInt := gC_le hc364673
              refine G_iconst 0 dr_cX17_share_44 (by decide +kernel) ?_
              refine G_istore (L' := [(5, .int 0), (4, .int 0), (3, .int g363551), (2, .int g363552), (0, .ref q343981), (1, .ref q343982)]) dr_cX17_share_45 (Nat.le_of_ble_eq_true rfl) rfl ?_
              have hlp47_364867 : ∀ (n47_364867 : Nat) (F364862 : Nat → va_E) (g364861 : Int32), gB g364861 0 99 → RS D I P343979 F364862 γ el → rStr γ [1] F343980 F364862 → (∀ q : Nat, (q : Int) < g363551.toInt → 0 ≤ (cB (F364862 (γ 9 19)) q).toInt ∧ (cB (F364862 (γ 9 19)) q).toInt ≤ q) → (F364862 q343981 = F343980 q343981) → mKp (F343980 q343981) (F364862 q343981) → ((100 : Int) - g364861.toInt).toNat < n47_364867 → G (gV D I) l (gRm 6 141 0 0) (gMA (gV D I) (pt_343985_SpillForgeModel_share D I γ el P343979 F343980 q343981 q343982) gNA 0 0) ky_343985_SpillForgeModel_share 47 [(5, .int g364861), (4, .int 0), (3, .int g363551), (2, .int g363552), (0, .ref q343981), (1, .ref q343982)] [] (va_pl P343979 F364862) 0 0 := by
                intro n47_364867
                induction n47_364867 with
                | zero => intro F364862 g364861 bg364861 hT364863 hs364864 x364865 x364866 x364867 hm47_364867; exact absurd hm47_364867 (Nat.not_lt_zero _)
                | succ n47_364867 ih47_364867 =>
                  intro F364862 g364861 bg364861 hT364863 hs364864 x364865 x364866 x364867 hm47_364867
                  have hs364869 : rStr γ [1] F364658 F364862 := fun b h0 hb hw => (hs364864 b h0 hb hw).trans (hs364660 b h0 hb hw).symm
                  have hs364870 : rStr γ [1] F343980 F364862 := rStr_tr hs364660 hs364869
                  have he364871 : F364862 q343981 = .inr (22, [.ref (γ 9 0), .ref (γ 9 1), .ref (γ 9 2), .ref (γ 9 3), .ref (γ 9 4), .ref (γ 9 5), .ref (γ 9 6), .ref (γ 9 7), .ref (γ 9 8), .int p343990, .int p343991, .int p343992, .int p343993, .int p343994, .int p343995, .ref (γ 9 15), .ref (γ 9 16), .ref (γ 9 17), .ref (γ 9 18), .ref (γ 9 19), .ref (γ 9 20), .ref (γ 9 21), .ref (γ 9 22), .int p343996, .int p343997, .int p343998, .int p343999, .int p344000, .ref q343988, .ref (γ 9 29), .int p344001, .ref (γ 9 31), .int p344002, .int p344003, .int p344004, .ref q343989]) := x364866.trans he343987
                  have hm364872 : q343981 ∈ P343979 := RS_m hT364863 htq343981 (by decide)
                  have hm364873 : (γ 9 19) ∈ P343979 := RS_m hT364863 ht344020 (by decide)
                  obtain ⟨f364875, he364874, bf364875⟩ := show rk_21 I (F364862 (γ 9 19)) from RS_o hT364863 ht344020
                  have cq364876 := x364865
                  rw [cB_of he364874] at cq364876
                  refine G_iload 0 dr_cX17_share_47 rfl ?_
                  refine G_iload_n 2 dr_cX17_share_49 rfl ?_
                  refine G_icmp_ge 96 dr_cX17_share_50 (by decide +kernel) (fun hc364877 => ?_) (fun hc364877 => ?_)
                  · have r364878 : g363551.toInt ≤ g364861.toInt := gC_le hc364877
                    have hlp96_364936 : ∀ (n96_364936 : Nat) (g364934 : Int32), gB g364934 0 99 → (∀ q : Nat, (q : Int) < g363551.toInt → 0 ≤ (cB (F364862 (γ 9 19)) q).toInt ∧ (cB (F364862 (γ 9 19)) q).toInt ≤ q) → (g364934.toInt ≤ g363551.toInt) → ((100 : Int) - g364934.toInt).toNat < n96_364936 → G (gV D I) l (gRm 6 141 0 0) (gMA (gV D I) (pt_343985_SpillForgeModel_share D I γ el P343979 F343980 q343981 q343982) gNA 0 0) ky_343985_SpillForgeModel_share 96 [(5, .int g364861), (4, .int g364934), (3, .int g363551), (2, .int g363552), (0, .ref q343981), (1, .ref q343982)] [] (va_pl P343979 F364862) 0 0 := by
                      intro n96_364936
                      induction n96_364936 with
                      | zero => intro g364934 bg364934 x364935 x364936 hm96_364936; exact absurd hm96_364936 (Nat.not_lt_zero _)
                      | succ n96_364936 ih96_364936 =>
                        intro g364934 bg364934 x364935 x364936 hm96_364936
                        have cq364938 := x364935
                        rw [cB_of he364874] at cq364938
                        refine G_iload 1 dr_cX17_share_96 rfl ?_
                        refine G_iload_n 2 dr_cX17_share_98 rfl ?_
                        refine G_icmp_ge 119 dr_cX17_share_99 (by decide +kernel) (fun hc364939 => ?_) (fun hc364939 => ?_)
                        · have r364940 : g363551.toInt ≤ g364934.toInt := gC_le hc364939
                          refine G_aload_n 4 dr_cX17_share_119 rfl ?_
                          refine Gp_get 19 hm364872 he364871 dr_cX17_share_120 (gk_X17 D I) (Nat.le_of_ble_eq_true rfl) wr_7_93 rfl ?_
                          refine G_iload_n 2 dr_cX17_share_123 rfl ?_
                          refine G_iload 1 dr_cX17_share_124 rfl ?_
                          refine Gp_iast 0 hm364873 he364874 dr_cX17_share_126 rfl (gB_in bg363551' (by decide) (by decide)) (fun F364941 e364942 n364943 => ?_)
                          obtain ⟨f364944, hf364944⟩ : ∃ z, z = upd f364875 g363551.toNatClampNeg g364934 := ⟨_, rfl⟩
                          rw [← hf364944] at e364942
                          have he364945 : F364941 q343981 = .inr (22, [.ref (γ 9 0), .ref (γ 9 1), .ref (γ 9 2), .ref (γ 9 3), .ref (γ 9 4), .ref (γ 9 5), .ref (γ 9 6), .ref (γ 9 7), .ref (γ 9 8), .int p343990, .int p343991, .int p343992, .int p343993, .int p343994, .int p343995, .ref (γ 9 15), .ref (γ 9 16), .ref (γ 9 17), .ref (γ 9 18), .ref (γ 9 19), .ref (γ 9 20), .ref (γ 9 21), .ref (γ 9 22), .int p343996, .int p343997, .int p343998, .int p343999, .int p344000, .ref q343988, .ref (γ 9 29), .int p344001, .ref (γ 9 31), .int p344002, .int p344003, .int p344004, .ref q343989]) := (n364943 q343981 (rn_oa he364871 he364874)).trans he364871
                          have he364946 : F364941 (γ 9 19) = .inl (I .int, 2000, .inl f364944) := e364942
                          have mk364947 : mKp (F343980 q343981) (F364941 q343981) := mKp_tr x364867 (mKp_eq (n364943 q343981 (rn_ty htq343981 ht344020 (by decide))))
                          have hs364948 : rStr γ [1] F343980 F364941 := rStr_put hs364864 n364943 ht344020 (by decide)
                          have kp364949 : F364941 q343981 = F343980 q343981 := (n364943 q343981 (rn_ty htq343981 ht344020 (by decide))).trans x364866
                          have bf364944 : gF f364944 (-1) 1999 := gF_upd hf364944 bf364875 (gB_w bg364934 (by decide) (by decide))
                          refine G_aload_n 4 dr_cX17_share_127 rfl ?_
                          refine Gp_get 3 hm364872 he364945 dr_cX17_share_128 (gk_X17 D I) (Nat.le_of_ble_eq_true rfl) wr_7_77 rfl ?_
                          refine G_iload_n 2 dr_cX17_share_131 rfl ?_
                          have hT364950 : RS D I P343979 F364941 γ el := RS_set hT364863 n364943 ht344020 (by decide) ⟨f364944, he364946, bf364944⟩
                          have hm364951 : (γ 9 3) ∈ P343979 := RS_m hT364950 ht344010 (by decide)
                          obtain ⟨f364953, he364952, bf364953⟩ := show rk_14 I (F364941 (γ 9 3)) from RS_o hT364950 ht344010
                          refine Gp_zald 3 hm364951 he364952 dr_cX17_share_132 rfl (gB_in bg363551' (by decide) (by decide)) (G_nam fun z364954 hz364954 => ?_)
                          have bz364954 : gB z364954 0 1 := by rw [hz364954]; exact bf364953 _
                          refine G_if_eq 145 dr_cX17_share_133 (by decide +kernel) (fun hc364955 => ?_) (fun hc364955 => ?_)
                          · have r364956 : z364954.toInt = 0 := gj_eq hc364955 (show Int32.toInt 0 = 0 by decide)
                            have bz364954' : gB z364954 0 0 := gB_t0 r364956
                            obtain ⟨z364957, hz364957⟩ : ∃ z : Int32, z = g363551 + Int32.ofInt 1 := ⟨_, rfl⟩
                            have ez364957 : z364957.toInt = g363551.toInt + 1 := gI_inc hz364957 (by decide) bg363551' (by decide) (by decide)
                            have bz364957 : gB z364957 1 100 := ⟨by omega, by omega⟩
                            refine G_iinc (L' := [(3, .int z364957), (5, .int g364861), (4, .int g364934), (2, .int g363552), (0, .ref q343981), (1, .ref q343982)]) z364957 2 dr_cX17_share_145 rfl hz364957.symm (Nat.le_of_ble_eq_true rfl) rfl ?_
                            refine G_goto 10 dr_cX17_share_148 (by decide +kernel) ?_
                            refine G_lv (L' := [(3, .int z364957), (2, .int g363552), (0, .ref q343981), (1, .ref q343982)]) [0, 3, 4, 5] rfl ?_
                            exact ih10_363559 F364941 z364957 g363552 (gB_w bz364957 (by decide) (by decide)) bg363552 hT364950 hs364948 (by rw [ez364957]; rw [cB_of he364946]; exact sl_u hf364944 (by omega) (by omega) (by omega) cq364938) (by omega) kp364949 mk364947 (mz_up ez364957 (Int.le_trans bg363551'.2 (by decide)) hm10_363559)
                          · have r364958 : z364954.toInt ≠ 0 := gj_neq hc364955 (show Int32.toInt 0 = 0 by decide)
                            have bz364954' : gB z364954 1 1 := gB_t1 bz364954 r364958
                            refine G_iload_n 3 dr_cX17_share_136 rfl ?_
                            refine G_iload 1 dr_cX17_share_137 rfl ?_
                            refine G_iconst 1 dr_cX17_share_139 (by decide +kernel) ?_
                            refine G_iadd dr_cX17_share_140 (G_nam fun z364959 hz364959 => ?_)
                            have ez364959 : z364959.toInt = g364934.toInt + 1 := by rw [gI_add hz364959 bg364934 (gBl (show Int32.toInt 1 = 1 by decide)) (by decide) (by decide), show Int32.toInt 1 = 1 from by decide]
                            have bz364959 : gB z364959 1 100 := gB_add (gI_add hz364959 bg364934 (gBl (show Int32.toInt 1 = 1 by decide)) (by decide) (by decide)) bg364934 (gBl (show Int32.toInt 1 = 1 by decide)) (by decide) (by decide)
                            refine G_mmax dr_cX17_share_141 wr_11_21 wr_1_140 wr_1_6 wr_1_141 (Nat.le_of_ble_eq_true rfl) (Nat.le_of_ble_eq_true rfl) (show 0 ≤ 0 by first | omega | decide) (show 0 ≤ 0 by first | omega | decide) (G_nam fun z364960 hz364960 => ?_)
                            have ez364960 : g363552.toInt ≤ z364960.toInt ∧ z364959.toInt ≤ z364960.toInt ∧ (z364960.toInt = g363552.toInt ∨ z364960.toInt = z364959.toInt) := by have := gI_max hz364960; omega
                            have bz364960 : gB z364960 1 1999 := ⟨by omega, by omega⟩
                            have bz364960' : gB z364960 1 100 := ⟨by omega, by omega⟩
                            refine G_istore_n (L' := [(2, .int z364960), (5, .int g364861), (4, .int g364934), (3, .int g363551), (0, .ref q343981), (1, .ref q343982)]) dr_cX17_share_144 (Nat.le_of_ble_eq_true rfl) rfl ?_
                            obtain ⟨z364961, hz364961⟩ : ∃ z : Int32, z = g363551 + Int32.ofInt 1 := ⟨_, rfl⟩
                            have ez364961 : z364961.toInt = g363551.toInt + 1 := gI_inc hz364961 (by decide) bg363551' (by decide) (by decide)
                            have bz364961 : gB z364961 1 100 := ⟨by omega, by omega⟩
                            refine G_iinc (L' := [(3, .int z364961), (2, .int z364960), (5, .int g364861), (4, .int g364934), (0, .ref q343981), (1, .ref q343982)]) z364961 3 dr_cX17_share_145 rfl hz364961.symm (Nat.le_of_ble_eq_true rfl) rfl ?_
                            refine G_goto 10 dr_cX17_share_148 (by decide +kernel) ?_
                            refine G_lv (L' := [(3, .int z364961), (2, .int z364960), (0, .ref q343981), (1, .ref q343982)]) [0, 1, 4, 5] rfl ?_
                            exact ih10_363559 F364941 z364961 z364960 (gB_w bz364961 (by decide) (by decide)) (gB_w bz364960' (by decide) (by decide)) hT364950 hs364948 (by rw [ez364961]; rw [cB_of he364946]; exact sl_u hf364944 (by omega) (by omega) (by omega) cq364938) (by omega) kp364949 mk364947 (mz_up ez364961 (Int.le_trans bg363551'.2 (by decide)) hm10_363559)
                        · have r364962 : g364934.toInt < g363551.toInt := gC_nle hc364939
                          have bg364934' : gB g364934 0 98 := ⟨by omega, by omega⟩
                          have bg363551'' : gB g363551 1 99 := ⟨by omega, by omega⟩
                          refine G_aload_n 4 dr_cX17_share_102 rfl ?_
                          refine Gp_get 16 hm364872 he364871 dr_cX17_share_103 (gk_X17 D I) (Nat.le_of_ble_eq_true rfl) wr_7_90 rfl ?_
                          refine G_iload 1 dr_cX17_share_106 rfl ?_
                          have hm364963 : (γ 9 16) ∈ P343979 := RS_m hT364863 ht344017 (by decide)
                          obtain ⟨f364965, he364964⟩ := show rk_19 I (F364862 (γ 9 16)) from RS_o hT364863 ht344017
                          refine Gp_iald 0 hm364963 he364964 dr_cX17_share_108 rfl (gB_in bg364934' (by decide) (by decide)) (G_nam fun z364966 hz364966 => ?_)
                          have bz364966 : gB z364966 (-2147483648) 2147483647 := gB_any z364966
                          refine G_iconst 1 dr_cX17_share_109 (by decide +kernel) ?_
                          refine G_icmp_ne 119 dr_cX17_share_110 (by decide +kernel) (fun hc364967 => ?_) (fun hc364967 => ?_)
                          · have r364968 : z364966.toInt ≠ 1 := gj_neq hc364967 (show Int32.toInt 1 = 1 by decide)
                            refine G_aload_n 4 dr_cX17_share_119 rfl ?_
                            refine Gp_get 19 hm364872 he364871 dr_cX17_share_120 (gk_X17 D I) (Nat.le_of_ble_eq_true rfl) wr_7_93 rfl ?_
                            refine G_iload_n 2 dr_cX17_share_123 rfl ?_
                            refine G_iload 1 dr_cX17_share_124 rfl ?_
                            refine Gp_iast 0 hm364873 he364874 dr_cX17_share_126 rfl (gB_in bg363551'' (by decide) (by decide)) (fun F364969 e364970 n364971 => ?_)
                            obtain ⟨f364972, hf364972⟩ : ∃ z, z = upd f364875 g363551.toNatClampNeg g364934 := ⟨_, rfl⟩
                            rw [← hf364972] at e364970
                            have he364973 : F364969 q343981 = .inr (22, [.ref (γ 9 0), .ref (γ 9 1), .ref (γ 9 2), .ref (γ 9 3), .ref (γ 9 4), .ref (γ 9 5), .ref (γ 9 6), .ref (γ 9 7), .ref (γ 9 8), .int p343990, .int p343991, .int p343992, .int p343993, .int p343994, .int p343995, .ref (γ 9 15), .ref (γ 9 16), .ref (γ 9 17), .ref (γ 9 18), .ref (γ 9 19), .ref (γ 9 20), .ref (γ 9 21), .ref (γ 9 22), .int p343996, .int p343997, .int p343998, .int p343999, .int p344000, .ref q343988, .ref (γ 9 29), .int p344001, .ref (γ 9 31), .int p344002, .int p344003, .int p344004, .ref q343989]) := (n364971 q343981 (rn_oa he364871 he364874)).trans he364871
                            have he364974 : F364969 (γ 9 16) = .inl (I .int, 2000, .inl f364965) := (n364971 (γ 9 16) (rn_ty ht344017 ht344020 (by decide))).trans he364964
                            have he364975 : F364969 (γ 9 19) = .inl (I .int, 2000, .inl f364972) := e364970
                            have mk364976 : mKp (F343980 q343981) (F364969 q343981) := mKp_tr x364867 (mKp_eq (n364971 q343981 (rn_ty htq343981 ht344020 (by decide))))
                            have hs364977 : rStr γ [1] F343980 F364969 := rStr_put hs364864 n364971 ht344020 (by decide)
                            have kp364978 : F364969 q343981 = F343980 q343981 := (n364971 q343981 (rn_ty htq343981 ht344020 (by decide))).trans x364866
                            have bf364972 : gF f364972 (-1) 1999 := gF_upd hf364972 bf364875 (gB_w bg364934' (by decide) (by decide))
                            refine G_aload_n 4 dr_cX17_share_127 rfl ?_
                            refine Gp_get 3 hm364872 he364973 dr_cX17_share_128 (gk_X17 D I) (Nat.le_of_ble_eq_true rfl) wr_7_77 rfl ?_
                            refine G_iload_n 2 dr_cX17_share_131 rfl ?_
                            have hT364979 : RS D I P343979 F364969 γ el := RS_set hT364863 n364971 ht344020 (by decide) ⟨f364972, he364975, bf364972⟩
                            have hm364980 : (γ 9 3) ∈ P343979 := RS_m hT364979 ht344010 (by decide)
                            obtain ⟨f364982, he364981, bf364982⟩ := show rk_14 I (F364969 (γ 9 3)) from RS_o hT364979 ht344010
                            refine Gp_zald 3 hm364980 he364981 dr_cX17_share_132 rfl (gB_in bg363551'' (by decide) (by decide)) (G_nam fun z364983 hz364983 => ?_)
                            have bz364983 : gB z364983 0 1 := by rw [hz364983]; exact bf364982 _
                            refine G_if_eq 145 dr_cX17_share_133 (by decide +kernel) (fun hc364984 => ?_) (fun hc364984 => ?_)
                            · have r364985 : z364983.toInt = 0 := gj_eq hc364984 (show Int32.toInt 0 = 0 by decide)
                              have bz364983' : gB z364983 0 0 := gB_t0 r364985
                              obtain ⟨z364986, hz364986⟩ : ∃ z : Int32, z = g363551 + Int32.ofInt 1 := ⟨_, rfl⟩
                              have ez364986 : z364986.toInt = g363551.toInt + 1 := gI_inc hz364986 (by decide) bg363551'' (by decide) (by decide)
                              have bz364986 : gB z364986 2 100 := ⟨by omega, by omega⟩
                              refine G_iinc (L' := [(3, .int z364986), (5, .int g364861), (4, .int g364934), (2, .int g363552), (0, .ref q343981), (1, .ref q343982)]) z364986 2 dr_cX17_share_145 rfl hz364986.symm (Nat.le_of_ble_eq_true rfl) rfl ?_
                              refine G_goto 10 dr_cX17_share_148 (by decide +kernel) ?_
                              refine G_lv (L' := [(3, .int z364986), (2, .int g363552), (0, .ref q343981), (1, .ref q343982)]) [0, 3, 4, 5] rfl ?_
                              exact ih10_363559 F364969 z364986 g363552 (gB_w bz364986 (by decide) (by decide)) bg363552 hT364979 hs364977 (by rw [ez364986]; rw [cB_of he364975]; exact sl_u hf364972 (by omega) (by omega) (by omega) cq364938) (by omega) kp364978 mk364976 (mz_up ez364986 (Int.le_trans bg363551''.2 (by decide)) hm10_363559)
                            · have r364987 : z364983.toInt ≠ 0 := gj_neq hc364984 (show Int32.toInt 0 = 0 by decide)
                              have bz364983' : gB z364983 1 1 := gB_t1 bz364983 r364987
                              refine G_iload_n 3 dr_cX17_share_136 rfl ?_
                              refine G_iload 1 dr_cX17_share_137 rfl ?_
                              refine G_iconst 1 dr_cX17_share_139 (by decide +kernel) ?_
                              refine G_iadd dr_cX17_share_140 (G_nam fun z364988 hz364988 => ?_)
                              have ez364988 : z364988.toInt = g364934.toInt + 1 := by rw [gI_add hz364988 bg364934' (gBl (show Int32.toInt 1 = 1 by decide)) (by decide) (by decide), show Int32.toInt 1 = 1 from by decide]
                              have bz364988 : gB z364988 1 99 := gB_add (gI_add hz364988 bg364934' (gBl (show Int32.toInt 1 = 1 by decide)) (by decide) (by decide)) bg364934' (gBl (show Int32.toInt 1 = 1 by decide)) (by decide) (by decide)
                              refine G_mmax dr_cX17_share_141 wr_11_21 wr_1_140 wr_1_6 wr_1_141 (Nat.le_of_ble_eq_true rfl) (Nat.le_of_ble_eq_true rfl) (show 0 ≤ 0 by first | omega | decide) (show 0 ≤ 0 by first | omega | decide) (G_nam fun z364989 hz364989 => ?_)
                              have ez364989 : g363552.toInt ≤ z364989.toInt ∧ z364988.toInt ≤ z364989.toInt ∧ (z364989.toInt = g363552.toInt ∨ z364989.toInt = z364988.toInt) := by have := gI_max hz364989; omega
                              have bz364989 : gB z364989 1 1999 := ⟨by omega, by omega⟩
                              have bz364989' : gB z364989 1 100 := ⟨by omega, by omega⟩
                              refine G_istore_n (L' := [(2, .int z364989), (5, .int g364861), (4, .int g364934), (3, .int g363551), (0, .ref q343981), (1, .ref q343982)]) dr_cX17_share_144 (Nat.le_of_ble_eq_true rfl) rfl ?_
                              obtain ⟨z364990, hz364990⟩ : ∃ z : Int32, z = g363551 + Int32.ofInt 1 := ⟨_, rfl⟩
                              have ez364990 : z364990.toInt = g363551.toInt + 1 := gI_inc hz364990 (by decide) bg363551'' (by decide) (by decide)
                              have bz364990 : gB z364990 2 100 := ⟨by omega, by omega⟩
                              refine G_iinc (L' := [(3, .int z364990), (2, .int z364989), (5, .int g364861), (4, .int g364934), (0, .ref q343981), (1, .ref q343982)]) z364990 3 dr_cX17_share_145 rfl hz364990.symm (Nat.le_of_ble_eq_true rfl) rfl ?_
                              refine G_goto 10 dr_cX17_share_148 (by decide +kernel) ?_
                              refine G_lv (L' := [(3, .int z364990), (2, .int z364989), (0, .ref q343981), (1, .ref q343982)]) [0, 1, 4, 5] rfl ?_
                              exact ih10_363559 F364969 z364990 z364989 (gB_w bz364990 (by decide) (by decide)) (gB_w bz364989' (by decide) (by decide)) hT364979 hs364977 (by rw [ez364990]; rw [cB_of he364975]; exact sl_u hf364972 (by omega) (by omega) (by omega) cq364938) (by omega) kp364978 mk364976 (mz_up ez364990 (Int.le_trans bg363551''.2 (by decide)) hm10_363559)
                          · have r364991 : z364966.toInt = 1 := gj_eq hc364967 (show Int32.toInt 1 = 1 by decide)
                            have bz364966' : gB z364966 1 1 := ⟨by omega, by omega⟩
                            obtain ⟨z364992, hz364992⟩ : ∃ z : Int32, z = g364934 + Int32.ofInt 1 := ⟨_, rfl⟩
                            have ez364992 : z364992.toInt = g364934.toInt + 1 := gI_inc hz364992 (by decide) bg364934' (by decide) (by decide)
                            have bz364992 : gB z364992 1 99 := ⟨by omega, by omega⟩
                            refine G_iinc (L' := [(4, .int z364992), (5, .int g364861), (3, .int g363551), (2, .int g363552), (0, .ref q343981), (1, .ref q343982)]) z364992 1 dr_cX17_share_113 rfl hz364992.symm (Nat.le_of_ble_eq_true rfl) rfl ?_
                            refine G_goto 96 dr_cX17_share_116 (by decide +kernel) ?_
                            refine G_lv (L' := [(5, .int g364861), (4, .int z364992), (3, .int g363551), (2, .int g363552), (0, .ref q343981), (1, .ref q343982)]) [1, 0, 2, 3, 4, 5] rfl ?_
                            exact ih96_364936 z364992 (gB_w bz364992 (by decide) (by decide)) (by rw [cB_of he364874]; exact cq364938) (by omega) (mz_up ez364992 (Int.le_trans bg364934'.2 (by decide)) hm96_364936)
                    exact hlp96_364936 (((100 : Int) - 0).toNat + 1) 0 (gB_w (gBl (show Int32.toInt 0 = 0 by decide)) (by decide) (by decide)) (by rw [cB_of he364874]; exact cq364876) (by have qa0 : Int32.toInt 0 = 0 := (by decide); omega) (Nat.lt_succ_self _)
                  · have r364993 : g364861.toInt < g363551.toInt := gC_nle hc364877
                    have bg364861' : gB g364861 0 98 := ⟨by omega, by omega⟩
                    have bg363551'' : gB g363551 1 99 := ⟨by omega, by omega⟩
                    refine G_aload_n 4 dr_cX17_share_53 rfl ?_
                    refine Gp_get 3 hm364872 he364871 dr_cX17_share_54 (gk_X17 D I) (Nat.le_of_ble_eq_true rfl) wr_7_77 rfl ?_
                    refine G_iload 0 dr_cX17_share_57 rfl ?_
                    have hm364994 : (γ 9 3) ∈ P343979 := RS_m hT364863 ht344010 (by decide)
                    obtain ⟨f364996, he364995, bf364996⟩ := show rk_14 I (F364862 (γ 9 3)) from RS_o hT364863 ht344010
                    refine Gp_zald 3 hm364994 he364995 dr_cX17_share_59 rfl (gB_in bg364861' (by decide) (by decide)) (G_nam fun z364997 hz364997 => ?_)
                    have bz364997 : gB z364997 0 1 := by rw [hz364997]; exact bf364996 _
                    refine G_if_eq 90 dr_cX17_share_60 (by decide +kernel) (fun hc364998 => ?_) (fun hc364998 => ?_)
                    · have r364999 : z364997.toInt = 0 := gj_eq hc364998 (show Int32.toInt 0 = 0 by decide)
                      have bz364997' : gB z364997 0 0 := gB_t0 r364999
                      obtain ⟨z365000, hz365000⟩ : ∃ z : Int32, z = g364861 + Int32.ofInt 1 := ⟨_, rfl⟩
                      have ez365000 : z365000.toInt = g364861.toInt + 1 := gI_inc hz365000 (by decide) bg364861' (by decide) (by decide)
                      have bz365000 : gB z365000 1 99 := ⟨by omega, by omega⟩
                      refine G_iinc (L' := [(5, .int z365000), (4, .int 0), (3, .int g363551), (2, .int g363552), (0, .ref q343981), (1, .ref q343982)]) z365000 0 dr_cX17_share_90 rfl hz365000.symm (Nat.le_of_ble_eq_true rfl) rfl ?_
                      refine G_goto 47 dr_cX17_share_93 (by decide +kernel) ?_
                      exact ih47_364867 F364862 z365000 (gB_w bz365000 (by decide) (by decide)) hT364863 hs364864 (by rw [cB_of he364874]; exact cq364876) x364866 x364867 (mz_up ez365000 (Int.le_trans bg364861'.2 (by decide)) hm47_364867)
                    · have r365001 : z364997.toInt ≠ 0 := gj_neq hc364998 (show Int32.toInt 0 = 0 by decide)
                      have bz364997' : gB z364997 1 1 := gB_t1 bz364997 r365001
                      refine G_aload_n 4 dr_cX17_share_63 rfl ?_
                      refine Gp_get 1 hm364872 he364871 dr_cX17_share_64 (gk_X17 D I) (Nat.le_of_ble_eq_true rfl) wr_7_75 rfl ?_
                      refine G_iload_n 2 dr_cX17_share_67 rfl ?_
                      have hm365002 : (γ 9 1) ∈ P343979 := RS_m hT364863 ht344008 (by decide)
                      obtain ⟨f365004, he365003, hg365005⟩ := show rk_13 I γ (F364862 (γ 9 1)) from RS_o hT364863 ht344008
                      obtain ⟨q365006, hx365008⟩ : ∃ x, x = γ 11 g363551.toInt.toNat := ⟨_, rfl⟩
                      have ht365007 : rKd γ q365006 36 := by rw [hx365008]; exact (hg365005 _ (show g363551.toInt.toNat < 2000 by omega)).2.1
                      refine Gp_aald 5 hm365002 he365003 dr_cX17_share_68 rfl rfl (gB_in bg363551'' (by decide) (by decide)) ?_
                      rw [show f365004 g363551.toNatClampNeg = some q365006 from (hg365005 _ (show g363551.toInt.toNat < 2000 by omega)).1.trans (by rw [hx365008])]
                      change G _ _ _ _ _ _ _ (.ref q365006 :: _) _ _ _
                      refine G_iload 0 dr_cX17_share_69 rfl ?_
                      have hm365009 : q365006 ∈ P343979 := RS_m hT364863 ht365007 (by decide)
                      obtain ⟨f365011, he365010, wf365011⟩ := show rk_36 I (F364862 q365006) from RS_o hT364863 ht365007
                      refine Gw_callS (As := [.ref q365006, .int g364861]) (gV_ok D I) (cp_1845_SpillForgeModel_has l hl0 D I P343979 F364862 q365006 g364861 f365011 hm365009 he365010 (gB_w bg364861' (by decide) (by decide))) dr_cX17_share_71 ⟨wr_10_203, wr_1_14, wr_10_205, by decide, rfl, (Nat.le_of_ble_eq_true rfl), (Nat.le_of_ble_eq_true rfl)⟩ wr_10_204 (show 0 + 0 ≤ 0 by first | omega | decide) (show 0 + 0 ≤ 0 by first | omega | decide) (Nat.le_of_ble_eq_true rfl) (fun r365015 w365016 dc365012 ds365013 hp365014 => ?_) (fun _ _ _ _ _ z => z.elim)
                      rcases hp365014 with ⟨z365017, z365018, rfl, rfl, hdc, hds, r365019, r365020, r365021, r365022, r365023⟩ | ⟨z365024, z365025, rfl, rfl, hdc, hds, r365026, r365027, r365028, r365029, r365030⟩
                      · change G _ _ _ _ _ _ _ (.int 0 :: _) _ _ _
                        refine G_widen (cs' := 0) (sl' := 0) (by omega) (by omega) ?_
                        refine G_if_eq 90 dr_cX17_share_74 (by decide +kernel) (fun _ => ?_) (fun hc => absurd hc (by decide))
                        obtain ⟨z365032, hz365032⟩ : ∃ z : Int32, z = g364861 + Int32.ofInt 1 := ⟨_, rfl⟩
                        have ez365032 : z365032.toInt = g364861.toInt + 1 := gI_inc hz365032 (by decide) bg364861' (by decide) (by decide)
                        have bz365032 : gB z365032 1 99 := ⟨by omega, by omega⟩
                        refine G_iinc (L' := [(5, .int z365032), (4, .int 0), (3, .int g363551), (2, .int g363552), (0, .ref q343981), (1, .ref q343982)]) z365032 0 dr_cX17_share_90 rfl hz365032.symm (Nat.le_of_ble_eq_true rfl) rfl ?_
                        refine G_goto 47 dr_cX17_share_93 (by decide +kernel) ?_
                        exact ih47_364867 F364862 z365032 (gB_w bz365032 (by decide) (by decide)) hT364863 hs364864 (by rw [cB_of he364874]; exact cq364876) x364866 x364867 (mz_up ez365032 (Int.le_trans bg364861'.2 (by decide)) hm47_364867)
                      · change G _ _ _ _ _ _ _ (.int 1 :: _) _ _ _
                        refine G_widen (cs' := 0) (sl' := 0) (by omega) (by omega) ?_
                        refine G_if_eq 90 dr_cX17_share_74 (by decide +kernel) (fun hc => absurd hc (by decide)) (fun _ => ?_)
                        refine G_aload_n 4 dr_cX17_share_77 rfl ?_
                        refine Gp_get 16 hm364872 he364871 dr_cX17_share_78 (gk_X17 D I) (Nat.le_of_ble_eq_true rfl) wr_7_90 rfl ?_
                        refine G_aload_n 4 dr_cX17_share_81 rfl ?_
                        refine Gp_get 19 hm364872 he364871 dr_cX17_share_82 (gk_X17 D I) (Nat.le_of_ble_eq_true rfl) wr_7_93 rfl ?_
                        refine G_iload 0 dr_cX17_share_85 rfl ?_
                        refine Gp_iald 0 hm364873 he364874 dr_cX17_share_87 rfl (gB_in bg364861' (by decide) (by decide)) (G_nam fun z365033 hz365033 => ?_)
                        have bz365033 : gB z365033 (-1) 1999 := by rw [hz365033]; exact bf364875 _
                        have r365034 : 0 ≤ z365033.toInt := by rw [hz365033]; exact (cq364876 g364861.toInt.toNat (by omega)).1
                        have bz365033' : gB z365033 0 1999 := ⟨by omega, by omega⟩
                        refine G_iconst 1 dr_cX17_share_88 (by decide +kernel) ?_
                        have hm365035 : (γ 9 16) ∈ P343979 := RS_m hT364863 ht344017 (by decide)
                        obtain ⟨f365037, he365036⟩ := show rk_19 I (F364862 (γ 9 16)) from RS_o hT364863 ht344017
                        refine Gp_iast 0 hm365035 he365036 dr_cX17_share_89 rfl (gB_in bz365033' (by decide) (by decide)) (fun F365038 e365039 n365040 => ?_)
                        obtain ⟨f365041, hf365041⟩ : ∃ z, z = upd f365037 z365033.toNatClampNeg 1 := ⟨_, rfl⟩
                        rw [← hf365041] at e365039
                        have he365042 : F365038 q343981 = .inr (22, [.ref (γ 9 0), .ref (γ 9 1), .ref (γ 9 2), .ref (γ 9 3), .ref (γ 9 4), .ref (γ 9 5), .ref (γ 9 6), .ref (γ 9 7), .ref (γ 9 8), .int p343990, .int p343991, .int p343992, .int p343993, .int p343994, .int p343995, .ref (γ 9 15), .ref (γ 9 16), .ref (γ 9 17), .ref (γ 9 18), .ref (γ 9 19), .ref (γ 9 20), .ref (γ 9 21), .ref (γ 9 22), .int p343996, .int p343997, .int p343998, .int p343999, .int p344000, .ref q343988, .ref (γ 9 29), .int p344001, .ref (γ 9 31), .int p344002, .int p344003, .int p344004, .ref q343989]) := (n365040 q343981 (rn_oa he364871 he365036)).trans he364871
                        have he365043 : F365038 (γ 9 19) = .inl (I .int, 2000, .inl f364875) := (n365040 (γ 9 19) (rn_ty ht344020 ht344017 (by decide))).trans he364874
                        have he365044 : F365038 (γ 9 3) = .inl (I .boolean, 2000, .inl f364996) := (n365040 (γ 9 3) (rn_ty ht344010 ht344017 (by decide))).trans he364995
                        have he365045 : F365038 (γ 9 1) = .inl (I (.array .long), 2000, .inr (.inr (.inr (.inr f365004)))) := (n365040 (γ 9 1) (rn_ref_num he365003 he365036)).trans he365003
                        have he365046 : F365038 q365006 = .inl (I .long, 32, .inr (.inl f365011)) := (n365040 q365006 (rn_long_num he365010 he365036)).trans he365010
                        have he365047 : F365038 (γ 9 16) = .inl (I .int, 2000, .inl f365041) := e365039
                        have mk365048 : mKp (F343980 q343981) (F365038 q343981) := mKp_tr x364867 (mKp_eq (n365040 q343981 (rn_ty htq343981 ht344017 (by decide))))
                        have hs365049 : rStr γ [1] F343980 F365038 := rStr_put hs364864 n365040 ht344017 (by decide)
                        have kp365050 : F365038 q343981 = F343980 q343981 := (n365040 q343981 (rn_ty htq343981 ht344017 (by decide))).trans x364866
                        obtain ⟨z365051, hz365051⟩ : ∃ z : Int32, z = g364861 + Int32.ofInt 1 := ⟨_, rfl⟩
                        have ez365051 : z365051.toInt = g364861.toInt + 1 := gI_inc hz365051 (by decide) bg364861' (by decide) (by decide)
                        have bz365051 : gB z365051 1 99 := ⟨by omega, by omega⟩
                        refine G_iinc (L' := [(5, .int z365051), (4, .int 0), (3, .int g363551), (2, .int g363552), (0, .ref q343981), (1, .ref q343982)]) z365051 0 dr_cX17_share_90 rfl hz365051.symm (Nat.le_of_ble_eq_true rfl) rfl ?_
                        refine G_goto 47 dr_cX17_share_93 (by decide +kernel) ?_
                        have hT365052 : RS D I P343979 F365038 γ el := RS_set hT364863 n365040 ht344017 (by decide) ⟨f365041, he365047⟩
                        exact ih47_364867 F365038 z365051 (gB_w bz365051 (by decide) (by decide)) hT365052 hs365049 (by rw [cB_of he365043]; exact cq364876) kp365050 mk365048 (mz_up ez365051 (Int.le_trans bg364861'.2 (by decide)) hm47_364867)
              exact hlp47_364867 (((100 : Int) - 0).toNat + 1) F364658 0 (gB_w (gBl (show Int32.toInt 0 = 0 by decide)) (by decide) (by decide)) hT364659 hs364660 (by rw [cB_of he364670]; exact cq364672) x364662 x364663 (Nat.lt_succ_self _)
            · have r365053 : g364657.toInt < g363551.toInt := gC_nle hc364673
              have bg364657' : gB g364657 0 98 := ⟨by omega, by omega⟩
              have bg363551'' : gB g363551 1 99 := ⟨by omega, by omega⟩
              refine G_aload_n 4 dr_cX17_share_30 rfl ?_
              refine Gp_get 16 hm364668 he364667 dr_cX17_share_31 (gk_X17 D I) (Nat.le_of_ble_eq_true rfl) wr_7_90 rfl ?_
              refine G_iload 0 dr_cX17_share_34 rfl ?_
              refine G_iconst 0 dr_cX17_share_36 (by decide +kernel) ?_
              have hm365054 : (γ 9 16) ∈ P343979 := RS_m hT364659 ht344017 (by decide)
              obtain ⟨f365056, he365055⟩ := show rk_19 I (F364658 (γ 9 16)) from RS_o hT364659 ht344017
              refine Gp_iast 0 hm365054 he365055 dr_cX17_share_37 rfl (gB_in bg364657' (by decide) (by decide)) (fun F365057 e365058 n365059 => ?_)
              obtain ⟨f365060, hf365060⟩ : ∃ z, z = upd f365056 g364657.toNatClampNeg 0 := ⟨_, rfl⟩
              rw [← hf365060] at e365058
              have he365061 : F365057 q343981 = .inr (22, [.ref (γ 9 0), .ref (γ 9 1), .ref (γ 9 2), .ref (γ 9 3), .ref (γ 9 4), .ref (γ 9 5), .ref (γ 9 6), .ref (γ 9 7), .ref (γ 9 8), .int p343990, .int p343991, .int p343992, .int p343993, .int p343994, .int p343995, .ref (γ 9 15), .ref (γ 9 16), .ref (γ 9 17), .ref (γ 9 18), .ref (γ 9 19), .ref (γ 9 20), .ref (γ 9 21), .ref (γ 9 22), .int p343996, .int p343997, .int p343998, .int p343999, .int p344000, .ref q343988, .ref (γ 9 29), .int p344001, .ref (γ 9 31), .int p344002, .int p344003, .int p344004, .ref q343989]) := (n365059 q343981 (rn_oa he364667 he365055)).trans he364667
              have he365062 : F365057 (γ 9 19) = .inl (I .int, 2000, .inl f364671) := (n365059 (γ 9 19) (rn_ty ht344020 ht344017 (by decide))).trans he364670
              have he365063 : F365057 (γ 9 16) = .inl (I .int, 2000, .inl f365060) := e365058
              have mk365064 : mKp (F343980 q343981) (F365057 q343981) := mKp_tr x364663 (mKp_eq (n365059 q343981 (rn_ty htq343981 ht344017 (by decide))))
              have hs365065 : rStr γ [1] F343980 F365057 := rStr_put hs364660 n365059 ht344017 (by decide)
              have kp365066 : F365057 q343981 = F343980 q343981 := (n365059 q343981 (rn_ty htq343981 ht344017 (by decide))).trans x364662
              obtain ⟨z365067, hz365067⟩ : ∃ z : Int32, z = g364657 + Int32.ofInt 1 := ⟨_, rfl⟩
              have ez365067 : z365067.toInt = g364657.toInt + 1 := gI_inc hz365067 (by decide) bg364657' (by decide) (by decide)
              have bz365067 : gB z365067 1 99 := ⟨by omega, by omega⟩
              refine G_iinc (L' := [(5, .int z365067), (4, .int 0), (3, .int g363551), (2, .int g363552), (0, .ref q343981), (1, .ref q343982)]) z365067 0 dr_cX17_share_38 rfl hz365067.symm (Nat.le_of_ble_eq_true rfl) rfl ?_
              refine G_goto 24 dr_cX17_share_41 (by decide +kernel) ?_
              have hT365068 : RS D I P343979 F365057 γ el := RS_set hT364659 n365059 ht344017 (by decide) ⟨f365060, he365063⟩
              exact ih24_364663 F365057 z365067 (gB_w bz365067 (by decide) (by decide)) hT365068 hs365065 (by rw [cB_of he365062]; exact cq364672) kp365066 mk365064 (mz_up ez365067 (Int.le_trans bg364657'.2 (by decide)) hm24_364663)
        exact hlp24_364663 (((2000 : Int) - 0).toNat + 1) F363553 0 (gB_w (gBl (show Int32.toInt 0 = 0 by decide)) (by decide) (by decide)) hT363554 hs363555 (by rw [cB_of he363566]; exact cq363568) x363558 x363559 (Nat.lt_succ_self _)
  exact hlp10_363559 (((101 : Int) - 0).toNat + 1) F344045 0 0 (gB_w (gBl (show Int32.toInt 0 = 0 by decide)) (by decide) (by decide)) (gB_w (gBl (show Int32.toInt 0 = 0 by decide)) (by decide) (by decide)) hT344046 hs344048 (fun q hq => absurd hq (by have qa : Int32.toInt 0 = 0 := (by decide); omega)) (by have qa0 : Int32.toInt 0 = 0 := (by decide); omega) kp344049 mk344050 (Nat.lt_succ_self _)
/- tl_RModel_zeros_10: P, F, gm, el, l3, l2; out: F, P, gm, el -/
def tl_RModel_zeros_10 (D : va_G) (I : FieldType → ClassId) (γ0 el0 : Nat → Nat → Nat) (f : Nat) (P : List Nat) (F : Nat → va_E) (q1 : Nat) (q0 : Nat) (s1 : List Nat) (s2 : Nat → va_E) (s3 : Nat → Nat → Nat) (s4 : Nat → Nat → Nat) (s5 : Int32) (s6 : Int32) (k : Nat) (e1 : Nat → va_E) (e2 : List Nat) (e3 : Nat → Nat → Nat) (e4 : Nat → Nat → Nat) : Prop := ∀ R : (List Nat) → (Nat → va_E) → (Nat → Nat → Nat) → (Nat → Nat → Nat) → (Int32) → (Int32) → Nat → (Nat → va_E) → (List Nat) → (Nat → Nat → Nat) → (Nat → Nat → Nat) → Prop,
  (∀ (P_1 : List Nat) (F_1 : Nat → va_E) (gm_1 : Nat → Nat → Nat) (el_1 : Nat → Nat → Nat) (l3_1 : Int32) (l2_1 : Int32), gB l3_1 0 2000 → gB l2_1 0 2000 → RS D I P_1 F_1 gm_1 el_1 → rSk f [101] ([1, 3, 5, 6, 8, 9, 101] ++ npk) D I P F γ0 el0 P_1 F_1 gm_1 el_1 → gm_1 6 f = γ0 6 f → gm_1 7 f = γ0 7 f → gm_1 18 f = γ0 18 f → gm_1 16 f ≤ γ0 16 f + (l2_1.toInt : Int).toNat → l2_1.toInt ≤ l3_1.toInt → (l2_1.toInt : Int) ≤ gm_1 2 (gm_1 14 (el_1 (gm_1 14 q1) (0 : Int32).toInt.toNat)) → (F_1 q0 = F q0) → 2000 ≤ l3_1.toInt → R P_1 F_1 gm_1 el_1 l3_1 l2_1 74 F_1 P_1 gm_1 el_1) →
  (∀ (P_1 : List Nat) (F_1 : Nat → va_E) (gm_1 : Nat → Nat → Nat) (el_1 : Nat → Nat → Nat) (l3_1 : Int32) (l2_1 : Int32) (x1 : Nat) (x2 : Nat → Int64) (x3 : Int32) (k : Nat) (e1 : Nat → va_E) (e2 : List Nat) (e3 : Nat → Nat → Nat) (e4 : Nat → Nat → Nat), gB l3_1 0 2000 → gB l2_1 0 2000 → RS D I P_1 F_1 gm_1 el_1 → rSk f [101] ([1, 3, 5, 6, 8, 9, 101] ++ npk) D I P F γ0 el0 P_1 F_1 gm_1 el_1 → gm_1 6 f = γ0 6 f → gm_1 7 f = γ0 7 f → gm_1 18 f = γ0 18 f → gm_1 16 f ≤ γ0 16 f + (l2_1.toInt : Int).toNat → l2_1.toInt ≤ l3_1.toInt → (l2_1.toInt : Int) ≤ gm_1 2 (gm_1 14 (el_1 (gm_1 14 q1) (0 : Int32).toInt.toNat)) → (F_1 q0 = F q0) → l3_1.toInt < 2000 → fR (F_1 q0) 0 = (gm_1 9 0) → x1 = gm_1 10 (0 : Int32).toInt.toNat → F_1 x1 = .inl (I .long, 32, .inr (.inl x2)) → tr_RModel_has l3_1 x2 (0 : Int32) → x3.toInt = l3_1.toInt + 1 → R P_1 F_1 gm_1 el_1 x3 l2_1 k e1 e2 e3 e4 → R P_1 F_1 gm_1 el_1 l3_1 l2_1 k e1 e2 e3 e4) →
  (∀ (P_1 : List Nat) (F_1 : Nat → va_E) (gm_1 : Nat → Nat → Nat) (el_1 : Nat → Nat → Nat) (l3_1 : Int32) (l2_1 : Int32) (x1 : Nat) (x2 : Nat → Int64) (x3 : Nat) (x4 : Nat) (x5 : List Nat) (x6 : Nat → va_E) (x7 : Nat → Nat → Nat) (x8 : Nat → Nat → Nat) (x9 : Nat) (x10 : Nat) (x11 : Nat) (x12 : Nat → va_E) (x13 : Nat → va_E) (x14 : Nat) (x15 : Nat) (x16 : Int32) (x17 : Nat) (x18 : List Nat) (x19 : Nat → va_E) (x20 : Nat → Nat → Nat) (x21 : Nat → Nat → Nat) (x22 : Nat) (x23 : Nat) (x24 : Int32) (x25 : Int32) (k : Nat) (e1 : Nat → va_E) (e2 : List Nat) (e3 : Nat → Nat → Nat) (e4 : Nat → Nat → Nat), gB l3_1 0 2000 → gB l2_1 0 2000 → RS D I P_1 F_1 gm_1 el_1 → rSk f [101] ([1, 3, 5, 6, 8, 9, 101] ++ npk) D I P F γ0 el0 P_1 F_1 gm_1 el_1 → gm_1 6 f = γ0 6 f → gm_1 7 f = γ0 7 f → gm_1 18 f = γ0 18 f → gm_1 16 f ≤ γ0 16 f + (l2_1.toInt : Int).toNat → l2_1.toInt ≤ l3_1.toInt → (l2_1.toInt : Int) ≤ gm_1 2 (gm_1 14 (el_1 (gm_1 14 q1) (0 : Int32).toInt.toNat)) → (F_1 q0 = F q0) → l3_1.toInt < 2000 → fR (F_1 q0) 0 = (gm_1 9 0) → x1 = gm_1 10 (0 : Int32).toInt.toNat → F_1 x1 = .inl (I .long, 32, .inr (.inl x2)) → tr_RModel_has l3_1 x2 (1 : Int32) → fR (F_1 q1) 0 = x3 → x4 = el_1 x3 (0 : Int32).toInt.toNat → rRq D I P_1 F_1 gm_1 el_1 f q1 x5 x6 x7 x8 x9 x10 x11 → (∀ b, b ≠ x9 → x12 b = x6 b) → x12 x9 = cF (x6 x9) 0 (.int 0) → (∀ b, b ≠ x9 → x13 b = x12 b) → x13 x9 = cF (x12 x9) 1 (.int l3_1) → fR (x13 q1) 0 = x14 → x15 = x8 x14 (0 : Int32).toInt.toNat → fI (x13 x14) 2 = x16 → tr_RCode_get (0 : Int32) x16 → fR (x13 x15) 0 = x17 → rIq D I x5 x13 x7 x8 f x17 l2_1.toInt.toNat x9 x18 x19 x20 x21 x22 x23 → x24.toInt = l2_1.toInt + 1 → x25.toInt = l3_1.toInt + 1 → R x18 x19 x20 x21 x25 x24 k e1 e2 e3 e4 → R P_1 F_1 gm_1 el_1 l3_1 l2_1 k e1 e2 e3 e4) →
  R s1 s2 s3 s4 s5 s6 k e1 e2 e3 e4
/- tr_RModel_zeros: P, F, gm, el -/
def tr_RModel_zeros (D : va_G) (I : FieldType → ClassId) (γ0 el0 : Nat → Nat → Nat) (f : Nat) (P : List Nat) (F : Nat → va_E) (q0 : Nat) (q1 : Nat) (o1 : List Nat) (o2 : Nat → va_E) (o3 : Nat → Nat → Nat) (o4 : Nat → Nat → Nat) : Prop := ∀ R : (List Nat) → (Nat → va_E) → (Nat → Nat → Nat) → (Nat → Nat → Nat) → Prop,
  (∀ (x1 : Nat → Nat → Nat) (x2 : Nat → Nat → Nat) (x3 : Nat → va_E) (x4 : Nat → va_E) (x5 : List Nat) (x6 : Nat → Nat → Nat) (x7 : Nat → Nat → Nat), x1 = γ0 → x2 = el0 → RS D I P x3 x1 x2 → rStr x1 [] F x3 → (x3 q0 = F q0) → tr_RModel_findLive D I x1 x2 P F q0 q1 (0 : Int32) x3 → tl_RModel_zeros_10 D I γ0 el0 f P F q1 q0 P x3 x1 x2 (0 : Int32) (0 : Int32) 74 x4 x5 x6 x7 → R x5 x4 x6 x7) →
  R o1 o2 o3 o4
