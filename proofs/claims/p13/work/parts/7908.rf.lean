theorem dr_cX17_coloured_0 : decode cX17_coloured 0 = .ok (.aload_n 1, 1) := by decide +kernel
theorem dr_cX17_coloured_1 : decode cX17_coloured 1 = .ok (.invokevirtual 70, 3) := by decide +kernel
theorem dr_cX17_coloured_4 : decode cX17_coloured 4 = .ok (.ifCond .eq 16, 3) := by decide +kernel
theorem dr_cX17_coloured_20 : decode cX17_coloured 20 = .ok (.aload_n 1, 1) := by decide +kernel
theorem dr_cX17_coloured_21 : decode cX17_coloured 21 = .ok (.invokevirtual 76, 3) := by decide +kernel
theorem dr_cX17_coloured_24 : decode cX17_coloured 24 = .ok (.ifCond .eq 16, 3) := by decide +kernel
theorem dr_cX17_coloured_40 : decode cX17_coloured 40 = .ok (.aload_n 1, 1) := by decide +kernel
theorem dr_cX17_coloured_41 : decode cX17_coloured 41 = .ok (.invokevirtual 48, 3) := by decide +kernel
theorem dr_cX17_coloured_44 : decode cX17_coloured 44 = .ok (.ifCond .eq 16, 3) := by decide +kernel
theorem dr_cX17_coloured_60 : decode cX17_coloured 60 = .ok (.return_, 1) := by decide +kernel
theorem dr_cX17_coloured_47 : decode cX17_coloured 47 = .ok (.aload_n 1, 1) := by decide +kernel
theorem dr_cX17_coloured_48 : decode cX17_coloured 48 = .ok (.aload_n 0, 1) := by decide +kernel
theorem dr_cX17_coloured_49 : decode cX17_coloured 49 = .ok (.getfield 212, 3) := by decide +kernel
theorem dr_cX17_coloured_52 : decode cX17_coloured 52 = .ok (.aload_n 1, 1) := by decide +kernel
theorem dr_cX17_coloured_53 : decode cX17_coloured 53 = .ok (.getfield 52, 3) := by decide +kernel
theorem dr_cX17_coloured_56 : decode cX17_coloured 56 = .ok (.iaload, 1) := by decide +kernel
theorem dr_cX17_coloured_57 : decode cX17_coloured 57 = .ok (.putfield 52, 3) := by decide +kernel
theorem dr_cX17_coloured_27 : decode cX17_coloured 27 = .ok (.aload_n 1, 1) := by decide +kernel
theorem dr_cX17_coloured_28 : decode cX17_coloured 28 = .ok (.aload_n 0, 1) := by decide +kernel
theorem dr_cX17_coloured_29 : decode cX17_coloured 29 = .ok (.getfield 212, 3) := by decide +kernel
theorem dr_cX17_coloured_32 : decode cX17_coloured 32 = .ok (.aload_n 1, 1) := by decide +kernel
theorem dr_cX17_coloured_33 : decode cX17_coloured 33 = .ok (.getfield 79, 3) := by decide +kernel
theorem dr_cX17_coloured_36 : decode cX17_coloured 36 = .ok (.iaload, 1) := by decide +kernel
theorem dr_cX17_coloured_37 : decode cX17_coloured 37 = .ok (.putfield 79, 3) := by decide +kernel
theorem dr_cX17_coloured_7 : decode cX17_coloured 7 = .ok (.aload_n 1, 1) := by decide +kernel
theorem dr_cX17_coloured_8 : decode cX17_coloured 8 = .ok (.aload_n 0, 1) := by decide +kernel
theorem dr_cX17_coloured_9 : decode cX17_coloured 9 = .ok (.getfield 212, 3) := by decide +kernel
theorem dr_cX17_coloured_12 : decode cX17_coloured 12 = .ok (.aload_n 1, 1) := by decide +kernel
theorem dr_cX17_coloured_13 : decode cX17_coloured 13 = .ok (.getfield 73, 3) := by decide +kernel
theorem dr_cX17_coloured_16 : decode cX17_coloured 16 = .ok (.iaload, 1) := by decide +kernel
theorem dr_cX17_coloured_17 : decode cX17_coloured 17 = .ok (.putfield 73, 3) := by decide +kernel
theorem dr_cX17_share_0 : decode cX17_share 0 = .ok (.aload_n 0, 1) := by decide +kernel
theorem dr_cX17_share_1 : decode cX17_share 1 = .ok (.aload_n 1, 1) := by decide +kernel
theorem dr_cX17_share_2 : decode cX17_share 2 = .ok (.iconst 1, 1) := by decide +kernel
theorem dr_cX17_share_3 : decode cX17_share 3 = .ok (.invokevirtual 243, 3) := by decide +kernel
theorem wr_10_233 : (Jvm.Cond.methodLink "SpillForgeModel" (243 : Nat) ({ cls := "SpillForgeModel", name := "graph", desc := "(LSpillForgeModel$Code;Z)V" } : Jvm.MethodName)) ∈ gw := gw_10 233 rfl rfl
theorem wr_10_236 : (Jvm.Cond.code ({ cls := "SpillForgeModel", name := "graph", desc := "(LSpillForgeModel$Code;Z)V" } : Jvm.MethodName) prog_14_method_10_code (11 : Nat) (Option.none : Option Jvm.ClassFile.FieldType)) ∈ gw := gw_10 236 rfl rfl
theorem wr_10_235 : (Jvm.Cond.instanceMethod ({ cls := "SpillForgeModel", name := "graph", desc := "(LSpillForgeModel$Code;Z)V" } : Jvm.MethodName)) ∈ gw := gw_10 235 rfl rfl
theorem wr_p_99 : Cond.selects "SpillForgeModel" ⟨"SpillForgeModel", "graph", "(LSpillForgeModel$Code;Z)V"⟩ ⟨"SpillForgeModel", "graph", "(LSpillForgeModel$Code;Z)V"⟩ ∈ gw := gw_p _ 99 rfl rfl rfl
theorem dr_cX17_share_6 : decode cX17_share 6 = .ok (.iconst 0, 1) := by decide +kernel
theorem dr_cX17_share_7 : decode cX17_share 7 = .ok (.istore_n 2, 1) := by decide +kernel
theorem dr_cX17_share_8 : decode cX17_share 8 = .ok (.iconst 0, 1) := by decide +kernel
theorem dr_cX17_share_9 : decode cX17_share 9 = .ok (.istore_n 3, 1) := by decide +kernel
theorem dr_cX17_share_10 : decode cX17_share 10 = .ok (.iload_n 3, 1) := by decide +kernel
theorem dr_cX17_share_11 : decode cX17_share 11 = .ok (.aload_n 0, 1) := by decide +kernel
theorem dr_cX17_share_12 : decode cX17_share 12 = .ok (.getfield 224, 3) := by decide +kernel
theorem wr_7_85 : (Jvm.Cond.fieldLink "SpillForgeModel" (224 : Nat) "SpillForgeModel" "slots" "I") ∈ gw := gw_7 85 rfl rfl
theorem dr_cX17_share_15 : decode cX17_share 15 = .ok (.if_icmp .ge 136, 3) := by decide +kernel
theorem dr_cX17_share_151 : decode cX17_share 151 = .ok (.iconst 0, 1) := by decide +kernel
theorem dr_cX17_share_152 : decode cX17_share 152 = .ok (.istore_n 3, 1) := by decide +kernel
theorem dr_cX17_share_153 : decode cX17_share 153 = .ok (.iload_n 3, 1) := by decide +kernel
theorem dr_cX17_share_154 : decode cX17_share 154 = .ok (.aload_n 1, 1) := by decide +kernel
theorem dr_cX17_share_155 : decode cX17_share 155 = .ok (.invokevirtual 96, 3) := by decide +kernel
theorem dr_cX17_share_158 : decode cX17_share 158 = .ok (.if_icmp .ge 88, 3) := by decide +kernel
theorem dr_cX17_share_246 : decode cX17_share 246 = .ok (.aload_n 0, 1) := by decide +kernel
theorem dr_cX17_share_247 : decode cX17_share 247 = .ok (.iload_n 2, 1) := by decide +kernel
theorem dr_cX17_share_248 : decode cX17_share 248 = .ok (.putfield 224, 3) := by decide +kernel
theorem dr_cX17_share_251 : decode cX17_share 251 = .ok (.return_, 1) := by decide +kernel
theorem dr_cX17_share_161 : decode cX17_share 161 = .ok (.aload_n 1, 1) := by decide +kernel
theorem dr_cX17_share_162 : decode cX17_share 162 = .ok (.iload_n 3, 1) := by decide +kernel
theorem dr_cX17_share_163 : decode cX17_share 163 = .ok (.invokevirtual 101, 3) := by decide +kernel
theorem dr_cX17_share_166 : decode cX17_share 166 = .ok (.astore 4, 2) := by decide +kernel
theorem dr_cX17_share_168 : decode cX17_share 168 = .ok (.iconst 0, 1) := by decide +kernel
theorem dr_cX17_share_169 : decode cX17_share 169 = .ok (.istore 5, 2) := by decide +kernel
theorem dr_cX17_share_171 : decode cX17_share 171 = .ok (.iload 5, 2) := by decide +kernel
theorem dr_cX17_share_173 : decode cX17_share 173 = .ok (.aload 4, 2) := by decide +kernel
theorem dr_cX17_share_175 : decode cX17_share 175 = .ok (.getfield 117, 3) := by decide +kernel
theorem dr_cX17_share_178 : decode cX17_share 178 = .ok (.invokevirtual 121, 3) := by decide +kernel
theorem dr_cX17_share_181 : decode cX17_share 181 = .ok (.if_icmp .ge 59, 3) := by decide +kernel
theorem dr_cX17_share_240 : decode cX17_share 240 = .ok (.iinc 3 1, 3) := by decide +kernel
theorem dr_cX17_share_243 : decode cX17_share 243 = .ok (.goto (-90), 3) := by decide +kernel
theorem dr_cX17_share_184 : decode cX17_share 184 = .ok (.aload 4, 2) := by decide +kernel
theorem dr_cX17_share_186 : decode cX17_share 186 = .ok (.getfield 117, 3) := by decide +kernel
theorem dr_cX17_share_189 : decode cX17_share 189 = .ok (.iload 5, 2) := by decide +kernel
theorem dr_cX17_share_191 : decode cX17_share 191 = .ok (.invokevirtual 124, 3) := by decide +kernel
theorem dr_cX17_share_194 : decode cX17_share 194 = .ok (.checkcast 40, 3) := by decide +kernel
theorem dr_cX17_share_197 : decode cX17_share 197 = .ok (.astore 6, 2) := by decide +kernel
theorem dr_cX17_share_199 : decode cX17_share 199 = .ok (.aload 6, 2) := by decide +kernel
theorem dr_cX17_share_201 : decode cX17_share 201 = .ok (.getfield 39, 3) := by decide +kernel
theorem dr_cX17_share_204 : decode cX17_share 204 = .ok (.bipush 21, 2) := by decide +kernel
theorem dr_cX17_share_206 : decode cX17_share 206 = .ok (.if_icmp .eq 13, 3) := by decide +kernel
theorem dr_cX17_share_219 : decode cX17_share 219 = .ok (.aload 6, 2) := by decide +kernel
theorem dr_cX17_share_221 : decode cX17_share 221 = .ok (.aload_n 0, 1) := by decide +kernel
theorem dr_cX17_share_222 : decode cX17_share 222 = .ok (.getfield 221, 3) := by decide +kernel
theorem wr_7_93 : (Jvm.Cond.fieldLink "SpillForgeModel" (221 : Nat) "SpillForgeModel" "slotOf" "[I") ∈ gw := gw_7 93 rfl rfl
theorem dr_cX17_share_225 : decode cX17_share 225 = .ok (.aload 6, 2) := by decide +kernel
theorem dr_cX17_share_227 : decode cX17_share 227 = .ok (.getfield 45, 3) := by decide +kernel
theorem dr_cX17_share_230 : decode cX17_share 230 = .ok (.iaload, 1) := by decide +kernel
theorem dr_cX17_share_231 : decode cX17_share 231 = .ok (.putfield 45, 3) := by decide +kernel
theorem dr_cX17_share_234 : decode cX17_share 234 = .ok (.iinc 5 1, 3) := by decide +kernel
theorem dr_cX17_share_237 : decode cX17_share 237 = .ok (.goto (-66), 3) := by decide +kernel
theorem dr_cX17_share_209 : decode cX17_share 209 = .ok (.aload 6, 2) := by decide +kernel
theorem dr_cX17_share_211 : decode cX17_share 211 = .ok (.getfield 39, 3) := by decide +kernel
theorem dr_cX17_share_214 : decode cX17_share 214 = .ok (.bipush 23, 2) := by decide +kernel
theorem dr_cX17_share_216 : decode cX17_share 216 = .ok (.if_icmp .ne 18, 3) := by decide +kernel
theorem dr_cX17_share_18 : decode cX17_share 18 = .ok (.iconst 0, 1) := by decide +kernel
theorem dr_cX17_share_19 : decode cX17_share 19 = .ok (.istore 4, 2) := by decide +kernel
theorem dr_cX17_share_21 : decode cX17_share 21 = .ok (.iconst 0, 1) := by decide +kernel
theorem dr_cX17_share_22 : decode cX17_share 22 = .ok (.istore 5, 2) := by decide +kernel
theorem dr_cX17_share_24 : decode cX17_share 24 = .ok (.iload 5, 2) := by decide +kernel
theorem dr_cX17_share_26 : decode cX17_share 26 = .ok (.iload_n 3, 1) := by decide +kernel
theorem dr_cX17_share_27 : decode cX17_share 27 = .ok (.if_icmp .ge 17, 3) := by decide +kernel
theorem dr_cX17_share_44 : decode cX17_share 44 = .ok (.iconst 0, 1) := by decide +kernel
theorem dr_cX17_share_45 : decode cX17_share 45 = .ok (.istore 5, 2) := by decide +kernel
theorem dr_cX17_share_47 : decode cX17_share 47 = .ok (.iload 5, 2) := by decide +kernel
theorem dr_cX17_share_49 : decode cX17_share 49 = .ok (.iload_n 3, 1) := by decide +kernel
theorem dr_cX17_share_50 : decode cX17_share 50 = .ok (.if_icmp .ge 46, 3) := by decide +kernel
theorem dr_cX17_share_96 : decode cX17_share 96 = .ok (.iload 4, 2) := by decide +kernel
theorem dr_cX17_share_98 : decode cX17_share 98 = .ok (.iload_n 3, 1) := by decide +kernel
theorem dr_cX17_share_99 : decode cX17_share 99 = .ok (.if_icmp .ge 20, 3) := by decide +kernel
theorem dr_cX17_share_119 : decode cX17_share 119 = .ok (.aload_n 0, 1) := by decide +kernel
theorem dr_cX17_share_120 : decode cX17_share 120 = .ok (.getfield 221, 3) := by decide +kernel
theorem dr_cX17_share_123 : decode cX17_share 123 = .ok (.iload_n 3, 1) := by decide +kernel
theorem dr_cX17_share_124 : decode cX17_share 124 = .ok (.iload 4, 2) := by decide +kernel
theorem dr_cX17_share_126 : decode cX17_share 126 = .ok (.iastore, 1) := by decide +kernel
theorem dr_cX17_share_127 : decode cX17_share 127 = .ok (.aload_n 0, 1) := by decide +kernel
theorem dr_cX17_share_128 : decode cX17_share 128 = .ok (.getfield 131, 3) := by decide +kernel
theorem dr_cX17_share_131 : decode cX17_share 131 = .ok (.iload_n 3, 1) := by decide +kernel
theorem dr_cX17_share_132 : decode cX17_share 132 = .ok (.baload, 1) := by decide +kernel
theorem dr_cX17_share_133 : decode cX17_share 133 = .ok (.ifCond .eq 12, 3) := by decide +kernel
theorem dr_cX17_share_145 : decode cX17_share 145 = .ok (.iinc 3 1, 3) := by decide +kernel
theorem dr_cX17_share_148 : decode cX17_share 148 = .ok (.goto (-138), 3) := by decide +kernel
theorem dr_cX17_share_136 : decode cX17_share 136 = .ok (.iload_n 2, 1) := by decide +kernel
theorem dr_cX17_share_137 : decode cX17_share 137 = .ok (.iload 4, 2) := by decide +kernel
theorem dr_cX17_share_139 : decode cX17_share 139 = .ok (.iconst 1, 1) := by decide +kernel
theorem dr_cX17_share_140 : decode cX17_share 140 = .ok (.iadd, 1) := by decide +kernel
theorem dr_cX17_share_141 : decode cX17_share 141 = .ok (.invokestatic 189, 3) := by decide +kernel
theorem dr_cX17_share_144 : decode cX17_share 144 = .ok (.istore_n 2, 1) := by decide +kernel
theorem dr_cX17_share_102 : decode cX17_share 102 = .ok (.aload_n 0, 1) := by decide +kernel
theorem dr_cX17_share_103 : decode cX17_share 103 = .ok (.getfield 209, 3) := by decide +kernel
theorem dr_cX17_share_106 : decode cX17_share 106 = .ok (.iload 4, 2) := by decide +kernel
theorem dr_cX17_share_108 : decode cX17_share 108 = .ok (.iaload, 1) := by decide +kernel
theorem dr_cX17_share_109 : decode cX17_share 109 = .ok (.iconst 1, 1) := by decide +kernel
theorem dr_cX17_share_110 : decode cX17_share 110 = .ok (.if_icmp .ne 9, 3) := by decide +kernel
theorem dr_cX17_share_113 : decode cX17_share 113 = .ok (.iinc 4 1, 3) := by decide +kernel
theorem dr_cX17_share_116 : decode cX17_share 116 = .ok (.goto (-20), 3) := by decide +kernel
theorem dr_cX17_share_53 : decode cX17_share 53 = .ok (.aload_n 0, 1) := by decide +kernel
theorem dr_cX17_share_54 : decode cX17_share 54 = .ok (.getfield 131, 3) := by decide +kernel
theorem dr_cX17_share_57 : decode cX17_share 57 = .ok (.iload 5, 2) := by decide +kernel
theorem dr_cX17_share_59 : decode cX17_share 59 = .ok (.baload, 1) := by decide +kernel
theorem dr_cX17_share_60 : decode cX17_share 60 = .ok (.ifCond .eq 30, 3) := by decide +kernel
theorem dr_cX17_share_90 : decode cX17_share 90 = .ok (.iinc 5 1, 3) := by decide +kernel
theorem dr_cX17_share_93 : decode cX17_share 93 = .ok (.goto (-46), 3) := by decide +kernel
theorem dr_cX17_share_63 : decode cX17_share 63 = .ok (.aload_n 0, 1) := by decide +kernel
theorem dr_cX17_share_64 : decode cX17_share 64 = .ok (.getfield 135, 3) := by decide +kernel
theorem dr_cX17_share_67 : decode cX17_share 67 = .ok (.iload_n 3, 1) := by decide +kernel
theorem dr_cX17_share_68 : decode cX17_share 68 = .ok (.aaload, 1) := by decide +kernel
theorem dr_cX17_share_69 : decode cX17_share 69 = .ok (.iload 5, 2) := by decide +kernel
theorem dr_cX17_share_71 : decode cX17_share 71 = .ok (.invokestatic 145, 3) := by decide +kernel
theorem dr_cX17_share_74 : decode cX17_share 74 = .ok (.ifCond .eq 16, 3) := by decide +kernel
theorem dr_cX17_share_77 : decode cX17_share 77 = .ok (.aload_n 0, 1) := by decide +kernel
theorem dr_cX17_share_78 : decode cX17_share 78 = .ok (.getfield 209, 3) := by decide +kernel
theorem dr_cX17_share_81 : decode cX17_share 81 = .ok (.aload_n 0, 1) := by decide +kernel
theorem dr_cX17_share_82 : decode cX17_share 82 = .ok (.getfield 221, 3) := by decide +kernel
theorem dr_cX17_share_85 : decode cX17_share 85 = .ok (.iload 5, 2) := by decide +kernel
theorem dr_cX17_share_87 : decode cX17_share 87 = .ok (.iaload, 1) := by decide +kernel
theorem dr_cX17_share_88 : decode cX17_share 88 = .ok (.iconst 1, 1) := by decide +kernel
theorem dr_cX17_share_89 : decode cX17_share 89 = .ok (.iastore, 1) := by decide +kernel
theorem dr_cX17_share_30 : decode cX17_share 30 = .ok (.aload_n 0, 1) := by decide +kernel
theorem dr_cX17_share_31 : decode cX17_share 31 = .ok (.getfield 209, 3) := by decide +kernel
theorem dr_cX17_share_34 : decode cX17_share 34 = .ok (.iload 5, 2) := by decide +kernel
theorem dr_cX17_share_36 : decode cX17_share 36 = .ok (.iconst 0, 1) := by decide +kernel
theorem dr_cX17_share_37 : decode cX17_share 37 = .ok (.iastore, 1) := by decide +kernel
theorem dr_cX17_share_38 : decode cX17_share 38 = .ok (.iinc 5 1, 3) := by decide +kernel
theorem dr_cX17_share_41 : decode cX17_share 41 = .ok (.goto (-17), 3) := by decide +kernel
abbrev ky_344685_SpillForgeModel_coloured : gKey := (cX17_coloured, 2, "SpillForgeModel", none, [], "coloured", fun _ _ => True)
def pt_344685_SpillForgeModel_coloured (D : va_G) (I : FieldType → ClassId) (γ el : Nat → Nat → Nat) (P344680 : List Nat) (F344681 : Nat → va_E) (q344682 : Nat) (q344683 : Nat) : Option Value → va_W → Nat → Nat → Prop := fun r w dc ds => ∃ (F344954 : Nat → va_E), r = none ∧ w = va_pl P344680 F344954 ∧ RS D I P344680 F344954 γ el ∧ rStr γ [1] F344681 F344954 ∧ dc ≤ 0 ∧ ds ≤ 0 ∧ (∀ b, b ≠ q344683 → F344954 b = F344681 b) ∧ (F344954 q344682 = F344681 q344682) ∧ (F344954 (γ 9 3) = F344681 (γ 9 3)) ∧ (F344954 (γ 9 17) = F344681 (γ 9 17)) ∧ tr_RModel_coloured D I γ el F344681 q344682 q344683 F344954
set_option maxRecDepth 100000 in
set_option maxHeartbeats 4000000 in
theorem ct_344685_SpillForgeModel_coloured (l : Launch) (hl0 : l.stackTraces = false) (D : va_G) (I : FieldType → ClassId) (γ el : Nat → Nat → Nat) (P344680 : List Nat) (F344681 : Nat → va_E) (q344682 : Nat) (q344683 : Nat) (hT : RS D I P344680 F344681 γ el) (htq344682 : rKd γ q344682 10) (htq344683 : rKd γ q344683 1) (x344684 : (rNm (fun n => 0 ≤ (cB (F344681 (γ 9 17)) n).toInt) (F344681 q344683))) : CtA (gV D I) l yX17_coloured cX17_coloured 2 none 1 20 0 0 [.ref q344682, .ref q344683] (va_pl P344680 F344681) (pt_344685_SpillForgeModel_coloured D I γ el P344680 F344681 q344682 q344683) gNA := by
  refine CtA_of hl0 (by decide) (Nat.le_of_ble_eq_true rfl) ?_
  have hm344686 : q344682 ∈ P344680 := RS_m hT htq344682 (by decide)
  obtain ⟨q344688, q344689, p344690, p344691, p344692, p344693, p344694, p344695, p344696, p344697, p344698, p344699, p344700, p344701, p344702, p344703, p344704, he344687, hB344731, ht344705, ht344706, ht344707, ht344708, ht344709, ht344710, ht344711, ht344712, ht344713, ht344714, ht344715, ht344716, ht344717, ht344718, ht344719, ht344720, ht344721, ht344722, ht344723, ht344724, ht344725, ht344726, ht344727, ht344728, hB344732⟩ := show rk_10 γ (F344681 q344682) from RS_o hT htq344682
  have hm344733 : (γ 9 17) ∈ P344680 := RS_m hT ht344718 (by decide)
  obtain ⟨f344735, he344734, bf344735⟩ := show rk_20 I (F344681 (γ 9 17)) from RS_o hT ht344718
  have hm344736 : q344683 ∈ P344680 := RS_m hT htq344683 (by decide)
  obtain ⟨p344738, p344739, p344740, p344741, p344742, p344743, p344744, he344737, bp344738, bp344739, bp344742, bp344743, bp344744, r344745, r344746, r344747, r344748, r344749⟩ := show rk_1 γ q344683 (F344681 q344683) from RS_o hT htq344683
  have bp344740 := gB_any p344740
  have bp344741 := gB_any p344741
  have cq344750 : ∀ n, nmV p344738.toInt p344739.toInt p344740.toInt p344741.toInt p344743.toInt p344744.toInt n → 0 ≤ (f344735 n).toInt := by have z := x344684; unfold rNm at z; rw [nmS_of he344737, cB_of he344734] at z; exact z
  refine G_aload_n 1 dr_cX17_coloured_0 rfl ?_
  have fq344751 : fI (F344681 q344683) 0 = p344738 := by rw [he344737]; rfl
  have fq344752 : fI (F344681 q344683) 5 = p344743 := by rw [he344737]; rfl
  refine Gw_callV (As := []) (gV_ok D I) (cp_222450_Row_usesA l hl0 D I P344680 F344681 q344683 p344738 p344739 p344740 p344741 p344742 p344743 p344744 hm344736 he344737 bp344738 bp344739 bp344742 bp344743 bp344744) dr_cX17_coloured_1 ⟨wr_10_192, wr_1_39, wr_10_195, by decide, rfl, (Nat.le_of_ble_eq_true rfl), (Nat.le_of_ble_eq_true rfl)⟩ wr_10_193 wr_10_194 hm344736 he344737 rfl (show 0 + 0 ≤ 0 by first | omega | decide) (show 0 + 0 ≤ 0 by first | omega | decide) (Nat.le_of_ble_eq_true rfl) (fun r344756 w344757 dc344753 ds344754 hp344755 => ?_) (fun _ _ _ _ _ z => z.elim)
  obtain ⟨o344758, rfl, rfl, hdc, hds, bo344758, x344759, ht344760⟩ := hp344755
  change G _ _ _ _ _ _ _ (.int o344758 :: _) _ _ _
  refine G_widen (cs' := 0) (sl' := 0) (by omega) (by omega) ?_
  refine G_if_eq 20 dr_cX17_coloured_4 (by decide +kernel) (fun hc344761 => ?_) (fun hc344761 => ?_)
  · have r344762 : o344758.toInt = 0 := gj_eq hc344761 (show Int32.toInt 0 = 0 by decide)
    have bo344758' : gB o344758 0 0 := ⟨by omega, by omega⟩
    refine G_aload_n 1 dr_cX17_coloured_20 rfl ?_
    have fq344763 : fI (F344681 q344683) 6 = p344744 := by rw [he344737]; rfl
    refine Gw_callV (As := []) (gV_ok D I) (cp_222474_Row_usesB l hl0 D I P344680 F344681 q344683 p344738 p344739 p344740 p344741 p344742 p344743 p344744 hm344736 he344737 bp344738 bp344739 bp344742 bp344743 bp344744) dr_cX17_coloured_21 ⟨wr_10_196, wr_1_39, wr_10_199, by decide, rfl, (Nat.le_of_ble_eq_true rfl), (Nat.le_of_ble_eq_true rfl)⟩ wr_10_197 wr_10_198 hm344736 he344737 rfl (show 0 + 0 ≤ 0 by first | omega | decide) (show 0 + 0 ≤ 0 by first | omega | decide) (Nat.le_of_ble_eq_true rfl) (fun r344767 w344768 dc344764 ds344765 hp344766 => ?_) (fun _ _ _ _ _ z => z.elim)
    obtain ⟨o344769, rfl, rfl, hdc, hds, bo344769, x344770, ht344771⟩ := hp344766
    change G _ _ _ _ _ _ _ (.int o344769 :: _) _ _ _
    refine G_widen (cs' := 0) (sl' := 0) (by omega) (by omega) ?_
    refine G_if_eq 40 dr_cX17_coloured_24 (by decide +kernel) (fun hc344772 => ?_) (fun hc344772 => ?_)
    · have r344773 : o344769.toInt = 0 := gj_eq hc344772 (show Int32.toInt 0 = 0 by decide)
      have bo344769' : gB o344769 0 0 := ⟨by omega, by omega⟩
      refine G_aload_n 1 dr_cX17_coloured_40 rfl ?_
      refine Gw_callV (As := []) (gV_ok D I) (cp_222495_Row_sets l hl0 D I P344680 F344681 q344683 p344738 p344739 p344740 p344741 p344742 p344743 p344744 hm344736 he344737 bp344738 bp344739 bp344742 bp344743 bp344744) dr_cX17_coloured_41 ⟨wr_10_181, wr_1_39, wr_10_184, by decide, rfl, (Nat.le_of_ble_eq_true rfl), (Nat.le_of_ble_eq_true rfl)⟩ wr_10_182 wr_10_183 hm344736 he344737 rfl (show 0 + 0 ≤ 0 by first | omega | decide) (show 0 + 0 ≤ 0 by first | omega | decide) (Nat.le_of_ble_eq_true rfl) (fun r344777 w344778 dc344774 ds344775 hp344776 => ?_) (fun _ _ _ _ _ z => z.elim)
      obtain ⟨o344779, rfl, rfl, hdc, hds, bo344779, x344780, ht344781⟩ := hp344776
      change G _ _ _ _ _ _ _ (.int o344779 :: _) _ _ _
      refine G_widen (cs' := 0) (sl' := 0) (by omega) (by omega) ?_
      refine G_if_eq 60 dr_cX17_coloured_44 (by decide +kernel) (fun hc344782 => ?_) (fun hc344782 => ?_)
      · have r344783 : o344779.toInt = 0 := gj_eq hc344782 (show Int32.toInt 0 = 0 by decide)
        have bo344779' : gB o344779 0 0 := ⟨by omega, by omega⟩
        exact G_vretA dr_cX17_coloured_60 rfl (Nat.le_of_ble_eq_true rfl) (Nat.le_of_ble_eq_true rfl) ⟨F344681, rfl, rfl, hT, (rStr_rf (γ := γ) (W := [1]) (F := F344681)), (Nat.le_of_ble_eq_true rfl), (Nat.le_of_ble_eq_true rfl), (fun _ _ => rfl), rfl, rfl, rfl, (fun R c1 c2 c3 c4 c5 c6 c7 c8 => c1 p344738 p344743 o344758 p344744 o344769 o344779 fq344751 fq344752 bo344758 ht344760 r344762 fq344763 bo344769 ht344771 r344773 bo344779 ht344781 r344783)⟩
      · have r344784 : o344779.toInt ≠ 0 := gj_neq hc344782 (show Int32.toInt 0 = 0 by decide)
        have bo344779' : gB o344779 1 1 := ⟨by omega, by omega⟩
        refine G_aload_n 1 dr_cX17_coloured_47 rfl ?_
        refine G_aload_n 0 dr_cX17_coloured_48 rfl ?_
        have fq344785 : fR (F344681 q344682) 17 = (γ 9 17) := by rw [he344687]; rfl
        refine Gp_get 17 hm344686 he344687 dr_cX17_coloured_49 (gk_X17 D I) (Nat.le_of_ble_eq_true rfl) wr_7_91 rfl ?_
        refine G_aload_n 1 dr_cX17_coloured_52 rfl ?_
        have fq344786 : fI (F344681 q344683) 1 = p344739 := by rw [he344737]; rfl
        refine Gp_get 1 hm344736 he344737 dr_cX17_coloured_53 (gk_X15 D I) (Nat.le_of_ble_eq_true rfl) wr_9_182 rfl ?_
        refine Gp_iald 0 hm344733 he344734 dr_cX17_coloured_56 rfl (gB_in bp344739 (by decide) (by decide)) (G_nam fun z344787 hz344787 => ?_)
        have bz344787 : gB z344787 (-1) 31 := by rw [hz344787]; exact bf344735 _
        have r344788 : 0 ≤ z344787.toInt := by rw [hz344787]; exact cq344750 _ (Or.inl ⟨by omega, rfl⟩)
        have bz344787' : gB z344787 0 31 := ⟨by omega, by omega⟩
        refine Gp_put 1 hm344736 he344737 dr_cX17_coloured_57 (gk_X15 D I) (Nat.le_of_ble_eq_true rfl) wr_9_182 rfl rfl rfl (Nat.le_of_ble_eq_true rfl) (fun F344789 e344790 n344791 => ?_)
        have he344792 : F344789 q344682 = .inr (22, [.ref (γ 9 0), .ref (γ 9 1), .ref (γ 9 2), .ref (γ 9 3), .ref (γ 9 4), .ref (γ 9 5), .ref (γ 9 6), .ref (γ 9 7), .ref (γ 9 8), .int p344690, .int p344691, .int p344692, .int p344693, .int p344694, .int p344695, .ref (γ 9 15), .ref (γ 9 16), .ref (γ 9 17), .ref (γ 9 18), .ref (γ 9 19), .ref (γ 9 20), .ref (γ 9 21), .ref (γ 9 22), .int p344696, .int p344697, .int p344698, .int p344699, .int p344700, .ref q344688, .ref (γ 9 29), .int p344701, .ref (γ 9 31), .int p344702, .int p344703, .int p344704, .ref q344689]) := (n344791 q344682 (rn_oo he344687 he344737 (by decide))).trans he344687
        have he344793 : F344789 (γ 9 17) = .inl (I .int, 2000, .inl f344735) := (n344791 (γ 9 17) (rn_ao he344734 he344737)).trans he344734
        have he344794 : F344789 q344683 = .inr (20, [.int p344738, .int z344787, .int p344740, .int p344741, .int p344742, .int p344743, .int p344744]) := e344790
        have hs344795 : rStr γ [1] F344681 F344789 := rStr_pu2 (rStr_rf (γ := γ) (W := [1]) (F := F344681)) n344791 htq344683 (by decide)
        have kp344796 : F344789 q344682 = F344681 q344682 := n344791 q344682 (rn_ty htq344682 htq344683 (by decide))
        have kp344797 : F344789 (γ 9 3) = F344681 (γ 9 3) := n344791 (γ 9 3) (rn_ty ht344710 htq344683 (by decide))
        have kp344798 : F344789 (γ 9 17) = F344681 (γ 9 17) := n344791 (γ 9 17) (rn_ty ht344718 htq344683 (by decide))
        have fq344799 : F344789 q344683 = cF (F344681 q344683) 1 (.int z344787) := by rw [he344794, he344737]; rfl
        have hT344800 : RS D I P344680 F344789 γ el := RS_set hT n344791 htq344683 (by decide) ⟨p344738, z344787, p344740, p344741, p344742, p344743, p344744, he344794, bp344738, (gB_w bz344787' (by decide) (by decide)), bp344742, bp344743, bp344744, (by omega), (by omega), (by omega), (by omega), (by omega)⟩
        have of344801 : ∀ b, b ≠ q344683 → F344789 b = F344681 b := fun b hb => n344791 b hb
        exact G_vretA dr_cX17_coloured_60 rfl (Nat.le_of_ble_eq_true rfl) (Nat.le_of_ble_eq_true rfl) ⟨F344789, rfl, rfl, hT344800, hs344795, (Nat.le_of_ble_eq_true rfl), (Nat.le_of_ble_eq_true rfl), of344801, kp344796, kp344797, kp344798, (fun R c1 c2 c3 c4 c5 c6 c7 c8 => c2 p344738 p344743 o344758 p344744 o344769 o344779 p344739 f344735 z344787 F344789 fq344751 fq344752 bo344758 ht344760 r344762 fq344763 bo344769 ht344771 r344773 bo344779 ht344781 r344784 fq344785 fq344786 he344734 hz344787 bz344787 n344791 fq344799)⟩
    · have r344802 : o344769.toInt ≠ 0 := gj_neq hc344772 (show Int32.toInt 0 = 0 by decide)
      have bo344769' : gB o344769 1 1 := ⟨by omega, by omega⟩
      refine G_aload_n 1 dr_cX17_coloured_27 rfl ?_
      refine G_aload_n 0 dr_cX17_coloured_28 rfl ?_
      have fq344803 : fR (F344681 q344682) 17 = (γ 9 17) := by rw [he344687]; rfl
      refine Gp_get 17 hm344686 he344687 dr_cX17_coloured_29 (gk_X17 D I) (Nat.le_of_ble_eq_true rfl) wr_7_91 rfl ?_
      refine G_aload_n 1 dr_cX17_coloured_32 rfl ?_
      have fq344804 : fI (F344681 q344683) 3 = p344741 := by rw [he344737]; rfl
      refine Gp_get 3 hm344736 he344737 dr_cX17_coloured_33 (gk_X15 D I) (Nat.le_of_ble_eq_true rfl) wr_9_190 rfl ?_
      refine Gp_iald 0 hm344733 he344734 dr_cX17_coloured_36 rfl (gB_inr (by omega) (by omega)) (G_nam fun z344805 hz344805 => ?_)
      have bz344805 : gB z344805 (-1) 31 := by rw [hz344805]; exact bf344735 _
      have r344806 : 0 ≤ z344805.toInt := by rw [hz344805]; exact cq344750 _ (Or.inr (Or.inr ⟨by omega, rfl⟩))
      have bz344805' : gB z344805 0 31 := ⟨by omega, by omega⟩
      refine Gp_put 3 hm344736 he344737 dr_cX17_coloured_37 (gk_X15 D I) (Nat.le_of_ble_eq_true rfl) wr_9_190 rfl rfl rfl (Nat.le_of_ble_eq_true rfl) (fun F344807 e344808 n344809 => ?_)
      have he344810 : F344807 q344682 = .inr (22, [.ref (γ 9 0), .ref (γ 9 1), .ref (γ 9 2), .ref (γ 9 3), .ref (γ 9 4), .ref (γ 9 5), .ref (γ 9 6), .ref (γ 9 7), .ref (γ 9 8), .int p344690, .int p344691, .int p344692, .int p344693, .int p344694, .int p344695, .ref (γ 9 15), .ref (γ 9 16), .ref (γ 9 17), .ref (γ 9 18), .ref (γ 9 19), .ref (γ 9 20), .ref (γ 9 21), .ref (γ 9 22), .int p344696, .int p344697, .int p344698, .int p344699, .int p344700, .ref q344688, .ref (γ 9 29), .int p344701, .ref (γ 9 31), .int p344702, .int p344703, .int p344704, .ref q344689]) := (n344809 q344682 (rn_oo he344687 he344737 (by decide))).trans he344687
      have he344811 : F344807 (γ 9 17) = .inl (I .int, 2000, .inl f344735) := (n344809 (γ 9 17) (rn_ao he344734 he344737)).trans he344734
      have he344812 : F344807 q344683 = .inr (20, [.int p344738, .int p344739, .int p344740, .int z344805, .int p344742, .int p344743, .int p344744]) := e344808
      have hs344813 : rStr γ [1] F344681 F344807 := rStr_pu2 (rStr_rf (γ := γ) (W := [1]) (F := F344681)) n344809 htq344683 (by decide)
      have kp344814 : F344807 q344682 = F344681 q344682 := n344809 q344682 (rn_ty htq344682 htq344683 (by decide))
      have kp344815 : F344807 (γ 9 3) = F344681 (γ 9 3) := n344809 (γ 9 3) (rn_ty ht344710 htq344683 (by decide))
      have kp344816 : F344807 (γ 9 17) = F344681 (γ 9 17) := n344809 (γ 9 17) (rn_ty ht344718 htq344683 (by decide))
      have fq344817 : F344807 q344683 = cF (F344681 q344683) 3 (.int z344805) := by rw [he344812, he344737]; rfl
      refine G_aload_n 1 dr_cX17_coloured_40 rfl ?_
      have hT344818 : RS D I P344680 F344807 γ el := RS_set hT n344809 htq344683 (by decide) ⟨p344738, p344739, p344740, z344805, p344742, p344743, p344744, he344812, bp344738, bp344739, bp344742, bp344743, bp344744, (by omega), (by omega), (by omega), (by omega), (by omega)⟩
      have of344819 : ∀ b, b ≠ q344683 → F344807 b = F344681 b := fun b hb => n344809 b hb
      have fq344820 : fI (F344807 q344683) 0 = p344738 := by rw [he344812]; rfl
      refine Gw_callV (As := []) (gV_ok D I) (cp_222495_Row_sets l hl0 D I P344680 F344807 q344683 p344738 p344739 p344740 z344805 p344742 p344743 p344744 hm344736 he344812 bp344738 bp344739 bp344742 bp344743 bp344744) dr_cX17_coloured_41 ⟨wr_10_181, wr_1_39, wr_10_184, by decide, rfl, (Nat.le_of_ble_eq_true rfl), (Nat.le_of_ble_eq_true rfl)⟩ wr_10_182 wr_10_183 hm344736 he344812 rfl (show 0 + 0 ≤ 0 by first | omega | decide) (show 0 + 0 ≤ 0 by first | omega | decide) (Nat.le_of_ble_eq_true rfl) (fun r344824 w344825 dc344821 ds344822 hp344823 => ?_) (fun _ _ _ _ _ z => z.elim)
      obtain ⟨o344826, rfl, rfl, hdc, hds, bo344826, x344827, ht344828⟩ := hp344823
      change G _ _ _ _ _ _ _ (.int o344826 :: _) _ _ _
      refine G_widen (cs' := 0) (sl' := 0) (by omega) (by omega) ?_
      refine G_if_eq 60 dr_cX17_coloured_44 (by decide +kernel) (fun hc344829 => ?_) (fun hc344829 => ?_)
      · have r344830 : o344826.toInt = 0 := gj_eq hc344829 (show Int32.toInt 0 = 0 by decide)
        have bo344826' : gB o344826 0 0 := ⟨by omega, by omega⟩
        exact G_vretA dr_cX17_coloured_60 rfl (Nat.le_of_ble_eq_true rfl) (Nat.le_of_ble_eq_true rfl) ⟨F344807, rfl, rfl, hT344818, hs344813, (Nat.le_of_ble_eq_true rfl), (Nat.le_of_ble_eq_true rfl), of344819, kp344814, kp344815, kp344816, (fun R c1 c2 c3 c4 c5 c6 c7 c8 => c3 p344738 p344743 o344758 p344744 o344769 p344741 f344735 z344805 F344807 o344826 fq344751 fq344752 bo344758 ht344760 r344762 fq344763 bo344769 ht344771 r344802 fq344803 fq344804 he344734 hz344805 bz344805 n344809 fq344817 fq344820 bo344826 ht344828 r344830)⟩
      · have r344831 : o344826.toInt ≠ 0 := gj_neq hc344829 (show Int32.toInt 0 = 0 by decide)
        have bo344826' : gB o344826 1 1 := ⟨by omega, by omega⟩
        refine G_aload_n 1 dr_cX17_coloured_47 rfl ?_
        refine G_aload_n 0 dr_cX17_coloured_48 rfl ?_
        have fq344832 : fR (F344807 q344682) 17 = (γ 9 17) := by rw [he344810]; rfl
        refine Gp_get 17 hm344686 he344810 dr_cX17_coloured_49 (gk_X17 D I) (Nat.le_of_ble_eq_true rfl) wr_7_91 rfl ?_
        refine G_aload_n 1 dr_cX17_coloured_52 rfl ?_
        have fq344833 : fI (F344807 q344683) 1 = p344739 := by rw [he344812]; rfl
        refine Gp_get 1 hm344736 he344812 dr_cX17_coloured_53 (gk_X15 D I) (Nat.le_of_ble_eq_true rfl) wr_9_182 rfl ?_
        refine Gp_iald 0 hm344733 he344811 dr_cX17_coloured_56 rfl (gB_in bp344739 (by decide) (by decide)) (G_nam fun z344834 hz344834 => ?_)
        have bz344834 : gB z344834 (-1) 31 := by rw [hz344834]; exact bf344735 _
        have r344835 : 0 ≤ z344834.toInt := by rw [hz344834]; exact cq344750 _ (Or.inl ⟨by omega, rfl⟩)
        have bz344834' : gB z344834 0 31 := ⟨by omega, by omega⟩
        refine Gp_put 1 hm344736 he344812 dr_cX17_coloured_57 (gk_X15 D I) (Nat.le_of_ble_eq_true rfl) wr_9_182 rfl rfl rfl (Nat.le_of_ble_eq_true rfl) (fun F344836 e344837 n344838 => ?_)
        have he344839 : F344836 q344682 = .inr (22, [.ref (γ 9 0), .ref (γ 9 1), .ref (γ 9 2), .ref (γ 9 3), .ref (γ 9 4), .ref (γ 9 5), .ref (γ 9 6), .ref (γ 9 7), .ref (γ 9 8), .int p344690, .int p344691, .int p344692, .int p344693, .int p344694, .int p344695, .ref (γ 9 15), .ref (γ 9 16), .ref (γ 9 17), .ref (γ 9 18), .ref (γ 9 19), .ref (γ 9 20), .ref (γ 9 21), .ref (γ 9 22), .int p344696, .int p344697, .int p344698, .int p344699, .int p344700, .ref q344688, .ref (γ 9 29), .int p344701, .ref (γ 9 31), .int p344702, .int p344703, .int p344704, .ref q344689]) := (n344838 q344682 (rn_oo he344810 he344812 (by decide))).trans he344810
        have he344840 : F344836 (γ 9 17) = .inl (I .int, 2000, .inl f344735) := (n344838 (γ 9 17) (rn_ao he344811 he344812)).trans he344811
        have he344841 : F344836 q344683 = .inr (20, [.int p344738, .int z344834, .int p344740, .int z344805, .int p344742, .int p344743, .int p344744]) := e344837
        have hs344842 : rStr γ [1] F344681 F344836 := rStr_pu2 hs344813 n344838 htq344683 (by decide)
        have kp344843 : F344836 q344682 = F344681 q344682 := (n344838 q344682 (rn_ty htq344682 htq344683 (by decide))).trans kp344814
        have kp344844 : F344836 (γ 9 3) = F344681 (γ 9 3) := (n344838 (γ 9 3) (rn_ty ht344710 htq344683 (by decide))).trans kp344815
        have kp344845 : F344836 (γ 9 17) = F344681 (γ 9 17) := (n344838 (γ 9 17) (rn_ty ht344718 htq344683 (by decide))).trans kp344816
        have fq344846 : F344836 q344683 = cF (F344807 q344683) 1 (.int z344834) := by rw [he344841, he344812]; rfl
        have hT344847 : RS D I P344680 F344836 γ el := RS_set hT344818 n344838 htq344683 (by decide) ⟨p344738, z344834, p344740, z344805, p344742, p344743, p344744, he344841, bp344738, (gB_w bz344834' (by decide) (by decide)), bp344742, bp344743, bp344744, (by omega), (by omega), (by omega), (by omega), (by omega)⟩
        have of344848 : ∀ b, b ≠ q344683 → F344836 b = F344681 b := fun b hb => (n344838 b hb).trans (of344819 b hb)
        exact G_vretA dr_cX17_coloured_60 rfl (Nat.le_of_ble_eq_true rfl) (Nat.le_of_ble_eq_true rfl) ⟨F344836, rfl, rfl, hT344847, hs344842, (Nat.le_of_ble_eq_true rfl), (Nat.le_of_ble_eq_true rfl), of344848, kp344843, kp344844, kp344845, (fun R c1 c2 c3 c4 c5 c6 c7 c8 => c4 p344738 p344743 o344758 p344744 o344769 p344741 f344735 z344805 F344807 o344826 p344739 z344834 F344836 fq344751 fq344752 bo344758 ht344760 r344762 fq344763 bo344769 ht344771 r344802 fq344803 fq344804 he344734 hz344805 bz344805 n344809 fq344817 fq344820 bo344826 ht344828 r344831 fq344832 fq344833 he344811 hz344834 bz344834 n344838 fq344846)⟩
  · have r344849 : o344758.toInt ≠ 0 := gj_neq hc344761 (show Int32.toInt 0 = 0 by decide)
    have bo344758' : gB o344758 1 1 := ⟨by omega, by omega⟩
    refine G_aload_n 1 dr_cX17_coloured_7 rfl ?_
    refine G_aload_n 0 dr_cX17_coloured_8 rfl ?_
    have fq344850 : fR (F344681 q344682) 17 = (γ 9 17) := by rw [he344687]; rfl
    refine Gp_get 17 hm344686 he344687 dr_cX17_coloured_9 (gk_X17 D I) (Nat.le_of_ble_eq_true rfl) wr_7_91 rfl ?_
    refine G_aload_n 1 dr_cX17_coloured_12 rfl ?_
    have fq344851 : fI (F344681 q344683) 2 = p344740 := by rw [he344737]; rfl
    refine Gp_get 2 hm344736 he344737 dr_cX17_coloured_13 (gk_X15 D I) (Nat.le_of_ble_eq_true rfl) wr_9_186 rfl ?_
    refine Gp_iald 0 hm344733 he344734 dr_cX17_coloured_16 rfl (gB_inr (by omega) (by omega)) (G_nam fun z344852 hz344852 => ?_)
    have bz344852 : gB z344852 (-1) 31 := by rw [hz344852]; exact bf344735 _
    have r344853 : 0 ≤ z344852.toInt := by rw [hz344852]; exact cq344750 _ (Or.inr (Or.inl ⟨by omega, rfl⟩))
    have bz344852' : gB z344852 0 31 := ⟨by omega, by omega⟩
    refine Gp_put 2 hm344736 he344737 dr_cX17_coloured_17 (gk_X15 D I) (Nat.le_of_ble_eq_true rfl) wr_9_186 rfl rfl rfl (Nat.le_of_ble_eq_true rfl) (fun F344854 e344855 n344856 => ?_)
    have he344857 : F344854 q344682 = .inr (22, [.ref (γ 9 0), .ref (γ 9 1), .ref (γ 9 2), .ref (γ 9 3), .ref (γ 9 4), .ref (γ 9 5), .ref (γ 9 6), .ref (γ 9 7), .ref (γ 9 8), .int p344690, .int p344691, .int p344692, .int p344693, .int p344694, .int p344695, .ref (γ 9 15), .ref (γ 9 16), .ref (γ 9 17), .ref (γ 9 18), .ref (γ 9 19), .ref (γ 9 20), .ref (γ 9 21), .ref (γ 9 22), .int p344696, .int p344697, .int p344698, .int p344699, .int p344700, .ref q344688, .ref (γ 9 29), .int p344701, .ref (γ 9 31), .int p344702, .int p344703, .int p344704, .ref q344689]) := (n344856 q344682 (rn_oo he344687 he344737 (by decide))).trans he344687
    have he344858 : F344854 (γ 9 17) = .inl (I .int, 2000, .inl f344735) := (n344856 (γ 9 17) (rn_ao he344734 he344737)).trans he344734
    have he344859 : F344854 q344683 = .inr (20, [.int p344738, .int p344739, .int z344852, .int p344741, .int p344742, .int p344743, .int p344744]) := e344855
    have hs344860 : rStr γ [1] F344681 F344854 := rStr_pu2 (rStr_rf (γ := γ) (W := [1]) (F := F344681)) n344856 htq344683 (by decide)
    have kp344861 : F344854 q344682 = F344681 q344682 := n344856 q344682 (rn_ty htq344682 htq344683 (by decide))
    have kp344862 : F344854 (γ 9 3) = F344681 (γ 9 3) := n344856 (γ 9 3) (rn_ty ht344710 htq344683 (by decide))
    have kp344863 : F344854 (γ 9 17) = F344681 (γ 9 17) := n344856 (γ 9 17) (rn_ty ht344718 htq344683 (by decide))
    have fq344864 : F344854 q344683 = cF (F344681 q344683) 2 (.int z344852) := by rw [he344859, he344737]; rfl
    refine G_aload_n 1 dr_cX17_coloured_20 rfl ?_
    have hT344865 : RS D I P344680 F344854 γ el := RS_set hT n344856 htq344683 (by decide) ⟨p344738, p344739, z344852, p344741, p344742, p344743, p344744, he344859, bp344738, bp344739, bp344742, bp344743, bp344744, (by omega), (by omega), (by omega), (by omega), (by omega)⟩
    have of344866 : ∀ b, b ≠ q344683 → F344854 b = F344681 b := fun b hb => n344856 b hb
    have fq344867 : fI (F344854 q344683) 0 = p344738 := by rw [he344859]; rfl
    have fq344868 : fI (F344854 q344683) 6 = p344744 := by rw [he344859]; rfl
    refine Gw_callV (As := []) (gV_ok D I) (cp_222474_Row_usesB l hl0 D I P344680 F344854 q344683 p344738 p344739 z344852 p344741 p344742 p344743 p344744 hm344736 he344859 bp344738 bp344739 bp344742 bp344743 bp344744) dr_cX17_coloured_21 ⟨wr_10_196, wr_1_39, wr_10_199, by decide, rfl, (Nat.le_of_ble_eq_true rfl), (Nat.le_of_ble_eq_true rfl)⟩ wr_10_197 wr_10_198 hm344736 he344859 rfl (show 0 + 0 ≤ 0 by first | omega | decide) (show 0 + 0 ≤ 0 by first | omega | decide) (Nat.le_of_ble_eq_true rfl) (fun r344872 w344873 dc344869 ds344870 hp344871 => ?_) (fun _ _ _ _ _ z => z.elim)
    obtain ⟨o344874, rfl, rfl, hdc, hds, bo344874, x344875, ht344876⟩ := hp344871
    change G _ _ _ _ _ _ _ (.int o344874 :: _) _ _ _
    refine G_widen (cs' := 0) (sl' := 0) (by omega) (by omega) ?_
    refine G_if_eq 40 dr_cX17_coloured_24 (by decide +kernel) (fun hc344877 => ?_) (fun hc344877 => ?_)
    · have r344878 : o344874.toInt = 0 := gj_eq hc344877 (show Int32.toInt 0 = 0 by decide)
      have bo344874' : gB o344874 0 0 := ⟨by omega, by omega⟩
      refine G_aload_n 1 dr_cX17_coloured_40 rfl ?_
      refine Gw_callV (As := []) (gV_ok D I) (cp_222495_Row_sets l hl0 D I P344680 F344854 q344683 p344738 p344739 z344852 p344741 p344742 p344743 p344744 hm344736 he344859 bp344738 bp344739 bp344742 bp344743 bp344744) dr_cX17_coloured_41 ⟨wr_10_181, wr_1_39, wr_10_184, by decide, rfl, (Nat.le_of_ble_eq_true rfl), (Nat.le_of_ble_eq_true rfl)⟩ wr_10_182 wr_10_183 hm344736 he344859 rfl (show 0 + 0 ≤ 0 by first | omega | decide) (show 0 + 0 ≤ 0 by first | omega | decide) (Nat.le_of_ble_eq_true rfl) (fun r344882 w344883 dc344879 ds344880 hp344881 => ?_) (fun _ _ _ _ _ z => z.elim)
      obtain ⟨o344884, rfl, rfl, hdc, hds, bo344884, x344885, ht344886⟩ := hp344881
      change G _ _ _ _ _ _ _ (.int o344884 :: _) _ _ _
      refine G_widen (cs' := 0) (sl' := 0) (by omega) (by omega) ?_
      refine G_if_eq 60 dr_cX17_coloured_44 (by decide +kernel) (fun hc344887 => ?_) (fun hc344887 => ?_)
      · have r344888 : o344884.toInt = 0 := gj_eq hc344887 (show Int32.toInt 0 = 0 by decide)
        have bo344884' : gB o344884 0 0 := ⟨by omega, by omega⟩
        exact G_vretA dr_cX17_coloured_60 rfl (Nat.le_of_ble_eq_true rfl) (Nat.le_of_ble_eq_true rfl) ⟨F344854, rfl, rfl, hT344865, hs344860, (Nat.le_of_ble_eq_true rfl), (Nat.le_of_ble_eq_true rfl), of344866, kp344861, kp344862, kp344863, (fun R c1 c2 c3 c4 c5 c6 c7 c8 => c5 p344738 p344743 o344758 p344740 f344735 z344852 F344854 p344744 o344874 o344884 fq344751 fq344752 bo344758 ht344760 r344849 fq344850 fq344851 he344734 hz344852 bz344852 n344856 fq344864 fq344867 fq344868 bo344874 ht344876 r344878 bo344884 ht344886 r344888)⟩
      · have r344889 : o344884.toInt ≠ 0 := gj_neq hc344887 (show Int32.toInt 0 = 0 by decide)
        have bo344884' : gB o344884 1 1 := ⟨by omega, by omega⟩
        refine G_aload_n 1 dr_cX17_coloured_47 rfl ?_
        refine G_aload_n 0 dr_cX17_coloured_48 rfl ?_
        have fq344890 : fR (F344854 q344682) 17 = (γ 9 17) := by rw [he344857]; rfl
        refine Gp_get 17 hm344686 he344857 dr_cX17_coloured_49 (gk_X17 D I) (Nat.le_of_ble_eq_true rfl) wr_7_91 rfl ?_
        refine G_aload_n 1 dr_cX17_coloured_52 rfl ?_
        have fq344891 : fI (F344854 q344683) 1 = p344739 := by rw [he344859]; rfl
        refine Gp_get 1 hm344736 he344859 dr_cX17_coloured_53 (gk_X15 D I) (Nat.le_of_ble_eq_true rfl) wr_9_182 rfl ?_
        refine Gp_iald 0 hm344733 he344858 dr_cX17_coloured_56 rfl (gB_in bp344739 (by decide) (by decide)) (G_nam fun z344892 hz344892 => ?_)
        have bz344892 : gB z344892 (-1) 31 := by rw [hz344892]; exact bf344735 _
        have r344893 : 0 ≤ z344892.toInt := by rw [hz344892]; exact cq344750 _ (Or.inl ⟨by omega, rfl⟩)
        have bz344892' : gB z344892 0 31 := ⟨by omega, by omega⟩
        refine Gp_put 1 hm344736 he344859 dr_cX17_coloured_57 (gk_X15 D I) (Nat.le_of_ble_eq_true rfl) wr_9_182 rfl rfl rfl (Nat.le_of_ble_eq_true rfl) (fun F344894 e344895 n344896 => ?_)
        have he344897 : F344894 q344682 = .inr (22, [.ref (γ 9 0), .ref (γ 9 1), .ref (γ 9 2), .ref (γ 9 3), .ref (γ 9 4), .ref (γ 9 5), .ref (γ 9 6), .ref (γ 9 7), .ref (γ 9 8), .int p344690, .int p344691, .int p344692, .int p344693, .int p344694, .int p344695, .ref (γ 9 15), .ref (γ 9 16), .ref (γ 9 17), .ref (γ 9 18), .ref (γ 9 19), .ref (γ 9 20), .ref (γ 9 21), .ref (γ 9 22), .int p344696, .int p344697, .int p344698, .int p344699, .int p344700, .ref q344688, .ref (γ 9 29), .int p344701, .ref (γ 9 31), .int p344702, .int p344703, .int p344704, .ref q344689]) := (n344896 q344682 (rn_oo he344857 he344859 (by decide))).trans he344857
        have he344898 : F344894 (γ 9 17) = .inl (I .int, 2000, .inl f344735) := (n344896 (γ 9 17) (rn_ao he344858 he344859)).trans he344858
        have he344899 : F344894 q344683 = .inr (20, [.int p344738, .int z344892, .int z344852, .int p344741, .int p344742, .int p344743, .int p344744]) := e344895
        have hs344900 : rStr γ [1] F344681 F344894 := rStr_pu2 hs344860 n344896 htq344683 (by decide)
        have kp344901 : F344894 q344682 = F344681 q344682 := (n344896 q344682 (rn_ty htq344682 htq344683 (by decide))).trans kp344861
        have kp344902 : F344894 (γ 9 3) = F344681 (γ 9 3) := (n344896 (γ 9 3) (rn_ty ht344710 htq344683 (by decide))).trans kp344862
        have kp344903 : F344894 (γ 9 17) = F344681 (γ 9 17) := (n344896 (γ 9 17) (rn_ty ht344718 htq344683 (by decide))).trans kp344863
        have fq344904 : F344894 q344683 = cF (F344854 q344683) 1 (.int z344892) := by rw [he344899, he344859]; rfl
        have hT344905 : RS D I P344680 F344894 γ el := RS_set hT344865 n344896 htq344683 (by decide) ⟨p344738, z344892, z344852, p344741, p344742, p344743, p344744, he344899, bp344738, (gB_w bz344892' (by decide) (by decide)), bp344742, bp344743, bp344744, (by omega), (by omega), (by omega), (by omega), (by omega)⟩
        have of344906 : ∀ b, b ≠ q344683 → F344894 b = F344681 b := fun b hb => (n344896 b hb).trans (of344866 b hb)
        exact G_vretA dr_cX17_coloured_60 rfl (Nat.le_of_ble_eq_true rfl) (Nat.le_of_ble_eq_true rfl) ⟨F344894, rfl, rfl, hT344905, hs344900, (Nat.le_of_ble_eq_true rfl), (Nat.le_of_ble_eq_true rfl), of344906, kp344901, kp344902, kp344903, (fun R c1 c2 c3 c4 c5 c6 c7 c8 => c6 p344738 p344743 o344758 p344740 f344735 z344852 F344854 p344744 o344874 o344884 p344739 z344892 F344894 fq344751 fq344752 bo344758 ht344760 r344849 fq344850 fq344851 he344734 hz344852 bz344852 n344856 fq344864 fq344867 fq344868 bo344874 ht344876 r344878 bo344884 ht344886 r344889 fq344890 fq344891 he344858 hz344892 bz344892 n344896 fq344904)⟩
    · have r344907 : o344874.toInt ≠ 0 := gj_neq hc344877 (show Int32.toInt 0 = 0 by decide)
      have bo344874' : gB o344874 1 1 := ⟨by omega, by omega⟩
      refine G_aload_n 1 dr_cX17_coloured_27 rfl ?_
      refine G_aload_n 0 dr_cX17_coloured_28 rfl ?_
      have fq344908 : fR (F344854 q344682) 17 = (γ 9 17) := by rw [he344857]; rfl
      refine Gp_get 17 hm344686 he344857 dr_cX17_coloured_29 (gk_X17 D I) (Nat.le_of_ble_eq_true rfl) wr_7_91 rfl ?_
      refine G_aload_n 1 dr_cX17_coloured_32 rfl ?_
      have fq344909 : fI (F344854 q344683) 3 = p344741 := by rw [he344859]; rfl
      refine Gp_get 3 hm344736 he344859 dr_cX17_coloured_33 (gk_X15 D I) (Nat.le_of_ble_eq_true rfl) wr_9_190 rfl ?_
      refine Gp_iald 0 hm344733 he344858 dr_cX17_coloured_36 rfl (gB_inr (by omega) (by omega)) (G_nam fun z344910 hz344910 => ?_)
      have bz344910 : gB z344910 (-1) 31 := by rw [hz344910]; exact bf344735 _
      have r344911 : 0 ≤ z344910.toInt := by rw [hz344910]; exact cq344750 _ (Or.inr (Or.inr ⟨by omega, rfl⟩))
      have bz344910' : gB z344910 0 31 := ⟨by omega, by omega⟩
      refine Gp_put 3 hm344736 he344859 dr_cX17_coloured_37 (gk_X15 D I) (Nat.le_of_ble_eq_true rfl) wr_9_190 rfl rfl rfl (Nat.le_of_ble_eq_true rfl) (fun F344912 e344913 n344914 => ?_)
      have he344915 : F344912 q344682 = .inr (22, [.ref (γ 9 0), .ref (γ 9 1), .ref (γ 9 2), .ref (γ 9 3), .ref (γ 9 4), .ref (γ 9 5), .ref (γ 9 6), .ref (γ 9 7), .ref (γ 9 8), .int p344690, .int p344691, .int p344692, .int p344693, .int p344694, .int p344695, .ref (γ 9 15), .ref (γ 9 16), .ref (γ 9 17), .ref (γ 9 18), .ref (γ 9 19), .ref (γ 9 20), .ref (γ 9 21), .ref (γ 9 22), .int p344696, .int p344697, .int p344698, .int p344699, .int p344700, .ref q344688, .ref (γ 9 29), .int p344701, .ref (γ 9 31), .int p344702, .int p344703, .int p344704, .ref q344689]) := (n344914 q344682 (rn_oo he344857 he344859 (by decide))).trans he344857
      have he344916 : F344912 (γ 9 17) = .inl (I .int, 2000, .inl f344735) := (n344914 (γ 9 17) (rn_ao he344858 he344859)).trans he344858
      have he344917 : F344912 q344683 = .inr (20, [.int p344738, .int p344739, .int z344852, .int z344910, .int p344742, .int p344743, .int p344744]) := e344913
      have hs344918 : rStr γ [1] F344681 F344912 := rStr_pu2 hs344860 n344914 htq344683 (by decide)
      have kp344919 : F344912 q344682 = F344681 q344682 := (n344914 q344682 (rn_ty htq344682 htq344683 (by decide))).trans kp344861
      have kp344920 : F344912 (γ 9 3) = F344681 (γ 9 3) := (n344914 (γ 9 3) (rn_ty ht344710 htq344683 (by decide))).trans kp344862
      have kp344921 : F344912 (γ 9 17) = F344681 (γ 9 17) := (n344914 (γ 9 17) (rn_ty ht344718 htq344683 (by decide))).trans kp344863
      have fq344922 : F344912 q344683 = cF (F344854 q344683) 3 (.int z344910) := by rw [he344917, he344859]; rfl
      refine G_aload_n 1 dr_cX17_coloured_40 rfl ?_
      have hT344923 : RS D I P344680 F344912 γ el := RS_set hT344865 n344914 htq344683 (by decide) ⟨p344738, p344739, z344852, z344910, p344742, p344743, p344744, he344917, bp344738, bp344739, bp344742, bp344743, bp344744, (by omega), (by omega), (by omega), (by omega), (by omega)⟩
      have of344924 : ∀ b, b ≠ q344683 → F344912 b = F344681 b := fun b hb => (n344914 b hb).trans (of344866 b hb)
      have fq344925 : fI (F344912 q344683) 0 = p344738 := by rw [he344917]; rfl
      refine Gw_callV (As := []) (gV_ok D I) (cp_222495_Row_sets l hl0 D I P344680 F344912 q344683 p344738 p344739 z344852 z344910 p344742 p344743 p344744 hm344736 he344917 bp344738 bp344739 bp344742 bp344743 bp344744) dr_cX17_coloured_41 ⟨wr_10_181, wr_1_39, wr_10_184, by decide, rfl, (Nat.le_of_ble_eq_true rfl), (Nat.le_of_ble_eq_true rfl)⟩ wr_10_182 wr_10_183 hm344736 he344917 rfl (show 0 + 0 ≤ 0 by first | omega | decide) (show 0 + 0 ≤ 0 by first | omega | decide) (Nat.le_of_ble_eq_true rfl) (fun r344929 w344930 dc344926 ds344927 hp344928 => ?_) (fun _ _ _ _ _ z => z.elim)
      obtain ⟨o344931, rfl, rfl, hdc, hds, bo344931, x344932, ht344933⟩ := hp344928
      change G _ _ _ _ _ _ _ (.int o344931 :: _) _ _ _
      refine G_widen (cs' := 0) (sl' := 0) (by omega) (by omega) ?_
      refine G_if_eq 60 dr_cX17_coloured_44 (by decide +kernel) (fun hc344934 => ?_) (fun hc344934 => ?_)
      · have r344935 : o344931.toInt = 0 := gj_eq hc344934 (show Int32.toInt 0 = 0 by decide)
        have bo344931' : gB o344931 0 0 := ⟨by omega, by omega⟩
        exact G_vretA dr_cX17_coloured_60 rfl (Nat.le_of_ble_eq_true rfl) (Nat.le_of_ble_eq_true rfl) ⟨F344912, rfl, rfl, hT344923, hs344918, (Nat.le_of_ble_eq_true rfl), (Nat.le_of_ble_eq_true rfl), of344924, kp344919, kp344920, kp344921, (fun R c1 c2 c3 c4 c5 c6 c7 c8 => c7 p344738 p344743 o344758 p344740 f344735 z344852 F344854 p344744 o344874 p344741 z344910 F344912 o344931 fq344751 fq344752 bo344758 ht344760 r344849 fq344850 fq344851 he344734 hz344852 bz344852 n344856 fq344864 fq344867 fq344868 bo344874 ht344876 r344907 fq344908 fq344909 he344858 hz344910 bz344910 n344914 fq344922 fq344925 bo344931 ht344933 r344935)⟩
      · have r344936 : o344931.toInt ≠ 0 := gj_neq hc344934 (show Int32.toInt 0 = 0 by decide)
        have bo344931' : gB o344931 1 1 := ⟨by omega, by omega⟩
        refine G_aload_n 1 dr_cX17_coloured_47 rfl ?_
        refine G_aload_n 0 dr_cX17_coloured_48 rfl ?_
        have fq344937 : fR (F344912 q344682) 17 = (γ 9 17) := by rw [he344915]; rfl
        refine Gp_get 17 hm344686 he344915 dr_cX17_coloured_49 (gk_X17 D I) (Nat.le_of_ble_eq_true rfl) wr_7_91 rfl ?_
        refine G_aload_n 1 dr_cX17_coloured_52 rfl ?_
        have fq344938 : fI (F344912 q344683) 1 = p344739 := by rw [he344917]; rfl
        refine Gp_get 1 hm344736 he344917 dr_cX17_coloured_53 (gk_X15 D I) (Nat.le_of_ble_eq_true rfl) wr_9_182 rfl ?_
        refine Gp_iald 0 hm344733 he344916 dr_cX17_coloured_56 rfl (gB_in bp344739 (by decide) (by decide)) (G_nam fun z344939 hz344939 => ?_)
        have bz344939 : gB z344939 (-1) 31 := by rw [hz344939]; exact bf344735 _
        have r344940 : 0 ≤ z344939.toInt := by rw [hz344939]; exact cq344750 _ (Or.inl ⟨by omega, rfl⟩)
        have bz344939' : gB z344939 0 31 := ⟨by omega, by omega⟩
        refine Gp_put 1 hm344736 he344917 dr_cX17_coloured_57 (gk_X15 D I) (Nat.le_of_ble_eq_true rfl) wr_9_182 rfl rfl rfl (Nat.le_of_ble_eq_true rfl) (fun F344941 e344942 n344943 => ?_)
        have he344944 : F344941 q344682 = .inr (22, [.ref (γ 9 0), .ref (γ 9 1), .ref (γ 9 2), .ref (γ 9 3), .ref (γ 9 4), .ref (γ 9 5), .ref (γ 9 6), .ref (γ 9 7), .ref (γ 9 8), .int p344690, .int p344691, .int p344692, .int p344693, .int p344694, .int p344695, .ref (γ 9 15), .ref (γ 9 16), .ref (γ 9 17), .ref (γ 9 18), .ref (γ 9 19), .ref (γ 9 20), .ref (γ 9 21), .ref (γ 9 22), .int p344696, .int p344697, .int p344698, .int p344699, .int p344700, .ref q344688, .ref (γ 9 29), .int p344701, .ref (γ 9 31), .int p344702, .int p344703, .int p344704, .ref q344689]) := (n344943 q344682 (rn_oo he344915 he344917 (by decide))).trans he344915
        have he344945 : F344941 (γ 9 17) = .inl (I .int, 2000, .inl f344735) := (n344943 (γ 9 17) (rn_ao he344916 he344917)).trans he344916
        have he344946 : F344941 q344683 = .inr (20, [.int p344738, .int z344939, .int z344852, .int z344910, .int p344742, .int p344743, .int p344744]) := e344942
        have hs344947 : rStr γ [1] F344681 F344941 := rStr_pu2 hs344918 n344943 htq344683 (by decide)
        have kp344948 : F344941 q344682 = F344681 q344682 := (n344943 q344682 (rn_ty htq344682 htq344683 (by decide))).trans kp344919
        have kp344949 : F344941 (γ 9 3) = F344681 (γ 9 3) := (n344943 (γ 9 3) (rn_ty ht344710 htq344683 (by decide))).trans kp344920
        have kp344950 : F344941 (γ 9 17) = F344681 (γ 9 17) := (n344943 (γ 9 17) (rn_ty ht344718 htq344683 (by decide))).trans kp344921
        have fq344951 : F344941 q344683 = cF (F344912 q344683) 1 (.int z344939) := by rw [he344946, he344917]; rfl
        have hT344952 : RS D I P344680 F344941 γ el := RS_set hT344923 n344943 htq344683 (by decide) ⟨p344738, z344939, z344852, z344910, p344742, p344743, p344744, he344946, bp344738, (gB_w bz344939' (by decide) (by decide)), bp344742, bp344743, bp344744, (by omega), (by omega), (by omega), (by omega), (by omega)⟩
        have of344953 : ∀ b, b ≠ q344683 → F344941 b = F344681 b := fun b hb => (n344943 b hb).trans (of344924 b hb)
        exact G_vretA dr_cX17_coloured_60 rfl (Nat.le_of_ble_eq_true rfl) (Nat.le_of_ble_eq_true rfl) ⟨F344941, rfl, rfl, hT344952, hs344947, (Nat.le_of_ble_eq_true rfl), (Nat.le_of_ble_eq_true rfl), of344953, kp344948, kp344949, kp344950, (fun R c1 c2 c3 c4 c5 c6 c7 c8 => c8 p344738 p344743 o344758 p344740 f344735 z344852 F344854 p344744 o344874 p344741 z344910 F344912 o344931 p344739 z344939 F344941 fq344751 fq344752 bo344758 ht344760 r344849 fq344850 fq344851 he344734 hz344852 bz344852 n344856 fq344864 fq344867 fq344868 bo344874 ht344876 r344907 fq344908 fq344909 he344858 hz344910 bz344910 n344914 fq344922 fq344925 bo344931 ht344933 r344936 fq344937 fq344938 he344916 hz344939 bz344939 n344943 fq344951)⟩
/- tl_RModel_share_171: F, l5; out: F -/
def tl_RModel_share_171 (D : va_G) (I : FieldType → ClassId) (γ el : Nat → Nat → Nat) (P : List Nat) (F : Nat → va_E) (q1 : Nat) (q0 : Nat) (c1 : Nat) (s1 : Nat → va_E) (s2 : Int32) (k : Nat) (e1 : Nat → va_E) : Prop := ∀ R : (Nat → va_E) → (Int32) → Nat → (Nat → va_E) → Prop,
  (∀ (F_2 : Nat → va_E) (l5_2 : Int32) (x1 : Nat) (x2 : Int32), gB l5_2 0 1000000 → RS D I P F_2 γ el → rStr γ [1] F F_2 → ((∀ q : Nat, (q : Int) < ((γ 7 (γ 1 q1) : Nat) : Int) → 0 ≤ (cB (F_2 (γ 9 19)) q).toInt ∧ (cB (F_2 (γ 9 19)) q).toInt ≤ q)) → (F_2 q0 = F q0) → rFs γ (γ 1 q1) F F_2 → mKp (F q0) (F_2 q0) → fR (F_2 c1) 0 = x1 → x2.toInt = (γ 2 x1 : Int) → fI (F_2 x1) 2 = x2 → x2.toInt ≤ l5_2.toInt → R F_2 l5_2 240 F_2) →
  (∀ (F_2 : Nat → va_E) (l5_2 : Int32) (x1 : Nat) (x2 : Int32) (x3 : Nat) (x4 : Int32) (x5 : Int32) (x6 : Nat → Int32) (x7 : Int32) (x8 : Nat → va_E) (x9 : Int32) (k : Nat) (e1 : Nat → va_E), gB l5_2 0 1000000 → RS D I P F_2 γ el → rStr γ [1] F F_2 → ((∀ q : Nat, (q : Int) < ((γ 7 (γ 1 q1) : Nat) : Int) → 0 ≤ (cB (F_2 (γ 9 19)) q).toInt ∧ (cB (F_2 (γ 9 19)) q).toInt ≤ q)) → (F_2 q0 = F q0) → rFs γ (γ 1 q1) F F_2 → mKp (F q0) (F_2 q0) → fR (F_2 c1) 0 = x1 → x2.toInt = (γ 2 x1 : Int) → fI (F_2 x1) 2 = x2 → l5_2.toInt < x2.toInt → x3 = el x1 l5_2.toInt.toNat → tr_RArrayList_get l5_2 x2 → fI (F_2 x3) 0 = x4 → x4.toInt = 21 → fR (F_2 q0) 19 = (γ 9 19) → fI (F_2 x3) 4 = x5 → F_2 (γ 9 19) = .inl (I .int, 2000, .inl x6) → x7 = x6 x5.toNatClampNeg → gB x7 (-1) 1999 → (∀ b, b ≠ x3 → x8 b = F_2 b) → x8 x3 = cF (F_2 x3) 4 (.int x7) → x9.toInt = l5_2.toInt + 1 → R x8 x9 k e1 → R F_2 l5_2 k e1) →
  (∀ (F_2 : Nat → va_E) (l5_2 : Int32) (x1 : Nat) (x2 : Int32) (x3 : Nat) (x4 : Int32) (x5 : Int32) (k : Nat) (e1 : Nat → va_E), gB l5_2 0 1000000 → RS D I P F_2 γ el → rStr γ [1] F F_2 → ((∀ q : Nat, (q : Int) < ((γ 7 (γ 1 q1) : Nat) : Int) → 0 ≤ (cB (F_2 (γ 9 19)) q).toInt ∧ (cB (F_2 (γ 9 19)) q).toInt ≤ q)) → (F_2 q0 = F q0) → rFs γ (γ 1 q1) F F_2 → mKp (F q0) (F_2 q0) → fR (F_2 c1) 0 = x1 → x2.toInt = (γ 2 x1 : Int) → fI (F_2 x1) 2 = x2 → l5_2.toInt < x2.toInt → x3 = el x1 l5_2.toInt.toNat → tr_RArrayList_get l5_2 x2 → fI (F_2 x3) 0 = x4 → x4.toInt ≠ 21 → x4.toInt ≠ 23 → x5.toInt = l5_2.toInt + 1 → R F_2 x5 k e1 → R F_2 l5_2 k e1) →
  (∀ (F_2 : Nat → va_E) (l5_2 : Int32) (x1 : Nat) (x2 : Int32) (x3 : Nat) (x4 : Int32) (x5 : Int32) (x6 : Nat → Int32) (x7 : Int32) (x8 : Nat → va_E) (x9 : Int32) (k : Nat) (e1 : Nat → va_E), gB l5_2 0 1000000 → RS D I P F_2 γ el → rStr γ [1] F F_2 → ((∀ q : Nat, (q : Int) < ((γ 7 (γ 1 q1) : Nat) : Int) → 0 ≤ (cB (F_2 (γ 9 19)) q).toInt ∧ (cB (F_2 (γ 9 19)) q).toInt ≤ q)) → (F_2 q0 = F q0) → rFs γ (γ 1 q1) F F_2 → mKp (F q0) (F_2 q0) → fR (F_2 c1) 0 = x1 → x2.toInt = (γ 2 x1 : Int) → fI (F_2 x1) 2 = x2 → l5_2.toInt < x2.toInt → x3 = el x1 l5_2.toInt.toNat → tr_RArrayList_get l5_2 x2 → fI (F_2 x3) 0 = x4 → x4.toInt ≠ 21 → x4.toInt = 23 → fR (F_2 q0) 19 = (γ 9 19) → fI (F_2 x3) 4 = x5 → F_2 (γ 9 19) = .inl (I .int, 2000, .inl x6) → x7 = x6 x5.toNatClampNeg → gB x7 (-1) 1999 → (∀ b, b ≠ x3 → x8 b = F_2 b) → x8 x3 = cF (F_2 x3) 4 (.int x7) → x9.toInt = l5_2.toInt + 1 → R x8 x9 k e1 → R F_2 l5_2 k e1) →
  R s1 s2 k e1
/- tl_RModel_share_153: F, l3; out: F -/
def tl_RModel_share_153 (D : va_G) (I : FieldType → ClassId) (γ el : Nat → Nat → Nat) (P : List Nat) (F : Nat → va_E) (q1 : Nat) (q0 : Nat) (s1 : Nat → va_E) (s2 : Int32) (k : Nat) (e1 : Nat → va_E) : Prop := ∀ R : (Nat → va_E) → (Int32) → Nat → (Nat → va_E) → Prop,
  (∀ (F_1 : Nat → va_E) (l3_1 : Int32) (x1 : Int32), gB l3_1 0 1000000 → RS D I P F_1 γ el → rStr γ [1] F F_1 → ((∀ q : Nat, (q : Int) < ((γ 7 (γ 1 q1) : Nat) : Int) → 0 ≤ (cB (F_1 (γ 9 19)) q).toInt ∧ (cB (F_1 (γ 9 19)) q).toInt ≤ q)) → (F_1 q0 = F q0) → rFs γ (γ 1 q1) F F_1 → mKp (F q0) (F_1 q0) → fI (F_1 q1) 3 = x1 → x1.toInt ≤ l3_1.toInt → R F_1 l3_1 246 F_1) →
  (∀ (F_1 : Nat → va_E) (l3_1 : Int32) (x1 : Int32) (x2 : Nat) (x3 : Nat) (x4 : Int32) (x5 : Nat → va_E) (x6 : Int32) (k : Nat) (e1 : Nat → va_E), gB l3_1 0 1000000 → RS D I P F_1 γ el → rStr γ [1] F F_1 → ((∀ q : Nat, (q : Int) < ((γ 7 (γ 1 q1) : Nat) : Int) → 0 ≤ (cB (F_1 (γ 9 19)) q).toInt ∧ (cB (F_1 (γ 9 19)) q).toInt ≤ q)) → (F_1 q0 = F q0) → rFs γ (γ 1 q1) F F_1 → mKp (F q0) (F_1 q0) → fI (F_1 q1) 3 = x1 → l3_1.toInt < x1.toInt → fR (F_1 q1) 0 = x2 → x3 = el x2 l3_1.toInt.toNat → fI (F_1 x2) 2 = x4 → tr_RCode_get l3_1 x4 → tl_RModel_share_171 D I γ el P F q1 q0 x3 F_1 (0 : Int32) 240 x5 → x6.toInt = l3_1.toInt + 1 → R x5 x6 k e1 → R F_1 l3_1 k e1) →
  R s1 s2 k e1
/- tl_RModel_share_96: l4; out: l4 -/
def tl_RModel_share_96 (D : va_G) (I : FieldType → ClassId) (γ el : Nat → Nat → Nat) (l3_1 : Int32) (F_2 : Nat → va_E) (q0 : Nat) (s1 : Int32) (k : Nat) (e1 : Int32) : Prop := ∀ R : (Int32) → Nat → (Int32) → Prop,
  (∀ (l4_2 : Int32), gB l4_2 0 99 → ((∀ q : Nat, (q : Int) < l3_1.toInt → 0 ≤ (cB (F_2 (γ 9 19)) q).toInt ∧ (cB (F_2 (γ 9 19)) q).toInt ≤ q)) → (l4_2.toInt ≤ l3_1.toInt) → l3_1.toInt ≤ l4_2.toInt → R l4_2 119 l4_2) →
  (∀ (l4_2 : Int32) (x1 : Nat → Int32) (x2 : Int32), gB l4_2 0 99 → ((∀ q : Nat, (q : Int) < l3_1.toInt → 0 ≤ (cB (F_2 (γ 9 19)) q).toInt ∧ (cB (F_2 (γ 9 19)) q).toInt ≤ q)) → (l4_2.toInt ≤ l3_1.toInt) → l4_2.toInt < l3_1.toInt → fR (F_2 q0) 16 = (γ 9 16) → F_2 (γ 9 16) = .inl (I .int, 2000, .inl x1) → x2 = x1 l4_2.toNatClampNeg → x2.toInt ≠ 1 → R l4_2 119 l4_2) →
  (∀ (l4_2 : Int32) (x1 : Nat → Int32) (x2 : Int32) (x3 : Int32) (k : Nat) (e1 : Int32), gB l4_2 0 99 → ((∀ q : Nat, (q : Int) < l3_1.toInt → 0 ≤ (cB (F_2 (γ 9 19)) q).toInt ∧ (cB (F_2 (γ 9 19)) q).toInt ≤ q)) → (l4_2.toInt ≤ l3_1.toInt) → l4_2.toInt < l3_1.toInt → fR (F_2 q0) 16 = (γ 9 16) → F_2 (γ 9 16) = .inl (I .int, 2000, .inl x1) → x2 = x1 l4_2.toNatClampNeg → x2.toInt = 1 → x3.toInt = l4_2.toInt + 1 → R x3 k e1 → R l4_2 k e1) →
  R s1 k e1
/- tl_RModel_share_47: F, l5; out: F -/
def tl_RModel_share_47 (D : va_G) (I : FieldType → ClassId) (γ el : Nat → Nat → Nat) (P : List Nat) (F : Nat → va_E) (l3_1 : Int32) (q0 : Nat) (q1 : Nat) (s1 : Nat → va_E) (s2 : Int32) (k : Nat) (e1 : Nat → va_E) : Prop := ∀ R : (Nat → va_E) → (Int32) → Nat → (Nat → va_E) → Prop,
  (∀ (F_2 : Nat → va_E) (l5_2 : Int32), gB l5_2 0 99 → RS D I P F_2 γ el → rStr γ [1] F F_2 → ((∀ q : Nat, (q : Int) < l3_1.toInt → 0 ≤ (cB (F_2 (γ 9 19)) q).toInt ∧ (cB (F_2 (γ 9 19)) q).toInt ≤ q)) → (F_2 q0 = F q0) → rFs γ (γ 1 q1) F F_2 → mKp (F q0) (F_2 q0) → l3_1.toInt ≤ l5_2.toInt → R F_2 l5_2 96 F_2) →
  (∀ (F_2 : Nat → va_E) (l5_2 : Int32) (x1 : Nat → Int32) (x2 : Int32) (x3 : Int32) (k : Nat) (e1 : Nat → va_E), gB l5_2 0 99 → RS D I P F_2 γ el → rStr γ [1] F F_2 → ((∀ q : Nat, (q : Int) < l3_1.toInt → 0 ≤ (cB (F_2 (γ 9 19)) q).toInt ∧ (cB (F_2 (γ 9 19)) q).toInt ≤ q)) → (F_2 q0 = F q0) → rFs γ (γ 1 q1) F F_2 → mKp (F q0) (F_2 q0) → l5_2.toInt < l3_1.toInt → fR (F_2 q0) 3 = (γ 9 3) → F_2 (γ 9 3) = .inl (I .boolean, 2000, .inl x1) → x2 = x1 l5_2.toNatClampNeg → gB x2 0 1 → x2.toInt = 0 → x3.toInt = l5_2.toInt + 1 → R F_2 x3 k e1 → R F_2 l5_2 k e1) →
  (∀ (F_2 : Nat → va_E) (l5_2 : Int32) (x1 : Nat → Int32) (x2 : Int32) (x3 : Nat) (x4 : Nat → Int64) (x5 : Int32) (k : Nat) (e1 : Nat → va_E), gB l5_2 0 99 → RS D I P F_2 γ el → rStr γ [1] F F_2 → ((∀ q : Nat, (q : Int) < l3_1.toInt → 0 ≤ (cB (F_2 (γ 9 19)) q).toInt ∧ (cB (F_2 (γ 9 19)) q).toInt ≤ q)) → (F_2 q0 = F q0) → rFs γ (γ 1 q1) F F_2 → mKp (F q0) (F_2 q0) → l5_2.toInt < l3_1.toInt → fR (F_2 q0) 3 = (γ 9 3) → F_2 (γ 9 3) = .inl (I .boolean, 2000, .inl x1) → x2 = x1 l5_2.toNatClampNeg → gB x2 0 1 → x2.toInt ≠ 0 → fR (F_2 q0) 1 = (γ 9 1) → x3 = γ 11 l3_1.toInt.toNat → F_2 x3 = .inl (I .long, 32, .inr (.inl x4)) → tr_RModel_has l5_2 x4 (0 : Int32) → x5.toInt = l5_2.toInt + 1 → R F_2 x5 k e1 → R F_2 l5_2 k e1) →
  (∀ (F_2 : Nat → va_E) (l5_2 : Int32) (x1 : Nat → Int32) (x2 : Int32) (x3 : Nat) (x4 : Nat → Int64) (x5 : Nat → Int32) (x6 : Int32) (x7 : Nat → Int32) (x8 : Nat → Int32) (x9 : Nat → va_E) (x10 : Int32) (k : Nat) (e1 : Nat → va_E), gB l5_2 0 99 → RS D I P F_2 γ el → rStr γ [1] F F_2 → ((∀ q : Nat, (q : Int) < l3_1.toInt → 0 ≤ (cB (F_2 (γ 9 19)) q).toInt ∧ (cB (F_2 (γ 9 19)) q).toInt ≤ q)) → (F_2 q0 = F q0) → rFs γ (γ 1 q1) F F_2 → mKp (F q0) (F_2 q0) → l5_2.toInt < l3_1.toInt → fR (F_2 q0) 3 = (γ 9 3) → F_2 (γ 9 3) = .inl (I .boolean, 2000, .inl x1) → x2 = x1 l5_2.toNatClampNeg → gB x2 0 1 → x2.toInt ≠ 0 → fR (F_2 q0) 1 = (γ 9 1) → x3 = γ 11 l3_1.toInt.toNat → F_2 x3 = .inl (I .long, 32, .inr (.inl x4)) → tr_RModel_has l5_2 x4 (1 : Int32) → fR (F_2 q0) 16 = (γ 9 16) → fR (F_2 q0) 19 = (γ 9 19) → F_2 (γ 9 19) = .inl (I .int, 2000, .inl x5) → x6 = x5 l5_2.toNatClampNeg → gB x6 (-1) 1999 → F_2 (γ 9 16) = .inl (I .int, 2000, .inl x7) → x8 = upd x7 x6.toNatClampNeg 1 → (∀ b, b ≠ (γ 9 16) → x9 b = F_2 b) → x9 (γ 9 16) = .inl (I .int, 2000, .inl x8) → x10.toInt = l5_2.toInt + 1 → R x9 x10 k e1 → R F_2 l5_2 k e1) →
  R s1 s2 k e1
/- tl_RModel_share_24: F, l5; out: F -/
def tl_RModel_share_24 (D : va_G) (I : FieldType → ClassId) (γ el : Nat → Nat → Nat) (P : List Nat) (F : Nat → va_E) (l3_1 : Int32) (q0 : Nat) (q1 : Nat) (s1 : Nat → va_E) (s2 : Int32) (k : Nat) (e1 : Nat → va_E) : Prop := ∀ R : (Nat → va_E) → (Int32) → Nat → (Nat → va_E) → Prop,
  (∀ (F_2 : Nat → va_E) (l5_2 : Int32), gB l5_2 0 1999 → RS D I P F_2 γ el → rStr γ [1] F F_2 → ((∀ q : Nat, (q : Int) < l3_1.toInt → 0 ≤ (cB (F_2 (γ 9 19)) q).toInt ∧ (cB (F_2 (γ 9 19)) q).toInt ≤ q)) → (F_2 q0 = F q0) → rFs γ (γ 1 q1) F F_2 → mKp (F q0) (F_2 q0) → l3_1.toInt ≤ l5_2.toInt → R F_2 l5_2 44 F_2) →
  (∀ (F_2 : Nat → va_E) (l5_2 : Int32) (x1 : Nat → Int32) (x2 : Nat → Int32) (x3 : Nat → va_E) (x4 : Int32) (k : Nat) (e1 : Nat → va_E), gB l5_2 0 1999 → RS D I P F_2 γ el → rStr γ [1] F F_2 → ((∀ q : Nat, (q : Int) < l3_1.toInt → 0 ≤ (cB (F_2 (γ 9 19)) q).toInt ∧ (cB (F_2 (γ 9 19)) q).toInt ≤ q)) → (F_2 q0 = F q0) → rFs γ (γ 1 q1) F F_2 → mKp (F q0) (F_2 q0) → l5_2.toInt < l3_1.toInt → fR (F_2 q0) 16 = (γ 9 16) → F_2 (γ 9 16) = .inl (I .int, 2000, .inl x1) → x2 = upd x1 l5_2.toNatClampNeg 0 → (∀ b, b ≠ (γ 9 16) → x3 b = F_2 b) → x3 (γ 9 16) = .inl (I .int, 2000, .inl x2) → x4.toInt = l5_2.toInt + 1 → R x3 x4 k e1 → R F_2 l5_2 k e1) →
  R s1 s2 k e1
/- tl_RModel_share_10: F, l3, l2; out: l2, F -/
def tl_RModel_share_10 (D : va_G) (I : FieldType → ClassId) (γ el : Nat → Nat → Nat) (P : List Nat) (F : Nat → va_E) (q0 : Nat) (q1 : Nat) (s1 : Nat → va_E) (s2 : Int32) (s3 : Int32) (k : Nat) (e1 : Int32) (e2 : Nat → va_E) : Prop := ∀ R : (Nat → va_E) → (Int32) → (Int32) → Nat → (Int32) → (Nat → va_E) → Prop,
  (∀ (F_1 : Nat → va_E) (l3_1 : Int32) (l2_1 : Int32) (x1 : Int32), gB l3_1 0 100 → gB l2_1 0 1999 → RS D I P F_1 γ el → rStr γ [1] F F_1 → ((∀ q : Nat, (q : Int) < l3_1.toInt → 0 ≤ (cB (F_1 (γ 9 19)) q).toInt ∧ (cB (F_1 (γ 9 19)) q).toInt ≤ q)) → (l2_1.toInt ≤ 100) → (F_1 q0 = F q0) → rFs γ (γ 1 q1) F F_1 → mKp (F q0) (F_1 q0) → fI (F_1 q0) 11 = x1 → x1.toInt ≤ l3_1.toInt → R F_1 l3_1 l2_1 151 l2_1 F_1) →
  (∀ (F_1 : Nat → va_E) (l3_1 : Int32) (l2_1 : Int32) (x1 : Int32) (x2 : Nat → va_E) (x3 : Nat → va_E) (x4 : Int32) (x5 : Nat → Int32) (x6 : Nat → Int32) (x7 : Nat → va_E) (x8 : Nat → Int32) (x9 : Int32) (x10 : Int32) (k : Nat) (e1 : Int32) (e2 : Nat → va_E), gB l3_1 0 100 → gB l2_1 0 1999 → RS D I P F_1 γ el → rStr γ [1] F F_1 → ((∀ q : Nat, (q : Int) < l3_1.toInt → 0 ≤ (cB (F_1 (γ 9 19)) q).toInt ∧ (cB (F_1 (γ 9 19)) q).toInt ≤ q)) → (l2_1.toInt ≤ 100) → (F_1 q0 = F q0) → rFs γ (γ 1 q1) F F_1 → mKp (F q0) (F_1 q0) → fI (F_1 q0) 11 = x1 → l3_1.toInt < x1.toInt → tl_RModel_share_24 D I γ el P F l3_1 q0 q1 F_1 (0 : Int32) 44 x2 → tl_RModel_share_47 D I γ el P F l3_1 q0 q1 x2 (0 : Int32) 96 x3 → tl_RModel_share_96 D I γ el l3_1 x3 q0 (0 : Int32) 119 x4 → fR (x3 q0) 19 = (γ 9 19) → x3 (γ 9 19) = .inl (I .int, 2000, .inl x5) → x6 = upd x5 l3_1.toNatClampNeg x4 → (∀ b, b ≠ (γ 9 19) → x7 b = x3 b) → x7 (γ 9 19) = .inl (I .int, 2000, .inl x6) → fR (x7 q0) 3 = (γ 9 3) → x7 (γ 9 3) = .inl (I .boolean, 2000, .inl x8) → x9 = x8 l3_1.toNatClampNeg → gB x9 0 1 → x9.toInt = 0 → x10.toInt = l3_1.toInt + 1 → R x7 x10 l2_1 k e1 e2 → R F_1 l3_1 l2_1 k e1 e2) →
  (∀ (F_1 : Nat → va_E) (l3_1 : Int32) (l2_1 : Int32) (x1 : Int32) (x2 : Nat → va_E) (x3 : Nat → va_E) (x4 : Int32) (x5 : Nat → Int32) (x6 : Nat → Int32) (x7 : Nat → va_E) (x8 : Nat → Int32) (x9 : Int32) (x10 : Int32) (x11 : Int32) (x12 : Int32) (k : Nat) (e1 : Int32) (e2 : Nat → va_E), gB l3_1 0 100 → gB l2_1 0 1999 → RS D I P F_1 γ el → rStr γ [1] F F_1 → ((∀ q : Nat, (q : Int) < l3_1.toInt → 0 ≤ (cB (F_1 (γ 9 19)) q).toInt ∧ (cB (F_1 (γ 9 19)) q).toInt ≤ q)) → (l2_1.toInt ≤ 100) → (F_1 q0 = F q0) → rFs γ (γ 1 q1) F F_1 → mKp (F q0) (F_1 q0) → fI (F_1 q0) 11 = x1 → l3_1.toInt < x1.toInt → tl_RModel_share_24 D I γ el P F l3_1 q0 q1 F_1 (0 : Int32) 44 x2 → tl_RModel_share_47 D I γ el P F l3_1 q0 q1 x2 (0 : Int32) 96 x3 → tl_RModel_share_96 D I γ el l3_1 x3 q0 (0 : Int32) 119 x4 → fR (x3 q0) 19 = (γ 9 19) → x3 (γ 9 19) = .inl (I .int, 2000, .inl x5) → x6 = upd x5 l3_1.toNatClampNeg x4 → (∀ b, b ≠ (γ 9 19) → x7 b = x3 b) → x7 (γ 9 19) = .inl (I .int, 2000, .inl x6) → fR (x7 q0) 3 = (γ 9 3) → x7 (γ 9 3) = .inl (I .boolean, 2000, .inl x8) → x9 = x8 l3_1.toNatClampNeg → gB x9 0 1 → x9.toInt ≠ 0 → x10.toInt = x4.toInt + 1 → (l2_1.toInt ≤ x11.toInt ∧ x10.toInt ≤ x11.toInt ∧ (x11.toInt = l2_1.toInt ∨ x11.toInt = x10.toInt)) → x12.toInt = l3_1.toInt + 1 → R x7 x12 x11 k e1 e2 → R F_1 l3_1 l2_1 k e1 e2) →
  R s1 s2 s3 k e1 e2
/- tr_RModel_share: F -/
def tr_RModel_share (D : va_G) (I : FieldType → ClassId) (γ el : Nat → Nat → Nat) (P : List Nat) (F : Nat → va_E) (q0 : Nat) (q1 : Nat) (o1 : Nat → va_E) : Prop := ∀ R : (Nat → va_E) → Prop,
  (∀ (x1 : Nat → va_E) (x2 : Int32) (x3 : Nat → va_E) (x4 : Nat → va_E) (x5 : Nat → va_E), RS D I P x1 γ el → rStr γ [] F x1 → (gIp ((1 : Int) = 0) (rGr γ el F q1 (γ 6 (γ 1 q1)) (cB (x1 (γ 9 3))) (vA (γ 6 (γ 1 q1))))) → (x1 q0 = F q0) → tr_RModel_graph D I γ el P F q0 q1 (1 : Int32) x1 → tl_RModel_share_10 D I γ el P F q0 q1 x1 (0 : Int32) (0 : Int32) 151 x2 x3 → tl_RModel_share_153 D I γ el P F q1 q0 x3 (0 : Int32) 246 x4 → (∀ b, b ≠ q0 → x5 b = x4 b) → x5 q0 = cF (x4 q0) 11 (.int x2) → R x5) →
  R o1
abbrev ky_344961_SpillForgeModel_share : gKey := (cX17_share, 7, "SpillForgeModel", none, [], "share", fun _ _ => True)
def pt_344961_SpillForgeModel_share (D : va_G) (I : FieldType → ClassId) (γ el : Nat → Nat → Nat) (P344955 : List Nat) (F344956 : Nat → va_E) (q344957 : Nat) (q344958 : Nat) : Option Value → va_W → Nat → Nat → Prop := fun r w dc ds => ∃ (F366610 : Nat → va_E), r = none ∧ w = va_pl P344955 F366610 ∧ RS D I P344955 F366610 γ el ∧ rStr γ [1] F344956 F366610 ∧ dc ≤ 0 ∧ ds ≤ 0 ∧ rFs γ (γ 1 q344958) F344956 F366610 ∧ mKp (F344956 q344957) (F366610 q344957) ∧ tr_RModel_share D I γ el P344955 F344956 q344957 q344958 F366610
set_option maxRecDepth 100000 in
set_option maxHeartbeats 4000000 in
theorem ct_344961_SpillForgeModel_share (l : Launch) (hl0 : l.stackTraces = false) (D : va_G) (I : FieldType → ClassId) (γ el : Nat → Nat → Nat) (P344955 : List Nat) (F344956 : Nat → va_E) (q344957 : Nat) (q344958 : Nat) (hT : RS D I P344955 F344956 γ el) (htq344957 : rKd γ q344957 10) (htq344958 : rKd γ q344958 9) (x344959 : 0 < γ 6 (γ 1 q344958)) (x344960 : (((γ 7 (γ 1 q344958) : Nat) : Int) ≤ (fI (F344956 q344957) 11).toInt)) : CtA (gV D I) l yX17_share cX17_share 7 none 6 141 0 0 [.ref q344957, .ref q344958] (va_pl P344955 F344956) (pt_344961_SpillForgeModel_share D I γ el P344955 F344956 q344957 q344958) gNA := by
  refine CtA_of hl0 (by decide) (Nat.le_of_ble_eq_true rfl) ?_
  have hm344962 : q344957 ∈ P344955 := RS_m hT htq344957 (by decide)
  refine rk10_e (show rk_10 γ (F344956 q344957) from RS_o hT htq344957) (fun q344964 q344965 p344966 p344967 p344968 p344969 p344970 p344971 p344972 p344973 p344974 p344975 p344976 p344977 p344978 p344979 p344980 he344963 hB345007 ht344981 ht344982 ht344983 ht344984 ht344985 ht344986 ht344987 ht344988 ht344989 ht344990 ht344991 ht344992 ht344993 ht344994 ht344995 ht344996 ht344997 ht344998 ht344999 ht345000 ht345001 ht345002 ht345003 ht345004 hB345008 => ?_)
  have hm345009 : (γ 9 19) ∈ P344955 := RS_m hT ht344996 (by decide)
  obtain ⟨f345011, he345010, bf345011⟩ := show rk_21 I (F344956 (γ 9 19)) from RS_o hT ht344996
  have r345012 : (γ 7 (γ 1 q344958) : Int) ≤ p344968.toInt := by have z := x344960; rw [he344963] at z; exact z
  have bp344968 : gB p344968 0 100 := (hB345007.2.2.1)
  refine G_aload_n 0 dr_cX17_share_0 rfl ?_
  refine G_aload_n 1 dr_cX17_share_1 rfl ?_
  refine G_iconst 1 dr_cX17_share_2 (by decide +kernel) ?_
  refine Gw_callV (As := [.ref q344958, .int 1]) (gV_ok D I) (ct_277563_SpillForgeModel_graph l hl0 D I γ el P344955 F344956 q344957 q344958 1 hT htq344957 htq344958 (gB_w (gBl (show Int32.toInt 1 = 1 by decide)) (by decide) (by decide)) (by omega)) dr_cX17_share_3 ⟨wr_10_233, wr_1_14, wr_10_236, by decide, rfl, (Nat.le_of_ble_eq_true rfl), (Nat.le_of_ble_eq_true rfl)⟩ wr_10_235 wr_p_99 hm344962 he344963 rfl (show 0 + 0 ≤ 0 by first | omega | decide) (show 0 + 0 ≤ 0 by first | omega | decide) (Nat.le_of_ble_eq_true rfl) (fun r345016 w345017 dc345013 ds345014 hp345015 => ?_) (fun _ _ _ _ _ z => z.elim)
  obtain ⟨F345021, rfl, rfl, hT345022, hs345023, hdc, hds, x345018, x345019, ht345020⟩ := hp345015
  have hs345024 : rStr γ [1] F344956 F345021 := rStr_tr (rStr_rf (γ := γ) (W := [1]) (F := F344956)) (rStr_w hs345023 (by decide))
  have fs345025 : rFs γ (γ 1 q344958) F344956 F345021 := rFs_tr (rFs_rf) (rFs_0 hs345023)
  have kp345026 : F345021 q344957 = F344956 q344957 := x345019
  have mk345027 : mKp (F344956 q344957) (F345021 q344957) := mKp_tr mKp_rf (mKp_eq x345019)
  have he345028 : F345021 q344957 = .inr (22, [.ref (γ 9 0), .ref (γ 9 1), .ref (γ 9 2), .ref (γ 9 3), .ref (γ 9 4), .ref (γ 9 5), .ref (γ 9 6), .ref (γ 9 7), .ref (γ 9 8), .int p344966, .int p344967, .int p344968, .int p344969, .int p344970, .int p344971, .ref (γ 9 15), .ref (γ 9 16), .ref (γ 9 17), .ref (γ 9 18), .ref (γ 9 19), .ref (γ 9 20), .ref (γ 9 21), .ref (γ 9 22), .int p344972, .int p344973, .int p344974, .int p344975, .int p344976, .ref q344964, .ref (γ 9 29), .int p344977, .ref (γ 9 31), .int p344978, .int p344979, .int p344980, .ref q344965]) := (x345019).trans he344963
  rw [show Int32.toInt 1 = 1 from by decide] at x345018
  change G _ _ _ _ _ _ _ _ _ _ _
  refine G_widen (cs' := 0) (sl' := 0) (by omega) (by omega) ?_
  refine G_iconst 0 dr_cX17_share_6 (by decide +kernel) ?_
  refine G_istore_n (L' := [(2, .int 0), (0, .ref q344957), (1, .ref q344958)]) dr_cX17_share_7 (Nat.le_of_ble_eq_true rfl) rfl ?_
  refine G_iconst 0 dr_cX17_share_8 (by decide +kernel) ?_
  refine G_istore_n (L' := [(3, .int 0), (2, .int 0), (0, .ref q344957), (1, .ref q344958)]) dr_cX17_share_9 (Nat.le_of_ble_eq_true rfl) rfl ?_
  have hlp10_365030 : ∀ (n10_365030 : Nat) (F365023 : Nat → va_E) (g365021 : Int32) (g365022 : Int32), gB g365021 0 100 → gB g365022 0 1999 → RS D I P344955 F365023 γ el → rStr γ [1] F344956 F365023 → (∀ q : Nat, (q : Int) < g365021.toInt → 0 ≤ (cB (F365023 (γ 9 19)) q).toInt ∧ (cB (F365023 (γ 9 19)) q).toInt ≤ q) → (g365022.toInt ≤ 100) → (F365023 q344957 = F344956 q344957) → rFs γ (γ 1 q344958) F344956 F365023 → mKp (F344956 q344957) (F365023 q344957) → (∀ (k : Nat) (e1 : Int32) (e2 : Nat → va_E), tl_RModel_share_10 D I γ el P344955 F344956 q344957 q344958 F365023 g365021 g365022 k e1 e2 → tl_RModel_share_10 D I γ el P344955 F344956 q344957 q344958 F345021 (0 : Int32) (0 : Int32) k e1 e2) → ((101 : Int) - g365021.toInt).toNat < n10_365030 → G (gV D I) l (gRm 6 141 0 0) (gMA (gV D I) (pt_344961_SpillForgeModel_share D I γ el P344955 F344956 q344957 q344958) gNA 0 0) ky_344961_SpillForgeModel_share 10 [(3, .int g365021), (2, .int g365022), (0, .ref q344957), (1, .ref q344958)] [] (va_pl P344955 F365023) 0 0 := by
    intro n10_365030
    induction n10_365030 with
    | zero => intro F365023 g365021 g365022 bg365021 bg365022 hT365024 hs365025 x365026 x365027 x365028 x365029 x365030 kt10_365031 hm10_365030; exact absurd hm10_365030 (Nat.not_lt_zero _)
    | succ n10_365030 ih10_365030 =>
      intro F365023 g365021 g365022 bg365021 bg365022 hT365024 hs365025 x365026 x365027 x365028 x365029 x365030 kt10_365031 hm10_365030
      have hs365032 : rStr γ [1] F345021 F365023 := fun b h0 hb hw => (hs365025 b h0 hb hw).trans (hs345024 b h0 hb hw).symm
      have hs365033 : rStr γ [1] F344956 F365023 := rStr_tr hs345024 hs365032
      have he365034 : F365023 q344957 = .inr (22, [.ref (γ 9 0), .ref (γ 9 1), .ref (γ 9 2), .ref (γ 9 3), .ref (γ 9 4), .ref (γ 9 5), .ref (γ 9 6), .ref (γ 9 7), .ref (γ 9 8), .int p344966, .int p344967, .int p344968, .int p344969, .int p344970, .int p344971, .ref (γ 9 15), .ref (γ 9 16), .ref (γ 9 17), .ref (γ 9 18), .ref (γ 9 19), .ref (γ 9 20), .ref (γ 9 21), .ref (γ 9 22), .int p344972, .int p344973, .int p344974, .int p344975, .int p344976, .ref q344964, .ref (γ 9 29), .int p344977, .ref (γ 9 31), .int p344978, .int p344979, .int p344980, .ref q344965]) := x365028.trans he344963
      have hm365035 : q344957 ∈ P344955 := RS_m hT365024 htq344957 (by decide)
      have hm365036 : (γ 9 19) ∈ P344955 := RS_m hT365024 ht344996 (by decide)
      obtain ⟨f365038, he365037, bf365038⟩ := show rk_21 I (F365023 (γ 9 19)) from RS_o hT365024 ht344996
      have cq365039 := x365026
      rw [cB_of he365037] at cq365039
      refine G_iload_n 0 dr_cX17_share_10 rfl ?_
      refine G_aload_n 2 dr_cX17_share_11 rfl ?_
      have fq365040 : fI (F365023 q344957) 11 = p344968 := by rw [he365034]; rfl
      refine Gp_get 11 hm365035 he365034 dr_cX17_share_12 (gk_X17 D I) (Nat.le_of_ble_eq_true rfl) wr_7_85 rfl ?_
      refine G_icmp_ge 151 dr_cX17_share_15 (by decide +kernel) (fun hc365041 => ?_) (fun hc365041 => ?_)
      · have r365042 : p344968.toInt ≤ g365021.toInt := gC_le hc365041
        have hx365043 : tl_RModel_share_10 D I γ el P344955 F344956 q344957 q344958 F345021 (0 : Int32) (0 : Int32) 151 g365022 F365023 := kt10_365031 151 g365022 F365023 (fun R c1 c2 c3 => c1 F365023 g365021 g365022 p344968 bg365021 bg365022 hT365024 hs365025 x365026 x365027 x365028 x365029 x365030 fq365040 r365042)
        refine G_iconst 0 dr_cX17_share_151 (by decide +kernel) ?_
        refine G_istore_n (L' := [(3, .int 0), (2, .int g365022), (0, .ref q344957), (1, .ref q344958)]) dr_cX17_share_152 (Nat.le_of_ble_eq_true rfl) rfl ?_
        have hlp153_365394 : ∀ (n153_365394 : Nat) (F365388 : Nat → va_E) (g365387 : Int32), gB g365387 0 1000000 → RS D I P344955 F365388 γ el → rStr γ [1] F344956 F365388 → (∀ q : Nat, (q : Int) < ((γ 7 (γ 1 q344958) : Nat) : Int) → 0 ≤ (cB (F365388 (γ 9 19)) q).toInt ∧ (cB (F365388 (γ 9 19)) q).toInt ≤ q) → (F365388 q344957 = F344956 q344957) → rFs γ (γ 1 q344958) F344956 F365388 → mKp (F344956 q344957) (F365388 q344957) → (∀ (k : Nat) (e1 : Nat → va_E), tl_RModel_share_153 D I γ el P344955 F344956 q344958 q344957 F365388 g365387 k e1 → tl_RModel_share_153 D I γ el P344955 F344956 q344958 q344957 F365023 (0 : Int32) k e1) → ((1000001 : Int) - g365387.toInt).toNat < n153_365394 → G (gV D I) l (gRm 6 141 0 0) (gMA (gV D I) (pt_344961_SpillForgeModel_share D I γ el P344955 F344956 q344957 q344958) gNA 0 0) ky_344961_SpillForgeModel_share 153 [(3, .int g365387), (2, .int g365022), (0, .ref q344957), (1, .ref q344958)] [] (va_pl P344955 F365388) 0 0 := by
          intro n153_365394
          induction n153_365394 with
          | zero => intro F365388 g365387 bg365387 hT365389 hs365390 x365391 x365392 x365393 x365394 kt153_365395 hm153_365394; exact absurd hm153_365394 (Nat.not_lt_zero _)
          | succ n153_365394 ih153_365394 =>
            intro F365388 g365387 bg365387 hT365389 hs365390 x365391 x365392 x365393 x365394 kt153_365395 hm153_365394
            have hs365396 : rStr γ [1] F365023 F365388 := fun b h0 hb hw => (hs365390 b h0 hb hw).trans (hs365025 b h0 hb hw).symm
            have hs365397 : rStr γ [1] F344956 F365388 := rStr_tr hs365025 hs365396
            have he365398 : F365388 q344957 = .inr (22, [.ref (γ 9 0), .ref (γ 9 1), .ref (γ 9 2), .ref (γ 9 3), .ref (γ 9 4), .ref (γ 9 5), .ref (γ 9 6), .ref (γ 9 7), .ref (γ 9 8), .int p344966, .int p344967, .int p344968, .int p344969, .int p344970, .int p344971, .ref (γ 9 15), .ref (γ 9 16), .ref (γ 9 17), .ref (γ 9 18), .ref (γ 9 19), .ref (γ 9 20), .ref (γ 9 21), .ref (γ 9 22), .int p344972, .int p344973, .int p344974, .int p344975, .int p344976, .ref q344964, .ref (γ 9 29), .int p344977, .ref (γ 9 31), .int p344978, .int p344979, .int p344980, .ref q344965]) := x365392.trans he344963
            have hm365399 : q344957 ∈ P344955 := RS_m hT365389 htq344957 (by decide)
            have hm365400 : (γ 9 19) ∈ P344955 := RS_m hT365389 ht344996 (by decide)
            obtain ⟨f365402, he365401, bf365402⟩ := show rk_21 I (F365388 (γ 9 19)) from RS_o hT365389 ht344996
            have cq365403 := x365391
            rw [cB_of he365401] at cq365403
            refine G_iload_n 0 dr_cX17_share_153 rfl ?_
            refine G_aload_n 3 dr_cX17_share_154 rfl ?_
            have hm365404 : q344958 ∈ P344955 := RS_m hT365389 htq344958 (by decide)
            obtain ⟨q365406, q365407, p365408, p365409, he365405, ht365425, ht365410, ht365411, ht365412, ht365413, r365414, r365415, r365416, r365417, r365418, r365419, r365420, r365421, r365422, r365423, r365424⟩ := show rk_9 γ el q344958 (F365388 q344958) from RS_o hT365389 htq344958
            have bp365408 : gB p365408 0 1000000 := ⟨by omega, by omega⟩
            have bp365409 : gB p365409 0 1000000 := ⟨by omega, by omega⟩
            have fq365426 : fI (F365388 q344958) 3 = p365409 := by rw [he365405]; rfl
            refine Gw_callV (As := []) (gV_ok D I) (cp_12780_Code_size l hl0 D I P344955 F365388 q344958 q365406 q365407 p365408 p365409 hm365404 he365405) dr_cX17_share_155 ⟨wr_10_160, wr_1_15, wr_9_131, by decide, rfl, (Nat.le_of_ble_eq_true rfl), (Nat.le_of_ble_eq_true rfl)⟩ wr_9_129 wr_9_130 hm365404 he365405 rfl (show 0 + 0 ≤ 0 by first | omega | decide) (show 0 + 0 ≤ 0 by first | omega | decide) (Nat.le_of_ble_eq_true rfl) (fun r365430 w365431 dc365427 ds365428 hp365429 => ?_) (fun _ _ _ _ _ z => z.elim)
            obtain ⟨rfl, rfl, hdc, hds⟩ := hp365429
            change G _ _ _ _ _ _ _ (.int p365409 :: _) _ _ _
            refine G_widen (cs' := 0) (sl' := 0) (by omega) (by omega) ?_
            refine G_icmp_ge 246 dr_cX17_share_158 (by decide +kernel) (fun hc365432 => ?_) (fun hc365432 => ?_)
            · have r365433 : p365409.toInt ≤ g365387.toInt := gC_le hc365432
              have hx365434 : tl_RModel_share_153 D I γ el P344955 F344956 q344958 q344957 F365023 (0 : Int32) 246 F365388 := kt153_365395 246 F365388 (fun R c1 c2 => c1 F365388 g365387 p365409 bg365387 hT365389 hs365390 x365391 x365392 x365393 x365394 fq365426 r365433)
              refine G_aload_n 2 dr_cX17_share_246 rfl ?_
              refine G_iload_n 1 dr_cX17_share_247 rfl ?_
              refine Gp_put 11 hm365399 he365398 dr_cX17_share_248 (gk_X17 D I) (Nat.le_of_ble_eq_true rfl) wr_7_85 rfl rfl rfl (Nat.le_of_ble_eq_true rfl) (fun F365435 e365436 n365437 => ?_)
              have he365438 : F365435 (γ 9 19) = .inl (I .int, 2000, .inl f365402) := (n365437 (γ 9 19) (rn_ao he365401 he365398)).trans he365401
              have he365439 : F365435 q344958 = .inr (18, [.ref q365406, .ref q365407, .int p365408, .int p365409]) := (n365437 q344958 (rn_oo he365405 he365398 (by decide))).trans he365405
              have he365440 : F365435 q344957 = .inr (22, [.ref (γ 9 0), .ref (γ 9 1), .ref (γ 9 2), .ref (γ 9 3), .ref (γ 9 4), .ref (γ 9 5), .ref (γ 9 6), .ref (γ 9 7), .ref (γ 9 8), .int p344966, .int p344967, .int g365022, .int p344969, .int p344970, .int p344971, .ref (γ 9 15), .ref (γ 9 16), .ref (γ 9 17), .ref (γ 9 18), .ref (γ 9 19), .ref (γ 9 20), .ref (γ 9 21), .ref (γ 9 22), .int p344972, .int p344973, .int p344974, .int p344975, .int p344976, .ref q344964, .ref (γ 9 29), .int p344977, .ref (γ 9 31), .int p344978, .int p344979, .int p344980, .ref q344965]) := e365436
              have mk365441 : mKp (F344956 q344957) (F365435 q344957) := mKp_tr x365394 (by rw [he365398, he365440]; exact ⟨rfl, rfl⟩)
              have hs365442 : rStr γ [1] F344956 F365435 := rStr_put hs365390 n365437 htq344957 (by decide)
              have fs365443 : rFs γ (γ 1 q344958) F344956 F365435 := rFs_pn x365393 n365437 htq344957 (by decide)
              have fq365444 : F365435 q344957 = cF (F365388 q344957) 11 (.int g365022) := by rw [he365440, he365398]; rfl
              have hT365445 : RS D I P344955 F365435 γ el := RS_set hT365389 n365437 htq344957 (by decide) ⟨q344964, q344965, p344966, p344967, g365022, p344969, p344970, p344971, p344972, p344973, p344974, p344975, p344976, p344977, p344978, p344979, p344980, he365440, ⟨(hB345007.1), (hB345007.2.1), ⟨by omega, by omega⟩, (hB345007.2.2.2.1), (hB345007.2.2.2.2.1), (hB345007.2.2.2.2.2.1), (hB345007.2.2.2.2.2.2.1), (hB345007.2.2.2.2.2.2.2.1), (hB345007.2.2.2.2.2.2.2.2)⟩, ht344981, ht344982, ht344983, ht344984, ht344985, ht344986, ht344987, ht344988, ht344989, ht344990, ht344991, ht344992, ht344993, ht344994, ht344995, ht344996, ht344997, ht344998, ht344999, ht345000, ht345001, ht345002, ht345003, ht345004, hB345008⟩
              exact G_vretA dr_cX17_share_251 rfl (Nat.le_of_ble_eq_true rfl) (Nat.le_of_ble_eq_true rfl) ⟨F365435, rfl, rfl, hT365445, hs365442, (Nat.le_of_ble_eq_true rfl), (Nat.le_of_ble_eq_true rfl), fs365443, mk365441, (fun R c1 => c1 F345021 g365022 F365023 F365388 F365435 hT345022 hs345023 x345018 x345019 ht345020 hx365043 hx365434 n365437 fq365444)⟩
            · have r365446 : g365387.toInt < p365409.toInt := gC_nle hc365432
              have bg365387' : gB g365387 0 999999 := ⟨by omega, by omega⟩
              have bp365409' : gB p365409 1 1000000 := ⟨by omega, by omega⟩
              refine G_aload_n 3 dr_cX17_share_161 rfl ?_
              refine G_iload_n 0 dr_cX17_share_162 rfl ?_
              have hm365447 : q365406 ∈ P344955 := RS_m hT365389 ht365410 (by decide)
              obtain ⟨⟨p365449, p365450, q365451, he365448, r365452, r365453, r365454, r365456⟩, r365455⟩ := show rk_4 D I γ el F365388 q365406 from RS_o hT365389 ht365410
              have bp365449 := gB_any p365449
              have bp365450 : gB p365450 0 1000000 := ⟨by omega, by omega⟩
              obtain ⟨r365457, r365458, n365465, f365466, r365459, r365460, r365461, r365462, r365463, r365464⟩ := rLC_n r365454 (by omega)
              have hm365467 : q365451 ∈ P344955 := RS_m hT365389 r365457 (by decide)
              obtain ⟨q365468, hx365469⟩ : ∃ x, x = el q365406 g365387.toInt.toNat := ⟨_, rfl⟩
              have fq365473 : fR (F365388 q344958) 0 = q365406 := by rw [he365405]; rfl
              have hx365470 : f365466 g365387.toNatClampNeg = some q365468 := (r365463 _ (show g365387.toInt.toNat < γ 2 q365406 by omega)).trans (by rw [hx365469])
              have ht365474 : rKd γ q365468 2 := by rw [hx365469]; exact (r365421 _ (by omega)).resolve_right (fun z => absurd z.1 (by omega))
              have ht365475 : rFm γ q365468 q365406 := by rw [hx365469]; exact (r365455 _ (show g365387.toInt.toNat < γ 2 q365406 by omega)).2.1
              have hm365476 : q365468 ∈ P344955 := RS_m hT365389 ht365474 (by decide)
              obtain ⟨q365478, q365479, p365480, p365481, he365477, ht365488, ht365482, ht365483, ht365484, ht365485, ht365486, bp365480, bp365481, r365487, r365489, r365490⟩ := show rk_2 γ q365468 (F365388 q365468) from RS_o hT365389 ht365474
              have fq365491 : fI (F365388 q365406) 2 = p365450 := by rw [he365448]; rfl
              refine Gw_callV (As := [.int g365387]) (gV_ok D I) (cp_7901_Code_get l hl0 D I P344955 F365388 q344958 q365406 q365451 g365387 q365407 p365408 p365409 p365449 p365450 f365466 n365465 q365468 q365478 q365479 p365480 p365481 hm365404 hm365447 hm365467 hm365476 he365405 he365448 r365459 he365477 (gB_w bg365387' (by decide) (by decide)) (gB_w bp365450 (by decide) (by decide)) (by omega) (by omega) (by assumption) (by omega)) dr_cX17_share_163 ⟨wr_10_161, wr_1_15, wr_10_141, by decide, rfl, (Nat.le_of_ble_eq_true rfl), (Nat.le_of_ble_eq_true rfl)⟩ wr_10_139 wr_10_140 hm365404 he365405 rfl (show 0 + 0 ≤ 0 by first | omega | decide) (show 0 + 0 ≤ 0 by first | omega | decide) (Nat.le_of_ble_eq_true rfl) (fun r365495 w365496 dc365492 ds365493 hp365494 => ?_) (fun _ _ _ _ _ z => z.elim)
              obtain ⟨rfl, rfl, hdc, hds, ht365497⟩ := hp365494
              change G _ _ _ _ _ _ _ (.ref q365468 :: _) _ _ _
              refine G_widen (cs' := 0) (sl' := 0) (by omega) (by omega) ?_
              refine G_astore (L' := [(4, .ref q365468), (3, .int g365387), (2, .int g365022), (0, .ref q344957), (1, .ref q344958)]) dr_cX17_share_166 (Nat.le_of_ble_eq_true rfl) rfl ?_
              refine G_iconst 0 dr_cX17_share_168 (by decide +kernel) ?_
              refine G_istore (L' := [(5, .int 0), (4, .ref q365468), (3, .int g365387), (2, .int g365022), (0, .ref q344957), (1, .ref q344958)]) dr_cX17_share_169 (Nat.le_of_ble_eq_true rfl) rfl ?_
              have hlp171_365624 : ∀ (n171_365624 : Nat) (F365618 : Nat → va_E) (g365617 : Int32), gB g365617 0 1000000 → RS D I P344955 F365618 γ el → rStr γ [1] F344956 F365618 → (∀ q : Nat, (q : Int) < ((γ 7 (γ 1 q344958) : Nat) : Int) → 0 ≤ (cB (F365618 (γ 9 19)) q).toInt ∧ (cB (F365618 (γ 9 19)) q).toInt ≤ q) → (F365618 q344957 = F344956 q344957) → rFs γ (γ 1 q344958) F344956 F365618 → mKp (F344956 q344957) (F365618 q344957) → (∀ (k : Nat) (e1 : Nat → va_E), tl_RModel_share_171 D I γ el P344955 F344956 q344958 q344957 q365468 F365618 g365617 k e1 → tl_RModel_share_171 D I γ el P344955 F344956 q344958 q344957 q365468 F365388 (0 : Int32) k e1) → ((1000001 : Int) - g365617.toInt).toNat < n171_365624 → G (gV D I) l (gRm 6 141 0 0) (gMA (gV D I) (pt_344961_SpillForgeModel_share D I γ el P344955 F344956 q344957 q344958) gNA 0 0) ky_344961_SpillForgeModel_share 171 [(5, .int g365617), (4, .ref q365468), (3, .int g365387), (2, .int g365022), (0, .ref q344957), (1, .ref q344958)] [] (va_pl P344955 F365618) 0 0 := by
                intro n171_365624
                induction n171_365624 with
                | zero => intro F365618 g365617 bg365617 hT365619 hs365620 x365621 x365622 x365623 x365624 kt171_365625 hm171_365624; exact absurd hm171_365624 (Nat.not_lt_zero _)
                | succ n171_365624 ih171_365624 =>
                  intro F365618 g365617 bg365617 hT365619 hs365620 x365621 x365622 x365623 x365624 kt171_365625 hm171_365624
                  have hs365626 : rStr γ [1] F365388 F365618 := fun b h0 hb hw => (hs365620 b h0 hb hw).trans (hs365390 b h0 hb hw).symm
                  have he365627 : F365618 q344958 = .inr (18, [.ref q365406, .ref q365407, .int p365408, .int p365409]) := (hs365626 q344958 (rT0 htq344958 (by decide)) (rT1 htq344958 (by decide)) (rT2 htq344958 (by decide))).trans he365405
                  have he365628 : F365618 q365406 = .inr (4, [.int p365449, .ref q365451, .int p365450]) := (hs365626 q365406 (rT0 ht365410 (by decide)) (rT1 ht365410 (by decide)) (rT2 ht365410 (by decide))).trans he365448
                  have he365629 : F365618 q365451 = .inl (I (.object "java/lang/Object"), n365465, .inr (.inr (.inr (.inr f365466)))) := (hs365626 q365451 (rT0 r365457 (by decide)) (rT1 r365457 (by decide)) (rT2 r365457 (by decide))).trans r365459
                  have he365630 : F365618 q365468 = .inr (17, [.ref q365478, .ref q365479, .int p365480, .int p365481]) := (hs365626 q365468 (rT0 ht365474 (by decide)) (rT1 ht365474 (by decide)) (rT2 ht365474 (by decide))).trans he365477
                  have hs365631 : rStr γ [1] F344956 F365618 := rStr_tr hs365390 hs365626
                  have he365632 : F365618 q344957 = .inr (22, [.ref (γ 9 0), .ref (γ 9 1), .ref (γ 9 2), .ref (γ 9 3), .ref (γ 9 4), .ref (γ 9 5), .ref (γ 9 6), .ref (γ 9 7), .ref (γ 9 8), .int p344966, .int p344967, .int p344968, .int p344969, .int p344970, .int p344971, .ref (γ 9 15), .ref (γ 9 16), .ref (γ 9 17), .ref (γ 9 18), .ref (γ 9 19), .ref (γ 9 20), .ref (γ 9 21), .ref (γ 9 22), .int p344972, .int p344973, .int p344974, .int p344975, .int p344976, .ref q344964, .ref (γ 9 29), .int p344977, .ref (γ 9 31), .int p344978, .int p344979, .int p344980, .ref q344965]) := x365622.trans he344963
                  have hm365633 : q344957 ∈ P344955 := RS_m hT365619 htq344957 (by decide)
                  have hm365634 : (γ 9 19) ∈ P344955 := RS_m hT365619 ht344996 (by decide)
                  obtain ⟨f365636, he365635, bf365636⟩ := show rk_21 I (F365618 (γ 9 19)) from RS_o hT365619 ht344996
                  have cq365637 := x365621
                  rw [cB_of he365635] at cq365637
                  refine G_iload 0 dr_cX17_share_171 rfl ?_
                  refine G_aload 1 dr_cX17_share_173 rfl ?_
                  have fq365638 : fR (F365618 q365468) 0 = q365478 := by rw [he365630]; rfl
                  refine Gp_get 0 hm365476 he365630 dr_cX17_share_175 (gk_X12 D I) (Nat.le_of_ble_eq_true rfl) wr_9_220 rfl ?_
                  have hm365639 : q365478 ∈ P344955 := RS_m hT365619 ht365482 (by decide)
                  obtain ⟨⟨p365641, p365642, q365643, he365640, r365644, r365645, r365646, r365648⟩, r365647⟩ := show rk_3 D I γ el F365618 q365478 from RS_o hT365619 ht365482
                  have bp365641 := gB_any p365641
                  have bp365642 : gB p365642 0 1000000 := ⟨by omega, by omega⟩
                  have fq365649 : p365642.toInt = (γ 2 q365478 : Int) := by omega
                  have fq365650 : fI (F365618 q365478) 2 = p365642 := by rw [he365640]; rfl
                  refine Gw_callV (As := []) (gV_ok D I) (cp_7_ArrayList_size l hl0 D I P344955 F365618 q365478 p365641 q365643 p365642 hm365639 he365640 (gB_w bp365642 (by decide) (by decide))) dr_cX17_share_178 ⟨wr_10_200, wr_1_18, wr_9_160, by decide, rfl, (Nat.le_of_ble_eq_true rfl), (Nat.le_of_ble_eq_true rfl)⟩ wr_9_158 wr_9_159 hm365639 he365640 rfl (show 0 + 0 ≤ 0 by first | omega | decide) (show 0 + 0 ≤ 0 by first | omega | decide) (Nat.le_of_ble_eq_true rfl) (fun r365654 w365655 dc365651 ds365652 hp365653 => ?_) (fun _ _ _ _ _ z => z.elim)
                  obtain ⟨rfl, rfl, hdc, hds⟩ := hp365653
                  change G _ _ _ _ _ _ _ (.int p365642 :: _) _ _ _
                  refine G_widen (cs' := 0) (sl' := 0) (by omega) (by omega) ?_
                  refine G_icmp_ge 240 dr_cX17_share_181 (by decide +kernel) (fun hc365656 => ?_) (fun hc365656 => ?_)
                  · have r365657 : p365642.toInt ≤ g365617.toInt := gC_le hc365656
                    have hx365658 : tl_RModel_share_171 D I γ el P344955 F344956 q344958 q344957 q365468 F365388 (0 : Int32) 240 F365618 := kt171_365625 240 F365618 (fun R c1 c2 c3 c4 => c1 F365618 g365617 q365478 p365642 bg365617 hT365619 hs365620 x365621 x365622 x365623 x365624 fq365638 fq365649 fq365650 r365657)
                    obtain ⟨z365659, hz365659⟩ : ∃ z : Int32, z = g365387 + Int32.ofInt 1 := ⟨_, rfl⟩
                    have ez365659 : z365659.toInt = g365387.toInt + 1 := gI_inc hz365659 (by decide) bg365387' (by decide) (by decide)
                    have bz365659 : gB z365659 1 1000000 := ⟨by omega, by omega⟩
                    refine G_iinc (L' := [(3, .int z365659), (5, .int g365617), (4, .ref q365468), (2, .int g365022), (0, .ref q344957), (1, .ref q344958)]) z365659 2 dr_cX17_share_240 rfl hz365659.symm (Nat.le_of_ble_eq_true rfl) rfl ?_
                    refine G_goto 153 dr_cX17_share_243 (by decide +kernel) ?_
                    refine G_lv (L' := [(3, .int z365659), (2, .int g365022), (0, .ref q344957), (1, .ref q344958)]) [0, 3, 4, 5] rfl ?_
                    exact ih153_365394 F365618 z365659 (gB_w bz365659 (by decide) (by decide)) hT365619 hs365620 (by rw [cB_of he365635]; exact cq365637) x365622 x365623 x365624 (fun k e1 ht => kt153_365395 k e1 (fun R c1 c2 => c2 F365388 g365387 p365409 q365406 q365468 p365450 F365618 z365659 k e1 bg365387 hT365389 hs365390 x365391 x365392 x365393 x365394 fq365426 r365446 fq365473 hx365469 fq365491 ht365497 hx365658 ez365659 (ht R c1 c2))) (mz_up ez365659 (Int.le_trans bg365387'.2 (by decide)) hm153_365394)
                  · have r365660 : g365617.toInt < p365642.toInt := gC_nle hc365656
                    have bg365617' : gB g365617 0 999999 := ⟨by omega, by omega⟩
                    have bp365642' : gB p365642 1 1000000 := ⟨by omega, by omega⟩
                    refine G_aload 1 dr_cX17_share_184 rfl ?_
                    refine Gp_get 0 hm365476 he365630 dr_cX17_share_186 (gk_X12 D I) (Nat.le_of_ble_eq_true rfl) wr_9_220 rfl ?_
                    refine G_iload 0 dr_cX17_share_189 rfl ?_
                    obtain ⟨r365661, r365662, n365669, f365670, r365663, r365664, r365665, r365666, r365667, r365668⟩ := rLC_n r365646 (by omega)
                    have hm365671 : q365643 ∈ P344955 := RS_m hT365619 r365661 (by decide)
                    obtain ⟨q365672, hx365673⟩ : ∃ x, x = el q365478 g365617.toInt.toNat := ⟨_, rfl⟩
                    have hx365674 : f365670 g365617.toNatClampNeg = some q365672 := (r365667 _ (show g365617.toInt.toNat < γ 2 q365478 by omega)).trans (by rw [hx365673])
                    have ht365675 : rKd γ q365672 1 := by rw [hx365673]; exact (r365647 _ (show g365617.toInt.toNat < γ 2 q365478 by omega)).1
                    have ht365676 : rFm γ q365672 q365478 := by rw [hx365673]; exact (r365647 _ (show g365617.toInt.toNat < γ 2 q365478 by omega)).2.1
                    refine Gw_callV (As := [.int g365617]) (gV_ok D I) (cp_22_ArrayList_get l hl0 D I P344955 F365618 q365478 q365643 g365617 p365641 p365642 f365670 n365669 q365672 hm365639 hm365671 he365640 r365663 (gB_w bg365617' (by decide) (by decide)) (gB_w bp365642' (by decide) (by decide)) (by omega) (by omega) (by assumption) (by omega)) dr_cX17_share_191 ⟨wr_10_201, wr_1_18, wr_10_65, by decide, rfl, (Nat.le_of_ble_eq_true rfl), (Nat.le_of_ble_eq_true rfl)⟩ wr_10_63 wr_10_64 hm365639 he365640 rfl (show 0 + 0 ≤ 0 by first | omega | decide) (show 0 + 0 ≤ 0 by first | omega | decide) (Nat.le_of_ble_eq_true rfl) (fun r365680 w365681 dc365677 ds365678 hp365679 => ?_) (fun _ _ _ _ _ z => z.elim)
                    obtain ⟨rfl, rfl, hdc, hds, ht365682⟩ := hp365679
                    change G _ _ _ _ _ _ _ (.ref q365672 :: _) _ _ _
                    refine G_widen (cs' := 0) (sl' := 0) (by omega) (by omega) ?_
                    have hm365683 : q365672 ∈ P344955 := RS_m hT365619 ht365675 (by decide)
                    obtain ⟨p365685, p365686, p365687, p365688, p365689, p365690, p365691, he365684, bp365685, bp365686, bp365689, bp365690, bp365691, r365692, r365693, r365694, r365695, r365696⟩ := show rk_1 γ q365672 (F365618 q365672) from RS_o hT365619 ht365675
                    have bp365687 := gB_any p365687
                    have bp365688 := gB_any p365688
                    refine Gp_cast hm365683 he365684 rfl dr_cX17_share_194 wr_10_202 (gr_cast 1 rfl) ?_
                    refine G_astore (L' := [(6, .ref q365672), (5, .int g365617), (4, .ref q365468), (3, .int g365387), (2, .int g365022), (0, .ref q344957), (1, .ref q344958)]) dr_cX17_share_197 (Nat.le_of_ble_eq_true rfl) rfl ?_
                    refine G_aload 0 dr_cX17_share_199 rfl ?_
                    have fq365697 : fI (F365618 q365672) 0 = p365685 := by rw [he365684]; rfl
                    refine Gp_get 0 hm365683 he365684 dr_cX17_share_201 (gk_X15 D I) (Nat.le_of_ble_eq_true rfl) wr_9_177 rfl ?_
                    refine G_bipush 21 dr_cX17_share_204 (by decide +kernel) ?_
                    refine G_icmp_eq 219 dr_cX17_share_206 (by decide +kernel) (fun hc365698 => ?_) (fun hc365698 => ?_)
                    · have r365699 : p365685.toInt = 21 := gj_eq hc365698 (show Int32.toInt 21 = 21 by decide)
                      have bp365685' : gB p365685 21 21 := ⟨by omega, by omega⟩
                      refine G_aload 0 dr_cX17_share_219 rfl ?_
                      refine G_aload_n 5 dr_cX17_share_221 rfl ?_
                      have fq365700 : fR (F365618 q344957) 19 = (γ 9 19) := by rw [he365632]; rfl
                      refine Gp_get 19 hm365633 he365632 dr_cX17_share_222 (gk_X17 D I) (Nat.le_of_ble_eq_true rfl) wr_7_93 rfl ?_
                      refine G_aload 0 dr_cX17_share_225 rfl ?_
                      have fq365701 : fI (F365618 q365672) 4 = p365689 := by rw [he365684]; rfl
                      refine Gp_get 4 hm365683 he365684 dr_cX17_share_227 (gk_X15 D I) (Nat.le_of_ble_eq_true rfl) wr_9_193 rfl ?_
                      refine Gp_iald 0 hm365634 he365635 dr_cX17_share_230 rfl (gB_in bp365689 (by decide) (by decide)) (G_nam fun z365702 hz365702 => ?_)
                      have bz365702 : gB z365702 (-1) 1999 := by rw [hz365702]; exact bf365636 _
                      have r365703 : γ 7 (γ 1 q365672) = γ 7 (γ 1 q344958) := by rw [show γ 1 q365672 = γ 1 q365478 from ht365676, show γ 1 q365478 = γ 1 q365468 from ht365483, show γ 1 q365468 = γ 1 q365406 from ht365475, show γ 1 q365406 = γ 1 q344958 from ht365411]
                      have r365704 : 0 ≤ z365702.toInt ∧ z365702.toInt ≤ (p365689.toInt.toNat : Int) := by rw [hz365702]; exact cq365637 p365689.toInt.toNat (by omega)
                      have bz365702' : gB z365702 0 1999 := ⟨by omega, by omega⟩
                      refine Gp_put 4 hm365683 he365684 dr_cX17_share_231 (gk_X15 D I) (Nat.le_of_ble_eq_true rfl) wr_9_193 rfl rfl rfl (Nat.le_of_ble_eq_true rfl) (fun F365705 e365706 n365707 => ?_)
                      have he365708 : F365705 q344958 = .inr (18, [.ref q365406, .ref q365407, .int p365408, .int p365409]) := (n365707 q344958 (rn_oo he365627 he365684 (by decide))).trans he365627
                      have he365709 : F365705 q365406 = .inr (4, [.int p365449, .ref q365451, .int p365450]) := (n365707 q365406 (rn_oo he365628 he365684 (by decide))).trans he365628
                      have he365710 : F365705 q365451 = .inl (I (.object "java/lang/Object"), n365465, .inr (.inr (.inr (.inr f365466)))) := (n365707 q365451 (rn_ao he365629 he365684)).trans he365629
                      have he365711 : F365705 q365468 = .inr (17, [.ref q365478, .ref q365479, .int p365480, .int p365481]) := (n365707 q365468 (rn_oo he365630 he365684 (by decide))).trans he365630
                      have he365712 : F365705 q344957 = .inr (22, [.ref (γ 9 0), .ref (γ 9 1), .ref (γ 9 2), .ref (γ 9 3), .ref (γ 9 4), .ref (γ 9 5), .ref (γ 9 6), .ref (γ 9 7), .ref (γ 9 8), .int p344966, .int p344967, .int p344968, .int p344969, .int p344970, .int p344971, .ref (γ 9 15), .ref (γ 9 16), .ref (γ 9 17), .ref (γ 9 18), .ref (γ 9 19), .ref (γ 9 20), .ref (γ 9 21), .ref (γ 9 22), .int p344972, .int p344973, .int p344974, .int p344975, .int p344976, .ref q344964, .ref (γ 9 29), .int p344977, .ref (γ 9 31), .int p344978, .int p344979, .int p344980, .ref q344965]) := (n365707 q344957 (rn_oo he365632 he365684 (by decide))).trans he365632
                      have he365713 : F365705 (γ 9 19) = .inl (I .int, 2000, .inl f365636) := (n365707 (γ 9 19) (rn_ao he365635 he365684)).trans he365635
                      have he365714 : F365705 q365478 = .inr (4, [.int p365641, .ref q365643, .int p365642]) := (n365707 q365478 (rn_oo he365640 he365684 (by decide))).trans he365640
                      have he365715 : F365705 q365643 = .inl (I (.object "java/lang/Object"), n365669, .inr (.inr (.inr (.inr f365670)))) := (n365707 q365643 (rn_ao r365663 he365684)).trans r365663
                      have he365716 : F365705 q365672 = .inr (20, [.int p365685, .int p365686, .int p365687, .int p365688, .int z365702, .int p365690, .int p365691]) := e365706
                      have mk365717 : mKp (F344956 q344957) (F365705 q344957) := mKp_tr x365624 (mKp_eq (n365707 q344957 (rn_ty htq344957 ht365675 (by decide))))
                      have hs365718 : rStr γ [1] F344956 F365705 := rStr_pu2 hs365620 n365707 ht365675 (by decide)
                      have kp365719 : F365705 q344957 = F344956 q344957 := (n365707 q344957 (rn_ty htq344957 ht365675 (by decide))).trans x365622
                      have fs365720 : rFs γ (γ 1 q344958) F344956 F365705 := rFs_put x365623 n365707 ((show γ 1 q365672 = γ 1 q365478 from ht365676).trans ((show γ 1 q365478 = γ 1 q365468 from ht365483).trans ((show γ 1 q365468 = γ 1 q365406 from ht365475).trans (show γ 1 q365406 = γ 1 q344958 from ht365411))))
                      have fq365721 : F365705 q365672 = cF (F365618 q365672) 4 (.int z365702) := by rw [he365716, he365684]; rfl
                      obtain ⟨z365722, hz365722⟩ : ∃ z : Int32, z = g365617 + Int32.ofInt 1 := ⟨_, rfl⟩
                      have ez365722 : z365722.toInt = g365617.toInt + 1 := gI_inc hz365722 (by decide) bg365617' (by decide) (by decide)
                      have bz365722 : gB z365722 1 1000000 := ⟨by omega, by omega⟩
                      refine G_iinc (L' := [(5, .int z365722), (6, .ref q365672), (4, .ref q365468), (3, .int g365387), (2, .int g365022), (0, .ref q344957), (1, .ref q344958)]) z365722 1 dr_cX17_share_234 rfl hz365722.symm (Nat.le_of_ble_eq_true rfl) rfl ?_
                      refine G_goto 171 dr_cX17_share_237 (by decide +kernel) ?_
                      have hT365723 : RS D I P344955 F365705 γ el := RS_set hT365619 n365707 ht365675 (by decide) ⟨p365685, p365686, p365687, p365688, z365702, p365690, p365691, he365716, (gB_w bp365685' (by decide) (by decide)), bp365686, bz365702', bp365690, bp365691, (by omega), (by omega), (by omega), (by omega), (by omega)⟩
                      refine G_lv (L' := [(5, .int z365722), (4, .ref q365468), (3, .int g365387), (2, .int g365022), (0, .ref q344957), (1, .ref q344958)]) [0, 2, 3, 4, 5, 6] rfl ?_
                      exact ih171_365624 F365705 z365722 (gB_w bz365722 (by decide) (by decide)) hT365723 hs365718 (by rw [cB_of he365713]; exact cq365637) kp365719 fs365720 mk365717 (fun k e1 ht => kt171_365625 k e1 (fun R c1 c2 c3 c4 => c2 F365618 g365617 q365478 p365642 q365672 p365685 p365689 f365636 z365702 F365705 z365722 k e1 bg365617 hT365619 hs365620 x365621 x365622 x365623 x365624 fq365638 fq365649 fq365650 r365660 hx365673 ht365682 fq365697 r365699 fq365700 fq365701 he365635 hz365702 bz365702 n365707 fq365721 ez365722 (ht R c1 c2 c3 c4))) (mz_up ez365722 (Int.le_trans bg365617'.2 (by decide)) hm171_365624)
                    · have r365724 : p365685.toInt ≠ 21 := gj_neq hc365698 (show Int32.toInt 21 = 21 by decide)
                      refine G_aload 0 dr_cX17_share_209 rfl ?_
                      refine Gp_get 0 hm365683 he365684 dr_cX17_share_211 (gk_X15 D I) (Nat.le_of_ble_eq_true rfl) wr_9_177 rfl ?_
                      refine G_bipush 23 dr_cX17_share_214 (by decide +kernel) ?_
                      refine G_icmp_ne 234 dr_cX17_share_216 (by decide +kernel) (fun hc365725 => ?_) (fun hc365725 => ?_)
                      · have r365726 : p365685.toInt ≠ 23 := gj_neq hc365725 (show Int32.toInt 23 = 23 by decide)
                        obtain ⟨z365727, hz365727⟩ : ∃ z : Int32, z = g365617 + Int32.ofInt 1 := ⟨_, rfl⟩
                        have ez365727 : z365727.toInt = g365617.toInt + 1 := gI_inc hz365727 (by decide) bg365617' (by decide) (by decide)
                        have bz365727 : gB z365727 1 1000000 := ⟨by omega, by omega⟩
                        refine G_iinc (L' := [(5, .int z365727), (6, .ref q365672), (4, .ref q365468), (3, .int g365387), (2, .int g365022), (0, .ref q344957), (1, .ref q344958)]) z365727 1 dr_cX17_share_234 rfl hz365727.symm (Nat.le_of_ble_eq_true rfl) rfl ?_
                        refine G_goto 171 dr_cX17_share_237 (by decide +kernel) ?_
                        refine G_lv (L' := [(5, .int z365727), (4, .ref q365468), (3, .int g365387), (2, .int g365022), (0, .ref q344957), (1, .ref q344958)]) [0, 2, 3, 4, 5, 6] rfl ?_
                        exact ih171_365624 F365618 z365727 (gB_w bz365727 (by decide) (by decide)) hT365619 hs365620 (by rw [cB_of he365635]; exact cq365637) x365622 x365623 x365624 (fun k e1 ht => kt171_365625 k e1 (fun R c1 c2 c3 c4 => c3 F365618 g365617 q365478 p365642 q365672 p365685 z365727 k e1 bg365617 hT365619 hs365620 x365621 x365622 x365623 x365624 fq365638 fq365649 fq365650 r365660 hx365673 ht365682 fq365697 r365724 r365726 ez365727 (ht R c1 c2 c3 c4))) (mz_up ez365727 (Int.le_trans bg365617'.2 (by decide)) hm171_365624)
                      · have r365728 : p365685.toInt = 23 := gj_eq hc365725 (show Int32.toInt 23 = 23 by decide)
                        have bp365685' : gB p365685 23 23 := ⟨by omega, by omega⟩
                        refine G_aload 0 dr_cX17_share_219 rfl ?_
                        refine G_aload_n 5 dr_cX17_share_221 rfl ?_
                        have fq365729 : fR (F365618 q344957) 19 = (γ 9 19) := by rw [he365632]; rfl
                        refine Gp_get 19 hm365633 he365632 dr_cX17_share_222 (gk_X17 D I) (Nat.le_of_ble_eq_true rfl) wr_7_93 rfl ?_
                        refine G_aload 0 dr_cX17_share_225 rfl ?_
                        have fq365730 : fI (F365618 q365672) 4 = p365689 := by rw [he365684]; rfl
                        refine Gp_get 4 hm365683 he365684 dr_cX17_share_227 (gk_X15 D I) (Nat.le_of_ble_eq_true rfl) wr_9_193 rfl ?_
                        refine Gp_iald 0 hm365634 he365635 dr_cX17_share_230 rfl (gB_in bp365689 (by decide) (by decide)) (G_nam fun z365731 hz365731 => ?_)
                        have bz365731 : gB z365731 (-1) 1999 := by rw [hz365731]; exact bf365636 _
                        have r365732 : γ 7 (γ 1 q365672) = γ 7 (γ 1 q344958) := by rw [show γ 1 q365672 = γ 1 q365478 from ht365676, show γ 1 q365478 = γ 1 q365468 from ht365483, show γ 1 q365468 = γ 1 q365406 from ht365475, show γ 1 q365406 = γ 1 q344958 from ht365411]
                        have r365733 : 0 ≤ z365731.toInt ∧ z365731.toInt ≤ (p365689.toInt.toNat : Int) := by rw [hz365731]; exact cq365637 p365689.toInt.toNat (by omega)
                        have bz365731' : gB z365731 0 1999 := ⟨by omega, by omega⟩
                        refine Gp_put 4 hm365683 he365684 dr_cX17_share_231 (gk_X15 D I) (Nat.le_of_ble_eq_true rfl) wr_9_193 rfl rfl rfl (Nat.le_of_ble_eq_true rfl) (fun F365734 e365735 n365736 => ?_)
                        have he365737 : F365734 q344958 = .inr (18, [.ref q365406, .ref q365407, .int p365408, .int p365409]) := (n365736 q344958 (rn_oo he365627 he365684 (by decide))).trans he365627
                        have he365738 : F365734 q365406 = .inr (4, [.int p365449, .ref q365451, .int p365450]) := (n365736 q365406 (rn_oo he365628 he365684 (by decide))).trans he365628
                        have he365739 : F365734 q365451 = .inl (I (.object "java/lang/Object"), n365465, .inr (.inr (.inr (.inr f365466)))) := (n365736 q365451 (rn_ao he365629 he365684)).trans he365629
                        have he365740 : F365734 q365468 = .inr (17, [.ref q365478, .ref q365479, .int p365480, .int p365481]) := (n365736 q365468 (rn_oo he365630 he365684 (by decide))).trans he365630
                        have he365741 : F365734 q344957 = .inr (22, [.ref (γ 9 0), .ref (γ 9 1), .ref (γ 9 2), .ref (γ 9 3), .ref (γ 9 4), .ref (γ 9 5), .ref (γ 9 6), .ref (γ 9 7), .ref (γ 9 8), .int p344966, .int p344967, .int p344968, .int p344969, .int p344970, .int p344971, .ref (γ 9 15), .ref (γ 9 16), .ref (γ 9 17), .ref (γ 9 18), .ref (γ 9 19), .ref (γ 9 20), .ref (γ 9 21), .ref (γ 9 22), .int p344972, .int p344973, .int p344974, .int p344975, .int p344976, .ref q344964, .ref (γ 9 29), .int p344977, .ref (γ 9 31), .int p344978, .int p344979, .int p344980, .ref q344965]) := (n365736 q344957 (rn_oo he365632 he365684 (by decide))).trans he365632
                        have he365742 : F365734 (γ 9 19) = .inl (I .int, 2000, .inl f365636) := (n365736 (γ 9 19) (rn_ao he365635 he365684)).trans he365635
                        have he365743 : F365734 q365478 = .inr (4, [.int p365641, .ref q365643, .int p365642]) := (n365736 q365478 (rn_oo he365640 he365684 (by decide))).trans he365640
                        have he365744 : F365734 q365643 = .inl (I (.object "java/lang/Object"), n365669, .inr (.inr (.inr (.inr f365670)))) := (n365736 q365643 (rn_ao r365663 he365684)).trans r365663
                        have he365745 : F365734 q365672 = .inr (20, [.int p365685, .int p365686, .int p365687, .int p365688, .int z365731, .int p365690, .int p365691]) := e365735
                        have mk365746 : mKp (F344956 q344957) (F365734 q344957) := mKp_tr x365624 (mKp_eq (n365736 q344957 (rn_ty htq344957 ht365675 (by decide))))
                        have hs365747 : rStr γ [1] F344956 F365734 := rStr_pu2 hs365620 n365736 ht365675 (by decide)
                        have kp365748 : F365734 q344957 = F344956 q344957 := (n365736 q344957 (rn_ty htq344957 ht365675 (by decide))).trans x365622
                        have fs365749 : rFs γ (γ 1 q344958) F344956 F365734 := rFs_put x365623 n365736 ((show γ 1 q365672 = γ 1 q365478 from ht365676).trans ((show γ 1 q365478 = γ 1 q365468 from ht365483).trans ((show γ 1 q365468 = γ 1 q365406 from ht365475).trans (show γ 1 q365406 = γ 1 q344958 from ht365411))))
                        have fq365750 : F365734 q365672 = cF (F365618 q365672) 4 (.int z365731) := by rw [he365745, he365684]; rfl
                        obtain ⟨z365751, hz365751⟩ : ∃ z : Int32, z = g365617 + Int32.ofInt 1 := ⟨_, rfl⟩
                        have ez365751 : z365751.toInt = g365617.toInt + 1 := gI_inc hz365751 (by decide) bg365617' (by decide) (by decide)
                        have bz365751 : gB z365751 1 1000000 := ⟨by omega, by omega⟩
                        refine G_iinc (L' := [(5, .int z365751), (6, .ref q365672), (4, .ref q365468), (3, .int g365387), (2, .int g365022), (0, .ref q344957), (1, .ref q344958)]) z365751 1 dr_cX17_share_234 rfl hz365751.symm (Nat.le_of_ble_eq_true rfl) rfl ?_
                        refine G_goto 171 dr_cX17_share_237 (by decide +kernel) ?_
                        have hT365752 : RS D I P344955 F365734 γ el := RS_set hT365619 n365736 ht365675 (by decide) ⟨p365685, p365686, p365687, p365688, z365731, p365690, p365691, he365745, (gB_w bp365685' (by decide) (by decide)), bp365686, bz365731', bp365690, bp365691, (by omega), (by omega), (by omega), (by omega), (by omega)⟩
                        refine G_lv (L' := [(5, .int z365751), (4, .ref q365468), (3, .int g365387), (2, .int g365022), (0, .ref q344957), (1, .ref q344958)]) [0, 2, 3, 4, 5, 6] rfl ?_
                        exact ih171_365624 F365734 z365751 (gB_w bz365751 (by decide) (by decide)) hT365752 hs365747 (by rw [cB_of he365742]; exact cq365637) kp365748 fs365749 mk365746 (fun k e1 ht => kt171_365625 k e1 (fun R c1 c2 c3 c4 => c4 F365618 g365617 q365478 p365642 q365672 p365685 p365689 f365636 z365731 F365734 z365751 k e1 bg365617 hT365619 hs365620 x365621 x365622 x365623 x365624 fq365638 fq365649 fq365650 r365660 hx365673 ht365682 fq365697 r365724 r365728 fq365729 fq365730 he365635 hz365731 bz365731 n365736 fq365750 ez365751 (ht R c1 c2 c3 c4))) (mz_up ez365751 (Int.le_trans bg365617'.2 (by decide)) hm171_365624)
              exact hlp171_365624 (((1000001 : Int) - 0).toNat + 1) F365388 0 (gB_w (gBl (show Int32.toInt 0 = 0 by decide)) (by decide) (by decide)) hT365389 hs365390 (by rw [cB_of he365401]; exact cq365403) x365392 x365393 x365394 (fun k e1 ht => ht) (Nat.lt_succ_self _)
        exact hlp153_365394 (((1000001 : Int) - 0).toNat + 1) F365023 0 (gB_w (gBl (show Int32.toInt 0 = 0 by decide)) (by decide) (by decide)) hT365024 hs365025 (by rw [cB_of he365037]; exact fun q hq => cq365039 q (by omega)) x365028 x365029 x365030 (fun k e1 ht => ht) (Nat.lt_succ_self _)
      · have r365753 : g365021.toInt < p344968.toInt := gC_nle hc365041
        have bg365021' : gB g365021 0 99 := ⟨by omega, by omega⟩
        have bp344968' : gB p344968 1 100 := ⟨by omega, by omega⟩
        refine G_iconst 0 dr_cX17_share_18 (by decide +kernel) ?_
        refine G_istore (L' := [(4, .int 0), (3, .int g365021), (2, .int g365022), (0, .ref q344957), (1, .ref q344958)]) dr_cX17_share_19 (Nat.le_of_ble_eq_true rfl) rfl ?_
        refine G_iconst 0 dr_cX17_share_21 (by decide +kernel) ?_
        refine G_istore (L' := [(5, .int 0), (4, .int 0), (3, .int g365021), (2, .int g365022), (0, .ref q344957), (1, .ref q344958)]) dr_cX17_share_22 (Nat.le_of_ble_eq_true rfl) rfl ?_
        have hlp24_366178 : ∀ (n24_366178 : Nat) (F366172 : Nat → va_E) (g366171 : Int32), gB g366171 0 1999 → RS D I P344955 F366172 γ el → rStr γ [1] F344956 F366172 → (∀ q : Nat, (q : Int) < g365021.toInt → 0 ≤ (cB (F366172 (γ 9 19)) q).toInt ∧ (cB (F366172 (γ 9 19)) q).toInt ≤ q) → (F366172 q344957 = F344956 q344957) → rFs γ (γ 1 q344958) F344956 F366172 → mKp (F344956 q344957) (F366172 q344957) → (∀ (k : Nat) (e1 : Nat → va_E), tl_RModel_share_24 D I γ el P344955 F344956 g365021 q344957 q344958 F366172 g366171 k e1 → tl_RModel_share_24 D I γ el P344955 F344956 g365021 q344957 q344958 F365023 (0 : Int32) k e1) → ((2000 : Int) - g366171.toInt).toNat < n24_366178 → G (gV D I) l (gRm 6 141 0 0) (gMA (gV D I) (pt_344961_SpillForgeModel_share D I γ el P344955 F344956 q344957 q344958) gNA 0 0) ky_344961_SpillForgeModel_share 24 [(5, .int g366171), (4, .int 0), (3, .int g365021), (2, .int g365022), (0, .ref q344957), (1, .ref q344958)] [] (va_pl P344955 F366172) 0 0 := by
          intro n24_366178
          induction n24_366178 with
          | zero => intro F366172 g366171 bg366171 hT366173 hs366174 x366175 x366176 x366177 x366178 kt24_366179 hm24_366178; exact absurd hm24_366178 (Nat.not_lt_zero _)
          | succ n24_366178 ih24_366178 =>
            intro F366172 g366171 bg366171 hT366173 hs366174 x366175 x366176 x366177 x366178 kt24_366179 hm24_366178
            have hs366180 : rStr γ [1] F365023 F366172 := fun b h0 hb hw => (hs366174 b h0 hb hw).trans (hs365025 b h0 hb hw).symm
            have hs366181 : rStr γ [1] F344956 F366172 := rStr_tr hs365025 hs366180
            have he366182 : F366172 q344957 = .inr (22, [.ref (γ 9 0), .ref (γ 9 1), .ref (γ 9 2), .ref (γ 9 3), .ref (γ 9 4), .ref (γ 9 5), .ref (γ 9 6), .ref (γ 9 7), .ref (γ 9 8), .int p344966, .int p344967, .int p344968, .int p344969, .int p344970, .int p344971, .ref (γ 9 15), .ref (γ 9 16), .ref (γ 9 17), .ref (γ 9 18), .ref (γ 9 19), .ref (γ 9 20), .ref (γ 9 21), .ref (γ 9 22), .int p344972, .int p344973, .int p344974, .int p344975, .int p344976, .ref q344964, .ref (γ 9 29), .int p344977, .ref (γ 9 31), .int p344978, .int p344979, .int p344980, .ref q344965]) := x366176.trans he344963
            have hm366183 : q344957 ∈ P344955 := RS_m hT366173 htq344957 (by decide)
            have hm366184 : (γ 9 19) ∈ P344955 := RS_m hT366173 ht344996 (by decide)
            obtain ⟨f366186, he366185, bf366186⟩ := show rk_21 I (F366172 (γ 9 19)) from RS_o hT366173 ht344996
            have cq366187 := x366175
            rw [cB_of he366185] at cq366187
            refine G_iload 0 dr_cX17_share_24 rfl ?_
            refine G_iload_n 2 dr_cX17_share_26 rfl ?_
            refine G_icmp_ge 44 dr_cX17_share_27 (by decide +kernel) (fun hc366188 => ?_) (fun hc366188 => ?_)
            · have r366189 : g365021.toInt ≤ g366171.toInt := gC_le hc366188
              have hx366190 : tl_RModel_share_24 D I γ el P344955 F344956 g365021 q344957 q344958 F365023 (0 : Int32) 44 F366172 := kt24_366179 44 F366172 (fun R c1 c2 => c1 F366172 g366171 bg366171 hT366173 hs366174 x366175 x366176 x366177 x366178 r366189)
              refine G_iconst 0 dr_cX17_share_44 (by decide +kernel) ?_
              refine G_istore (L' := [(5, .int 0), (4, .int 0), (3, .int g365021), (2, .int g365022), (0, .ref q344957), (1, .ref q344958)]) dr_cX17_share_45 (Nat.le_of_ble_eq_true rfl) rfl ?_
              have hlp47_366389 : ∀ (n47_366389 : Nat) (F366383 : Nat → va_E) (g366382 : Int32), gB g366382 0 99 → RS D I P344955 F366383 γ el → rStr γ [1] F344956 F366383 → (∀ q : Nat, (q : Int) < g365021.toInt → 0 ≤ (cB (F366383 (γ 9 19)) q).toInt ∧ (cB (F366383 (γ 9 19)) q).toInt ≤ q) → (F366383 q344957 = F344956 q344957) → rFs γ (γ 1 q344958) F344956 F366383 → mKp (F344956 q344957) (F366383 q344957) → (∀ (k : Nat) (e1 : Nat → va_E), tl_RModel_share_47 D I γ el P344955 F344956 g365021 q344957 q344958 F366383 g366382 k e1 → tl_RModel_share_47 D I γ el P344955 F344956 g365021 q344957 q344958 F366172 (0 : Int32) k e1) → ((100 : Int) - g366382.toInt).toNat < n47_366389 → G (gV D I) l (gRm 6 141 0 0) (gMA (gV D I) (pt_344961_SpillForgeModel_share D I γ el P344955 F344956 q344957 q344958) gNA 0 0) ky_344961_SpillForgeModel_share 47 [(5, .int g366382), (4, .int 0), (3, .int g365021), (2, .int g365022), (0, .ref q344957), (1, .ref q344958)] [] (va_pl P344955 F366383) 0 0 := by
                intro n47_366389
                induction n47_366389 with
                | zero => intro F366383 g366382 bg366382 hT366384 hs366385 x366386 x366387 x366388 x366389 kt47_366390 hm47_366389; exact absurd hm47_366389 (Nat.not_lt_zero _)
                | succ n47_366389 ih47_366389 =>
                  intro F366383 g366382 bg366382 hT366384 hs366385 x366386 x366387 x366388 x366389 kt47_366390 hm47_366389
                  have hs366391 : rStr γ [1] F366172 F366383 := fun b h0 hb hw => (hs366385 b h0 hb hw).trans (hs366174 b h0 hb hw).symm
                  have hs366392 : rStr γ [1] F344956 F366383 := rStr_tr hs366174 hs366391
                  have he366393 : F366383 q344957 = .inr (22, [.ref (γ 9 0), .ref (γ 9 1), .ref (γ 9 2), .ref (γ 9 3), .ref (γ 9 4), .ref (γ 9 5), .ref (γ 9 6), .ref (γ 9 7), .ref (γ 9 8), .int p344966, .int p344967, .int p344968, .int p344969, .int p344970, .int p344971, .ref (γ 9 15), .ref (γ 9 16), .ref (γ 9 17), .ref (γ 9 18), .ref (γ 9 19), .ref (γ 9 20), .ref (γ 9 21), .ref (γ 9 22), .int p344972, .int p344973, .int p344974, .int p344975, .int p344976, .ref q344964, .ref (γ 9 29), .int p344977, .ref (γ 9 31), .int p344978, .int p344979, .int p344980, .ref q344965]) := x366387.trans he344963
                  have hm366394 : q344957 ∈ P344955 := RS_m hT366384 htq344957 (by decide)
                  have hm366395 : (γ 9 19) ∈ P344955 := RS_m hT366384 ht344996 (by decide)
                  obtain ⟨f366397, he366396, bf366397⟩ := show rk_21 I (F366383 (γ 9 19)) from RS_o hT366384 ht344996
                  have cq366398 := x366386
                  rw [cB_of he366396] at cq366398
                  refine G_iload 0 dr_cX17_share_47 rfl ?_
                  refine G_iload_n 2 dr_cX17_share_49 rfl ?_
                  refine G_icmp_ge 96 dr_cX17_share_50 (by decide +kernel) (fun hc366399 => ?_) (fun hc366399 => ?_)
                  · have r366400 : g365021.toInt ≤ g366382.toInt := gC_le hc366399
                    have hx366401 : tl_RModel_share_47 D I γ el P344955 F344956 g365021 q344957 q344958 F366172 (0 : Int32) 96 F366383 := kt47_366390 96 F366383 (fun R c1 c2 c3 c4 => c1 F366383 g366382 bg366382 hT366384 hs366385 x366386 x366387 x366388 x366389 r366400)
                    have hlp96_366461 : ∀ (n96_366461 : Nat) (g366459 : Int32), gB g366459 0 99 → (∀ q : Nat, (q : Int) < g365021.toInt → 0 ≤ (cB (F366383 (γ 9 19)) q).toInt ∧ (cB (F366383 (γ 9 19)) q).toInt ≤ q) → (g366459.toInt ≤ g365021.toInt) → (∀ (k : Nat) (e1 : Int32), tl_RModel_share_96 D I γ el g365021 F366383 q344957 g366459 k e1 → tl_RModel_share_96 D I γ el g365021 F366383 q344957 (0 : Int32) k e1) → ((100 : Int) - g366459.toInt).toNat < n96_366461 → G (gV D I) l (gRm 6 141 0 0) (gMA (gV D I) (pt_344961_SpillForgeModel_share D I γ el P344955 F344956 q344957 q344958) gNA 0 0) ky_344961_SpillForgeModel_share 96 [(5, .int g366382), (4, .int g366459), (3, .int g365021), (2, .int g365022), (0, .ref q344957), (1, .ref q344958)] [] (va_pl P344955 F366383) 0 0 := by
                      intro n96_366461
                      induction n96_366461 with
                      | zero => intro g366459 bg366459 x366460 x366461 kt96_366462 hm96_366461; exact absurd hm96_366461 (Nat.not_lt_zero _)
                      | succ n96_366461 ih96_366461 =>
                        intro g366459 bg366459 x366460 x366461 kt96_366462 hm96_366461
                        have cq366463 := x366460
                        rw [cB_of he366396] at cq366463
                        refine G_iload 1 dr_cX17_share_96 rfl ?_
                        refine G_iload_n 2 dr_cX17_share_98 rfl ?_
                        refine G_icmp_ge 119 dr_cX17_share_99 (by decide +kernel) (fun hc366464 => ?_) (fun hc366464 => ?_)
                        · have r366465 : g365021.toInt ≤ g366459.toInt := gC_le hc366464
                          have hx366466 : tl_RModel_share_96 D I γ el g365021 F366383 q344957 (0 : Int32) 119 g366459 := kt96_366462 119 g366459 (fun R c1 c2 c3 => c1 g366459 bg366459 x366460 x366461 r366465)
                          refine G_aload_n 4 dr_cX17_share_119 rfl ?_
                          have fq366467 : fR (F366383 q344957) 19 = (γ 9 19) := by rw [he366393]; rfl
                          refine Gp_get 19 hm366394 he366393 dr_cX17_share_120 (gk_X17 D I) (Nat.le_of_ble_eq_true rfl) wr_7_93 rfl ?_
                          refine G_iload_n 2 dr_cX17_share_123 rfl ?_
                          refine G_iload 1 dr_cX17_share_124 rfl ?_
                          refine Gp_iast 0 hm366395 he366396 dr_cX17_share_126 rfl (gB_in bg365021' (by decide) (by decide)) (fun F366468 e366469 n366470 => ?_)
                          obtain ⟨f366471, hf366471⟩ : ∃ z, z = upd f366397 g365021.toNatClampNeg g366459 := ⟨_, rfl⟩
                          rw [← hf366471] at e366469
                          have he366472 : F366468 q344957 = .inr (22, [.ref (γ 9 0), .ref (γ 9 1), .ref (γ 9 2), .ref (γ 9 3), .ref (γ 9 4), .ref (γ 9 5), .ref (γ 9 6), .ref (γ 9 7), .ref (γ 9 8), .int p344966, .int p344967, .int p344968, .int p344969, .int p344970, .int p344971, .ref (γ 9 15), .ref (γ 9 16), .ref (γ 9 17), .ref (γ 9 18), .ref (γ 9 19), .ref (γ 9 20), .ref (γ 9 21), .ref (γ 9 22), .int p344972, .int p344973, .int p344974, .int p344975, .int p344976, .ref q344964, .ref (γ 9 29), .int p344977, .ref (γ 9 31), .int p344978, .int p344979, .int p344980, .ref q344965]) := (n366470 q344957 (rn_oa he366393 he366396)).trans he366393
                          have he366473 : F366468 (γ 9 19) = .inl (I .int, 2000, .inl f366471) := e366469
                          have mk366474 : mKp (F344956 q344957) (F366468 q344957) := mKp_tr x366389 (mKp_eq (n366470 q344957 (rn_ty htq344957 ht344996 (by decide))))
                          have hs366475 : rStr γ [1] F344956 F366468 := rStr_put hs366385 n366470 ht344996 (by decide)
                          have kp366476 : F366468 q344957 = F344956 q344957 := (n366470 q344957 (rn_ty htq344957 ht344996 (by decide))).trans x366387
                          have fs366477 : rFs γ (γ 1 q344958) F344956 F366468 := rFs_pn x366388 n366470 ht344996 (by decide)
                          have bf366471 : gF f366471 (-1) 1999 := gF_upd hf366471 bf366397 (gB_w bg366459 (by decide) (by decide))
                          refine G_aload_n 4 dr_cX17_share_127 rfl ?_
                          have fq366478 : fR (F366468 q344957) 3 = (γ 9 3) := by rw [he366472]; rfl
                          refine Gp_get 3 hm366394 he366472 dr_cX17_share_128 (gk_X17 D I) (Nat.le_of_ble_eq_true rfl) wr_7_77 rfl ?_
                          refine G_iload_n 2 dr_cX17_share_131 rfl ?_
                          have hT366479 : RS D I P344955 F366468 γ el := RS_set hT366384 n366470 ht344996 (by decide) ⟨f366471, he366473, bf366471⟩
                          have hm366480 : (γ 9 3) ∈ P344955 := RS_m hT366479 ht344986 (by decide)
                          obtain ⟨f366482, he366481, bf366482⟩ := show rk_14 I (F366468 (γ 9 3)) from RS_o hT366479 ht344986
                          refine Gp_zald 3 hm366480 he366481 dr_cX17_share_132 rfl (gB_in bg365021' (by decide) (by decide)) (G_nam fun z366483 hz366483 => ?_)
                          have bz366483 : gB z366483 0 1 := by rw [hz366483]; exact bf366482 _
                          refine G_if_eq 145 dr_cX17_share_133 (by decide +kernel) (fun hc366484 => ?_) (fun hc366484 => ?_)
                          · have r366485 : z366483.toInt = 0 := gj_eq hc366484 (show Int32.toInt 0 = 0 by decide)
                            have bz366483' : gB z366483 0 0 := gB_t0 r366485
                            obtain ⟨z366486, hz366486⟩ : ∃ z : Int32, z = g365021 + Int32.ofInt 1 := ⟨_, rfl⟩
                            have ez366486 : z366486.toInt = g365021.toInt + 1 := gI_inc hz366486 (by decide) bg365021' (by decide) (by decide)
                            have bz366486 : gB z366486 1 100 := ⟨by omega, by omega⟩
                            refine G_iinc (L' := [(3, .int z366486), (5, .int g366382), (4, .int g366459), (2, .int g365022), (0, .ref q344957), (1, .ref q344958)]) z366486 2 dr_cX17_share_145 rfl hz366486.symm (Nat.le_of_ble_eq_true rfl) rfl ?_
                            refine G_goto 10 dr_cX17_share_148 (by decide +kernel) ?_
                            refine G_lv (L' := [(3, .int z366486), (2, .int g365022), (0, .ref q344957), (1, .ref q344958)]) [0, 3, 4, 5] rfl ?_
                            exact ih10_365030 F366468 z366486 g365022 (gB_w bz366486 (by decide) (by decide)) bg365022 hT366479 hs366475 (by rw [ez366486]; rw [cB_of he366473]; exact sl_u hf366471 (by omega) (by omega) (by omega) cq366463) (by omega) kp366476 fs366477 mk366474 (fun k e1 e2 ht => kt10_365031 k e1 e2 (fun R c1 c2 c3 => c2 F365023 g365021 g365022 p344968 F366172 F366383 g366459 f366397 f366471 F366468 f366482 z366483 z366486 k e1 e2 bg365021 bg365022 hT365024 hs365025 x365026 x365027 x365028 x365029 x365030 fq365040 r365753 hx366190 hx366401 hx366466 fq366467 he366396 hf366471 n366470 he366473 fq366478 he366481 hz366483 bz366483 r366485 ez366486 (ht R c1 c2 c3))) (mz_up ez366486 (Int.le_trans bg365021'.2 (by decide)) hm10_365030)
                          · have r366487 : z366483.toInt ≠ 0 := gj_neq hc366484 (show Int32.toInt 0 = 0 by decide)
                            have bz366483' : gB z366483 1 1 := gB_t1 bz366483 r366487
                            refine G_iload_n 3 dr_cX17_share_136 rfl ?_
                            refine G_iload 1 dr_cX17_share_137 rfl ?_
                            refine G_iconst 1 dr_cX17_share_139 (by decide +kernel) ?_
                            refine G_iadd dr_cX17_share_140 (G_nam fun z366488 hz366488 => ?_)
                            have ez366488 : z366488.toInt = g366459.toInt + 1 := by rw [gI_add hz366488 bg366459 (gBl (show Int32.toInt 1 = 1 by decide)) (by decide) (by decide), show Int32.toInt 1 = 1 from by decide]
                            have bz366488 : gB z366488 1 100 := gB_add (gI_add hz366488 bg366459 (gBl (show Int32.toInt 1 = 1 by decide)) (by decide) (by decide)) bg366459 (gBl (show Int32.toInt 1 = 1 by decide)) (by decide) (by decide)
                            refine G_mmax dr_cX17_share_141 wr_11_21 wr_1_140 wr_1_6 wr_1_141 (Nat.le_of_ble_eq_true rfl) (Nat.le_of_ble_eq_true rfl) (show 0 ≤ 0 by first | omega | decide) (show 0 ≤ 0 by first | omega | decide) (G_nam fun z366489 hz366489 => ?_)
                            have ez366489 : g365022.toInt ≤ z366489.toInt ∧ z366488.toInt ≤ z366489.toInt ∧ (z366489.toInt = g365022.toInt ∨ z366489.toInt = z366488.toInt) := by have := gI_max hz366489; omega
                            have bz366489 : gB z366489 1 1999 := ⟨by omega, by omega⟩
                            have bz366489' : gB z366489 1 100 := ⟨by omega, by omega⟩
                            refine G_istore_n (L' := [(2, .int z366489), (5, .int g366382), (4, .int g366459), (3, .int g365021), (0, .ref q344957), (1, .ref q344958)]) dr_cX17_share_144 (Nat.le_of_ble_eq_true rfl) rfl ?_
                            obtain ⟨z366490, hz366490⟩ : ∃ z : Int32, z = g365021 + Int32.ofInt 1 := ⟨_, rfl⟩
                            have ez366490 : z366490.toInt = g365021.toInt + 1 := gI_inc hz366490 (by decide) bg365021' (by decide) (by decide)
                            have bz366490 : gB z366490 1 100 := ⟨by omega, by omega⟩
                            refine G_iinc (L' := [(3, .int z366490), (2, .int z366489), (5, .int g366382), (4, .int g366459), (0, .ref q344957), (1, .ref q344958)]) z366490 3 dr_cX17_share_145 rfl hz366490.symm (Nat.le_of_ble_eq_true rfl) rfl ?_
                            refine G_goto 10 dr_cX17_share_148 (by decide +kernel) ?_
                            refine G_lv (L' := [(3, .int z366490), (2, .int z366489), (0, .ref q344957), (1, .ref q344958)]) [0, 1, 4, 5] rfl ?_
                            exact ih10_365030 F366468 z366490 z366489 (gB_w bz366490 (by decide) (by decide)) (gB_w bz366489' (by decide) (by decide)) hT366479 hs366475 (by rw [ez366490]; rw [cB_of he366473]; exact sl_u hf366471 (by omega) (by omega) (by omega) cq366463) (by omega) kp366476 fs366477 mk366474 (fun k e1 e2 ht => kt10_365031 k e1 e2 (fun R c1 c2 c3 => c3 F365023 g365021 g365022 p344968 F366172 F366383 g366459 f366397 f366471 F366468 f366482 z366483 z366488 z366489 z366490 k e1 e2 bg365021 bg365022 hT365024 hs365025 x365026 x365027 x365028 x365029 x365030 fq365040 r365753 hx366190 hx366401 hx366466 fq366467 he366396 hf366471 n366470 he366473 fq366478 he366481 hz366483 bz366483 r366487 ez366488 ez366489 ez366490 (ht R c1 c2 c3))) (mz_up ez366490 (Int.le_trans bg365021'.2 (by decide)) hm10_365030)
                        · have r366491 : g366459.toInt < g365021.toInt := gC_nle hc366464
                          have bg366459' : gB g366459 0 98 := ⟨by omega, by omega⟩
                          have bg365021'' : gB g365021 1 99 := ⟨by omega, by omega⟩
                          refine G_aload_n 4 dr_cX17_share_102 rfl ?_
                          have fq366492 : fR (F366383 q344957) 16 = (γ 9 16) := by rw [he366393]; rfl
                          refine Gp_get 16 hm366394 he366393 dr_cX17_share_103 (gk_X17 D I) (Nat.le_of_ble_eq_true rfl) wr_7_90 rfl ?_
                          refine G_iload 1 dr_cX17_share_106 rfl ?_
                          have hm366493 : (γ 9 16) ∈ P344955 := RS_m hT366384 ht344993 (by decide)
                          obtain ⟨f366495, he366494⟩ := show rk_19 I (F366383 (γ 9 16)) from RS_o hT366384 ht344993
                          refine Gp_iald 0 hm366493 he366494 dr_cX17_share_108 rfl (gB_in bg366459' (by decide) (by decide)) (G_nam fun z366496 hz366496 => ?_)
                          have bz366496 : gB z366496 (-2147483648) 2147483647 := gB_any z366496
                          refine G_iconst 1 dr_cX17_share_109 (by decide +kernel) ?_
                          refine G_icmp_ne 119 dr_cX17_share_110 (by decide +kernel) (fun hc366497 => ?_) (fun hc366497 => ?_)
                          · have r366498 : z366496.toInt ≠ 1 := gj_neq hc366497 (show Int32.toInt 1 = 1 by decide)
                            have hx366499 : tl_RModel_share_96 D I γ el g365021 F366383 q344957 (0 : Int32) 119 g366459 := kt96_366462 119 g366459 (fun R c1 c2 c3 => c2 g366459 f366495 z366496 bg366459 x366460 x366461 r366491 fq366492 he366494 hz366496 r366498)
                            refine G_aload_n 4 dr_cX17_share_119 rfl ?_
                            have fq366500 : fR (F366383 q344957) 19 = (γ 9 19) := by rw [he366393]; rfl
                            refine Gp_get 19 hm366394 he366393 dr_cX17_share_120 (gk_X17 D I) (Nat.le_of_ble_eq_true rfl) wr_7_93 rfl ?_
                            refine G_iload_n 2 dr_cX17_share_123 rfl ?_
                            refine G_iload 1 dr_cX17_share_124 rfl ?_
                            refine Gp_iast 0 hm366395 he366396 dr_cX17_share_126 rfl (gB_in bg365021'' (by decide) (by decide)) (fun F366501 e366502 n366503 => ?_)
                            obtain ⟨f366504, hf366504⟩ : ∃ z, z = upd f366397 g365021.toNatClampNeg g366459 := ⟨_, rfl⟩
                            rw [← hf366504] at e366502
                            have he366505 : F366501 q344957 = .inr (22, [.ref (γ 9 0), .ref (γ 9 1), .ref (γ 9 2), .ref (γ 9 3), .ref (γ 9 4), .ref (γ 9 5), .ref (γ 9 6), .ref (γ 9 7), .ref (γ 9 8), .int p344966, .int p344967, .int p344968, .int p344969, .int p344970, .int p344971, .ref (γ 9 15), .ref (γ 9 16), .ref (γ 9 17), .ref (γ 9 18), .ref (γ 9 19), .ref (γ 9 20), .ref (γ 9 21), .ref (γ 9 22), .int p344972, .int p344973, .int p344974, .int p344975, .int p344976, .ref q344964, .ref (γ 9 29), .int p344977, .ref (γ 9 31), .int p344978, .int p344979, .int p344980, .ref q344965]) := (n366503 q344957 (rn_oa he366393 he366396)).trans he366393
                            have he366506 : F366501 (γ 9 16) = .inl (I .int, 2000, .inl f366495) := (n366503 (γ 9 16) (rn_ty ht344993 ht344996 (by decide))).trans he366494
                            have he366507 : F366501 (γ 9 19) = .inl (I .int, 2000, .inl f366504) := e366502
                            have mk366508 : mKp (F344956 q344957) (F366501 q344957) := mKp_tr x366389 (mKp_eq (n366503 q344957 (rn_ty htq344957 ht344996 (by decide))))
                            have hs366509 : rStr γ [1] F344956 F366501 := rStr_put hs366385 n366503 ht344996 (by decide)
                            have kp366510 : F366501 q344957 = F344956 q344957 := (n366503 q344957 (rn_ty htq344957 ht344996 (by decide))).trans x366387
                            have fs366511 : rFs γ (γ 1 q344958) F344956 F366501 := rFs_pn x366388 n366503 ht344996 (by decide)
                            have bf366504 : gF f366504 (-1) 1999 := gF_upd hf366504 bf366397 (gB_w bg366459' (by decide) (by decide))
                            refine G_aload_n 4 dr_cX17_share_127 rfl ?_
                            have fq366512 : fR (F366501 q344957) 3 = (γ 9 3) := by rw [he366505]; rfl
                            refine Gp_get 3 hm366394 he366505 dr_cX17_share_128 (gk_X17 D I) (Nat.le_of_ble_eq_true rfl) wr_7_77 rfl ?_
                            refine G_iload_n 2 dr_cX17_share_131 rfl ?_
                            have hT366513 : RS D I P344955 F366501 γ el := RS_set hT366384 n366503 ht344996 (by decide) ⟨f366504, he366507, bf366504⟩
                            have hm366514 : (γ 9 3) ∈ P344955 := RS_m hT366513 ht344986 (by decide)
                            obtain ⟨f366516, he366515, bf366516⟩ := show rk_14 I (F366501 (γ 9 3)) from RS_o hT366513 ht344986
                            refine Gp_zald 3 hm366514 he366515 dr_cX17_share_132 rfl (gB_in bg365021'' (by decide) (by decide)) (G_nam fun z366517 hz366517 => ?_)
                            have bz366517 : gB z366517 0 1 := by rw [hz366517]; exact bf366516 _
                            refine G_if_eq 145 dr_cX17_share_133 (by decide +kernel) (fun hc366518 => ?_) (fun hc366518 => ?_)
                            · have r366519 : z366517.toInt = 0 := gj_eq hc366518 (show Int32.toInt 0 = 0 by decide)
                              have bz366517' : gB z366517 0 0 := gB_t0 r366519
                              obtain ⟨z366520, hz366520⟩ : ∃ z : Int32, z = g365021 + Int32.ofInt 1 := ⟨_, rfl⟩
                              have ez366520 : z366520.toInt = g365021.toInt + 1 := gI_inc hz366520 (by decide) bg365021'' (by decide) (by decide)
                              have bz366520 : gB z366520 2 100 := ⟨by omega, by omega⟩
                              refine G_iinc (L' := [(3, .int z366520), (5, .int g366382), (4, .int g366459), (2, .int g365022), (0, .ref q344957), (1, .ref q344958)]) z366520 2 dr_cX17_share_145 rfl hz366520.symm (Nat.le_of_ble_eq_true rfl) rfl ?_
                              refine G_goto 10 dr_cX17_share_148 (by decide +kernel) ?_
                              refine G_lv (L' := [(3, .int z366520), (2, .int g365022), (0, .ref q344957), (1, .ref q344958)]) [0, 3, 4, 5] rfl ?_
                              exact ih10_365030 F366501 z366520 g365022 (gB_w bz366520 (by decide) (by decide)) bg365022 hT366513 hs366509 (by rw [ez366520]; rw [cB_of he366507]; exact sl_u hf366504 (by omega) (by omega) (by omega) cq366463) (by omega) kp366510 fs366511 mk366508 (fun k e1 e2 ht => kt10_365031 k e1 e2 (fun R c1 c2 c3 => c2 F365023 g365021 g365022 p344968 F366172 F366383 g366459 f366397 f366504 F366501 f366516 z366517 z366520 k e1 e2 bg365021 bg365022 hT365024 hs365025 x365026 x365027 x365028 x365029 x365030 fq365040 r365753 hx366190 hx366401 hx366499 fq366500 he366396 hf366504 n366503 he366507 fq366512 he366515 hz366517 bz366517 r366519 ez366520 (ht R c1 c2 c3))) (mz_up ez366520 (Int.le_trans bg365021''.2 (by decide)) hm10_365030)
                            · have r366521 : z366517.toInt ≠ 0 := gj_neq hc366518 (show Int32.toInt 0 = 0 by decide)
                              have bz366517' : gB z366517 1 1 := gB_t1 bz366517 r366521
                              refine G_iload_n 3 dr_cX17_share_136 rfl ?_
                              refine G_iload 1 dr_cX17_share_137 rfl ?_
                              refine G_iconst 1 dr_cX17_share_139 (by decide +kernel) ?_
                              refine G_iadd dr_cX17_share_140 (G_nam fun z366522 hz366522 => ?_)
                              have ez366522 : z366522.toInt = g366459.toInt + 1 := by rw [gI_add hz366522 bg366459' (gBl (show Int32.toInt 1 = 1 by decide)) (by decide) (by decide), show Int32.toInt 1 = 1 from by decide]
                              have bz366522 : gB z366522 1 99 := gB_add (gI_add hz366522 bg366459' (gBl (show Int32.toInt 1 = 1 by decide)) (by decide) (by decide)) bg366459' (gBl (show Int32.toInt 1 = 1 by decide)) (by decide) (by decide)
                              refine G_mmax dr_cX17_share_141 wr_11_21 wr_1_140 wr_1_6 wr_1_141 (Nat.le_of_ble_eq_true rfl) (Nat.le_of_ble_eq_true rfl) (show 0 ≤ 0 by first | omega | decide) (show 0 ≤ 0 by first | omega | decide) (G_nam fun z366523 hz366523 => ?_)
                              have ez366523 : g365022.toInt ≤ z366523.toInt ∧ z366522.toInt ≤ z366523.toInt ∧ (z366523.toInt = g365022.toInt ∨ z366523.toInt = z366522.toInt) := by have := gI_max hz366523; omega
                              have bz366523 : gB z366523 1 1999 := ⟨by omega, by omega⟩
                              have bz366523' : gB z366523 1 100 := ⟨by omega, by omega⟩
                              refine G_istore_n (L' := [(2, .int z366523), (5, .int g366382), (4, .int g366459), (3, .int g365021), (0, .ref q344957), (1, .ref q344958)]) dr_cX17_share_144 (Nat.le_of_ble_eq_true rfl) rfl ?_
                              obtain ⟨z366524, hz366524⟩ : ∃ z : Int32, z = g365021 + Int32.ofInt 1 := ⟨_, rfl⟩
                              have ez366524 : z366524.toInt = g365021.toInt + 1 := gI_inc hz366524 (by decide) bg365021'' (by decide) (by decide)
                              have bz366524 : gB z366524 2 100 := ⟨by omega, by omega⟩
                              refine G_iinc (L' := [(3, .int z366524), (2, .int z366523), (5, .int g366382), (4, .int g366459), (0, .ref q344957), (1, .ref q344958)]) z366524 3 dr_cX17_share_145 rfl hz366524.symm (Nat.le_of_ble_eq_true rfl) rfl ?_
                              refine G_goto 10 dr_cX17_share_148 (by decide +kernel) ?_
                              refine G_lv (L' := [(3, .int z366524), (2, .int z366523), (0, .ref q344957), (1, .ref q344958)]) [0, 1, 4, 5] rfl ?_
                              exact ih10_365030 F366501 z366524 z366523 (gB_w bz366524 (by decide) (by decide)) (gB_w bz366523' (by decide) (by decide)) hT366513 hs366509 (by rw [ez366524]; rw [cB_of he366507]; exact sl_u hf366504 (by omega) (by omega) (by omega) cq366463) (by omega) kp366510 fs366511 mk366508 (fun k e1 e2 ht => kt10_365031 k e1 e2 (fun R c1 c2 c3 => c3 F365023 g365021 g365022 p344968 F366172 F366383 g366459 f366397 f366504 F366501 f366516 z366517 z366522 z366523 z366524 k e1 e2 bg365021 bg365022 hT365024 hs365025 x365026 x365027 x365028 x365029 x365030 fq365040 r365753 hx366190 hx366401 hx366499 fq366500 he366396 hf366504 n366503 he366507 fq366512 he366515 hz366517 bz366517 r366521 ez366522 ez366523 ez366524 (ht R c1 c2 c3))) (mz_up ez366524 (Int.le_trans bg365021''.2 (by decide)) hm10_365030)
                          · have r366525 : z366496.toInt = 1 := gj_eq hc366497 (show Int32.toInt 1 = 1 by decide)
                            have bz366496' : gB z366496 1 1 := ⟨by omega, by omega⟩
                            obtain ⟨z366526, hz366526⟩ : ∃ z : Int32, z = g366459 + Int32.ofInt 1 := ⟨_, rfl⟩
                            have ez366526 : z366526.toInt = g366459.toInt + 1 := gI_inc hz366526 (by decide) bg366459' (by decide) (by decide)
                            have bz366526 : gB z366526 1 99 := ⟨by omega, by omega⟩
                            refine G_iinc (L' := [(4, .int z366526), (5, .int g366382), (3, .int g365021), (2, .int g365022), (0, .ref q344957), (1, .ref q344958)]) z366526 1 dr_cX17_share_113 rfl hz366526.symm (Nat.le_of_ble_eq_true rfl) rfl ?_
                            refine G_goto 96 dr_cX17_share_116 (by decide +kernel) ?_
                            refine G_lv (L' := [(5, .int g366382), (4, .int z366526), (3, .int g365021), (2, .int g365022), (0, .ref q344957), (1, .ref q344958)]) [1, 0, 2, 3, 4, 5] rfl ?_
                            exact ih96_366461 z366526 (gB_w bz366526 (by decide) (by decide)) (by rw [cB_of he366396]; exact cq366463) (by omega) (fun k e1 ht => kt96_366462 k e1 (fun R c1 c2 c3 => c3 g366459 f366495 z366496 z366526 k e1 bg366459 x366460 x366461 r366491 fq366492 he366494 hz366496 r366525 ez366526 (ht R c1 c2 c3))) (mz_up ez366526 (Int.le_trans bg366459'.2 (by decide)) hm96_366461)
                    exact hlp96_366461 (((100 : Int) - 0).toNat + 1) 0 (gB_w (gBl (show Int32.toInt 0 = 0 by decide)) (by decide) (by decide)) (by rw [cB_of he366396]; exact cq366398) (by have qa0 : Int32.toInt 0 = 0 := (by decide); omega) (fun k e1 ht => ht) (Nat.lt_succ_self _)
                  · have r366527 : g366382.toInt < g365021.toInt := gC_nle hc366399
                    have bg366382' : gB g366382 0 98 := ⟨by omega, by omega⟩
                    have bg365021'' : gB g365021 1 99 := ⟨by omega, by omega⟩
                    refine G_aload_n 4 dr_cX17_share_53 rfl ?_
                    have fq366528 : fR (F366383 q344957) 3 = (γ 9 3) := by rw [he366393]; rfl
                    refine Gp_get 3 hm366394 he366393 dr_cX17_share_54 (gk_X17 D I) (Nat.le_of_ble_eq_true rfl) wr_7_77 rfl ?_
                    refine G_iload 0 dr_cX17_share_57 rfl ?_
                    have hm366529 : (γ 9 3) ∈ P344955 := RS_m hT366384 ht344986 (by decide)
                    obtain ⟨f366531, he366530, bf366531⟩ := show rk_14 I (F366383 (γ 9 3)) from RS_o hT366384 ht344986
                    refine Gp_zald 3 hm366529 he366530 dr_cX17_share_59 rfl (gB_in bg366382' (by decide) (by decide)) (G_nam fun z366532 hz366532 => ?_)
                    have bz366532 : gB z366532 0 1 := by rw [hz366532]; exact bf366531 _
                    refine G_if_eq 90 dr_cX17_share_60 (by decide +kernel) (fun hc366533 => ?_) (fun hc366533 => ?_)
                    · have r366534 : z366532.toInt = 0 := gj_eq hc366533 (show Int32.toInt 0 = 0 by decide)
                      have bz366532' : gB z366532 0 0 := gB_t0 r366534
                      obtain ⟨z366535, hz366535⟩ : ∃ z : Int32, z = g366382 + Int32.ofInt 1 := ⟨_, rfl⟩
                      have ez366535 : z366535.toInt = g366382.toInt + 1 := gI_inc hz366535 (by decide) bg366382' (by decide) (by decide)
                      have bz366535 : gB z366535 1 99 := ⟨by omega, by omega⟩
                      refine G_iinc (L' := [(5, .int z366535), (4, .int 0), (3, .int g365021), (2, .int g365022), (0, .ref q344957), (1, .ref q344958)]) z366535 0 dr_cX17_share_90 rfl hz366535.symm (Nat.le_of_ble_eq_true rfl) rfl ?_
                      refine G_goto 47 dr_cX17_share_93 (by decide +kernel) ?_
                      exact ih47_366389 F366383 z366535 (gB_w bz366535 (by decide) (by decide)) hT366384 hs366385 (by rw [cB_of he366396]; exact cq366398) x366387 x366388 x366389 (fun k e1 ht => kt47_366390 k e1 (fun R c1 c2 c3 c4 => c2 F366383 g366382 f366531 z366532 z366535 k e1 bg366382 hT366384 hs366385 x366386 x366387 x366388 x366389 r366527 fq366528 he366530 hz366532 bz366532 r366534 ez366535 (ht R c1 c2 c3 c4))) (mz_up ez366535 (Int.le_trans bg366382'.2 (by decide)) hm47_366389)
                    · have r366536 : z366532.toInt ≠ 0 := gj_neq hc366533 (show Int32.toInt 0 = 0 by decide)
                      have bz366532' : gB z366532 1 1 := gB_t1 bz366532 r366536
                      refine G_aload_n 4 dr_cX17_share_63 rfl ?_
                      have fq366537 : fR (F366383 q344957) 1 = (γ 9 1) := by rw [he366393]; rfl
                      refine Gp_get 1 hm366394 he366393 dr_cX17_share_64 (gk_X17 D I) (Nat.le_of_ble_eq_true rfl) wr_7_75 rfl ?_
                      refine G_iload_n 2 dr_cX17_share_67 rfl ?_
                      have hm366538 : (γ 9 1) ∈ P344955 := RS_m hT366384 ht344984 (by decide)
                      obtain ⟨f366540, he366539, hg366541⟩ := show rk_13 I γ (F366383 (γ 9 1)) from RS_o hT366384 ht344984
                      obtain ⟨q366542, hx366544⟩ : ∃ x, x = γ 11 g365021.toInt.toNat := ⟨_, rfl⟩
                      have ht366543 : rKd γ q366542 36 := by rw [hx366544]; exact (hg366541 _ (show g365021.toInt.toNat < 2000 by omega)).2.1
                      refine Gp_aald 5 hm366538 he366539 dr_cX17_share_68 rfl rfl (gB_in bg365021'' (by decide) (by decide)) ?_
                      rw [show f366540 g365021.toNatClampNeg = some q366542 from (hg366541 _ (show g365021.toInt.toNat < 2000 by omega)).1.trans (by rw [hx366544])]
                      change G _ _ _ _ _ _ _ (.ref q366542 :: _) _ _ _
                      refine G_iload 0 dr_cX17_share_69 rfl ?_
                      have hm366545 : q366542 ∈ P344955 := RS_m hT366384 ht366543 (by decide)
                      obtain ⟨f366547, he366546, wf366547⟩ := show rk_36 I (F366383 q366542) from RS_o hT366384 ht366543
                      refine Gw_callS (As := [.ref q366542, .int g366382]) (gV_ok D I) (cp_1845_SpillForgeModel_has l hl0 D I P344955 F366383 q366542 g366382 f366547 hm366545 he366546 (gB_w bg366382' (by decide) (by decide))) dr_cX17_share_71 ⟨wr_10_203, wr_1_14, wr_10_205, by decide, rfl, (Nat.le_of_ble_eq_true rfl), (Nat.le_of_ble_eq_true rfl)⟩ wr_10_204 (show 0 + 0 ≤ 0 by first | omega | decide) (show 0 + 0 ≤ 0 by first | omega | decide) (Nat.le_of_ble_eq_true rfl) (fun r366551 w366552 dc366548 ds366549 hp366550 => ?_) (fun _ _ _ _ _ z => z.elim)
                      rcases hp366550 with ⟨z366553, z366554, rfl, rfl, hdc, hds, r366555, r366556, r366557, r366558, r366559⟩ | ⟨z366560, z366561, rfl, rfl, hdc, hds, r366562, r366563, r366564, r366565, r366566⟩
                      · change G _ _ _ _ _ _ _ (.int 0 :: _) _ _ _
                        refine G_widen (cs' := 0) (sl' := 0) (by omega) (by omega) ?_
                        refine G_if_eq 90 dr_cX17_share_74 (by decide +kernel) (fun _ => ?_) (fun hc => absurd hc (by decide))
                        obtain ⟨z366568, hz366568⟩ : ∃ z : Int32, z = g366382 + Int32.ofInt 1 := ⟨_, rfl⟩
                        have ez366568 : z366568.toInt = g366382.toInt + 1 := gI_inc hz366568 (by decide) bg366382' (by decide) (by decide)
                        have bz366568 : gB z366568 1 99 := ⟨by omega, by omega⟩
                        refine G_iinc (L' := [(5, .int z366568), (4, .int 0), (3, .int g365021), (2, .int g365022), (0, .ref q344957), (1, .ref q344958)]) z366568 0 dr_cX17_share_90 rfl hz366568.symm (Nat.le_of_ble_eq_true rfl) rfl ?_
                        refine G_goto 47 dr_cX17_share_93 (by decide +kernel) ?_
                        exact ih47_366389 F366383 z366568 (gB_w bz366568 (by decide) (by decide)) hT366384 hs366385 (by rw [cB_of he366396]; exact cq366398) x366387 x366388 x366389 (fun k e1 ht => kt47_366390 k e1 (fun R c1 c2 c3 c4 => c3 F366383 g366382 f366531 z366532 q366542 f366547 z366568 k e1 bg366382 hT366384 hs366385 x366386 x366387 x366388 x366389 r366527 fq366528 he366530 hz366532 bz366532 r366536 fq366537 hx366544 he366546 r366559 ez366568 (ht R c1 c2 c3 c4))) (mz_up ez366568 (Int.le_trans bg366382'.2 (by decide)) hm47_366389)
                      · change G _ _ _ _ _ _ _ (.int 1 :: _) _ _ _
                        refine G_widen (cs' := 0) (sl' := 0) (by omega) (by omega) ?_
                        refine G_if_eq 90 dr_cX17_share_74 (by decide +kernel) (fun hc => absurd hc (by decide)) (fun _ => ?_)
                        refine G_aload_n 4 dr_cX17_share_77 rfl ?_
                        have fq366569 : fR (F366383 q344957) 16 = (γ 9 16) := by rw [he366393]; rfl
                        refine Gp_get 16 hm366394 he366393 dr_cX17_share_78 (gk_X17 D I) (Nat.le_of_ble_eq_true rfl) wr_7_90 rfl ?_
                        refine G_aload_n 4 dr_cX17_share_81 rfl ?_
                        have fq366570 : fR (F366383 q344957) 19 = (γ 9 19) := by rw [he366393]; rfl
                        refine Gp_get 19 hm366394 he366393 dr_cX17_share_82 (gk_X17 D I) (Nat.le_of_ble_eq_true rfl) wr_7_93 rfl ?_
                        refine G_iload 0 dr_cX17_share_85 rfl ?_
                        refine Gp_iald 0 hm366395 he366396 dr_cX17_share_87 rfl (gB_in bg366382' (by decide) (by decide)) (G_nam fun z366571 hz366571 => ?_)
                        have bz366571 : gB z366571 (-1) 1999 := by rw [hz366571]; exact bf366397 _
                        have r366572 : 0 ≤ z366571.toInt := by rw [hz366571]; exact (cq366398 g366382.toInt.toNat (by omega)).1
                        have bz366571' : gB z366571 0 1999 := ⟨by omega, by omega⟩
                        refine G_iconst 1 dr_cX17_share_88 (by decide +kernel) ?_
                        have hm366573 : (γ 9 16) ∈ P344955 := RS_m hT366384 ht344993 (by decide)
                        obtain ⟨f366575, he366574⟩ := show rk_19 I (F366383 (γ 9 16)) from RS_o hT366384 ht344993
                        refine Gp_iast 0 hm366573 he366574 dr_cX17_share_89 rfl (gB_in bz366571' (by decide) (by decide)) (fun F366576 e366577 n366578 => ?_)
                        obtain ⟨f366579, hf366579⟩ : ∃ z, z = upd f366575 z366571.toNatClampNeg 1 := ⟨_, rfl⟩
                        rw [← hf366579] at e366577
                        have he366580 : F366576 q344957 = .inr (22, [.ref (γ 9 0), .ref (γ 9 1), .ref (γ 9 2), .ref (γ 9 3), .ref (γ 9 4), .ref (γ 9 5), .ref (γ 9 6), .ref (γ 9 7), .ref (γ 9 8), .int p344966, .int p344967, .int p344968, .int p344969, .int p344970, .int p344971, .ref (γ 9 15), .ref (γ 9 16), .ref (γ 9 17), .ref (γ 9 18), .ref (γ 9 19), .ref (γ 9 20), .ref (γ 9 21), .ref (γ 9 22), .int p344972, .int p344973, .int p344974, .int p344975, .int p344976, .ref q344964, .ref (γ 9 29), .int p344977, .ref (γ 9 31), .int p344978, .int p344979, .int p344980, .ref q344965]) := (n366578 q344957 (rn_oa he366393 he366574)).trans he366393
                        have he366581 : F366576 (γ 9 19) = .inl (I .int, 2000, .inl f366397) := (n366578 (γ 9 19) (rn_ty ht344996 ht344993 (by decide))).trans he366396
                        have he366582 : F366576 (γ 9 3) = .inl (I .boolean, 2000, .inl f366531) := (n366578 (γ 9 3) (rn_ty ht344986 ht344993 (by decide))).trans he366530
                        have he366583 : F366576 (γ 9 1) = .inl (I (.array .long), 2000, .inr (.inr (.inr (.inr f366540)))) := (n366578 (γ 9 1) (rn_ref_num he366539 he366574)).trans he366539
                        have he366584 : F366576 q366542 = .inl (I .long, 32, .inr (.inl f366547)) := (n366578 q366542 (rn_long_num he366546 he366574)).trans he366546
                        have he366585 : F366576 (γ 9 16) = .inl (I .int, 2000, .inl f366579) := e366577
                        have mk366586 : mKp (F344956 q344957) (F366576 q344957) := mKp_tr x366389 (mKp_eq (n366578 q344957 (rn_ty htq344957 ht344993 (by decide))))
                        have hs366587 : rStr γ [1] F344956 F366576 := rStr_put hs366385 n366578 ht344993 (by decide)
                        have kp366588 : F366576 q344957 = F344956 q344957 := (n366578 q344957 (rn_ty htq344957 ht344993 (by decide))).trans x366387
                        have fs366589 : rFs γ (γ 1 q344958) F344956 F366576 := rFs_pn x366388 n366578 ht344993 (by decide)
                        obtain ⟨z366590, hz366590⟩ : ∃ z : Int32, z = g366382 + Int32.ofInt 1 := ⟨_, rfl⟩
                        have ez366590 : z366590.toInt = g366382.toInt + 1 := gI_inc hz366590 (by decide) bg366382' (by decide) (by decide)
                        have bz366590 : gB z366590 1 99 := ⟨by omega, by omega⟩
                        refine G_iinc (L' := [(5, .int z366590), (4, .int 0), (3, .int g365021), (2, .int g365022), (0, .ref q344957), (1, .ref q344958)]) z366590 0 dr_cX17_share_90 rfl hz366590.symm (Nat.le_of_ble_eq_true rfl) rfl ?_
                        refine G_goto 47 dr_cX17_share_93 (by decide +kernel) ?_
                        have hT366591 : RS D I P344955 F366576 γ el := RS_set hT366384 n366578 ht344993 (by decide) ⟨f366579, he366585⟩
                        exact ih47_366389 F366576 z366590 (gB_w bz366590 (by decide) (by decide)) hT366591 hs366587 (by rw [cB_of he366581]; exact cq366398) kp366588 fs366589 mk366586 (fun k e1 ht => kt47_366390 k e1 (fun R c1 c2 c3 c4 => c4 F366383 g366382 f366531 z366532 q366542 f366547 f366397 z366571 f366575 f366579 F366576 z366590 k e1 bg366382 hT366384 hs366385 x366386 x366387 x366388 x366389 r366527 fq366528 he366530 hz366532 bz366532 r366536 fq366537 hx366544 he366546 r366566 fq366569 fq366570 he366396 hz366571 bz366571 he366574 hf366579 n366578 he366585 ez366590 (ht R c1 c2 c3 c4))) (mz_up ez366590 (Int.le_trans bg366382'.2 (by decide)) hm47_366389)
              exact hlp47_366389 (((100 : Int) - 0).toNat + 1) F366172 0 (gB_w (gBl (show Int32.toInt 0 = 0 by decide)) (by decide) (by decide)) hT366173 hs366174 (by rw [cB_of he366185]; exact cq366187) x366176 x366177 x366178 (fun k e1 ht => ht) (Nat.lt_succ_self _)
            · have r366592 : g366171.toInt < g365021.toInt := gC_nle hc366188
              have bg366171' : gB g366171 0 98 := ⟨by omega, by omega⟩
              have bg365021'' : gB g365021 1 99 := ⟨by omega, by omega⟩
              refine G_aload_n 4 dr_cX17_share_30 rfl ?_
              have fq366593 : fR (F366172 q344957) 16 = (γ 9 16) := by rw [he366182]; rfl
              refine Gp_get 16 hm366183 he366182 dr_cX17_share_31 (gk_X17 D I) (Nat.le_of_ble_eq_true rfl) wr_7_90 rfl ?_
              refine G_iload 0 dr_cX17_share_34 rfl ?_
              refine G_iconst 0 dr_cX17_share_36 (by decide +kernel) ?_
              have hm366594 : (γ 9 16) ∈ P344955 := RS_m hT366173 ht344993 (by decide)
              obtain ⟨f366596, he366595⟩ := show rk_19 I (F366172 (γ 9 16)) from RS_o hT366173 ht344993
              refine Gp_iast 0 hm366594 he366595 dr_cX17_share_37 rfl (gB_in bg366171' (by decide) (by decide)) (fun F366597 e366598 n366599 => ?_)
              obtain ⟨f366600, hf366600⟩ : ∃ z, z = upd f366596 g366171.toNatClampNeg 0 := ⟨_, rfl⟩
              rw [← hf366600] at e366598
              have he366601 : F366597 q344957 = .inr (22, [.ref (γ 9 0), .ref (γ 9 1), .ref (γ 9 2), .ref (γ 9 3), .ref (γ 9 4), .ref (γ 9 5), .ref (γ 9 6), .ref (γ 9 7), .ref (γ 9 8), .int p344966, .int p344967, .int p344968, .int p344969, .int p344970, .int p344971, .ref (γ 9 15), .ref (γ 9 16), .ref (γ 9 17), .ref (γ 9 18), .ref (γ 9 19), .ref (γ 9 20), .ref (γ 9 21), .ref (γ 9 22), .int p344972, .int p344973, .int p344974, .int p344975, .int p344976, .ref q344964, .ref (γ 9 29), .int p344977, .ref (γ 9 31), .int p344978, .int p344979, .int p344980, .ref q344965]) := (n366599 q344957 (rn_oa he366182 he366595)).trans he366182
              have he366602 : F366597 (γ 9 19) = .inl (I .int, 2000, .inl f366186) := (n366599 (γ 9 19) (rn_ty ht344996 ht344993 (by decide))).trans he366185
              have he366603 : F366597 (γ 9 16) = .inl (I .int, 2000, .inl f366600) := e366598
              have mk366604 : mKp (F344956 q344957) (F366597 q344957) := mKp_tr x366178 (mKp_eq (n366599 q344957 (rn_ty htq344957 ht344993 (by decide))))
              have hs366605 : rStr γ [1] F344956 F366597 := rStr_put hs366174 n366599 ht344993 (by decide)
              have kp366606 : F366597 q344957 = F344956 q344957 := (n366599 q344957 (rn_ty htq344957 ht344993 (by decide))).trans x366176
              have fs366607 : rFs γ (γ 1 q344958) F344956 F366597 := rFs_pn x366177 n366599 ht344993 (by decide)
              obtain ⟨z366608, hz366608⟩ : ∃ z : Int32, z = g366171 + Int32.ofInt 1 := ⟨_, rfl⟩
              have ez366608 : z366608.toInt = g366171.toInt + 1 := gI_inc hz366608 (by decide) bg366171' (by decide) (by decide)
              have bz366608 : gB z366608 1 99 := ⟨by omega, by omega⟩
              refine G_iinc (L' := [(5, .int z366608), (4, .int 0), (3, .int g365021), (2, .int g365022), (0, .ref q344957), (1, .ref q344958)]) z366608 0 dr_cX17_share_38 rfl hz366608.symm (Nat.le_of_ble_eq_true rfl) rfl ?_
              refine G_goto 24 dr_cX17_share_41 (by decide +kernel) ?_
              have hT366609 : RS D I P344955 F366597 γ el := RS_set hT366173 n366599 ht344993 (by decide) ⟨f366600, he366603⟩
              exact ih24_366178 F366597 z366608 (gB_w bz366608 (by decide) (by decide)) hT366609 hs366605 (by rw [cB_of he366602]; exact cq366187) kp366606 fs366607 mk366604 (fun k e1 ht => kt24_366179 k e1 (fun R c1 c2 => c2 F366172 g366171 f366596 f366600 F366597 z366608 k e1 bg366171 hT366173 hs366174 x366175 x366176 x366177 x366178 r366592 fq366593 he366595 hf366600 n366599 he366603 ez366608 (ht R c1 c2))) (mz_up ez366608 (Int.le_trans bg366171'.2 (by decide)) hm24_366178)
        exact hlp24_366178 (((2000 : Int) - 0).toNat + 1) F365023 0 (gB_w (gBl (show Int32.toInt 0 = 0 by decide)) (by decide) (by decide)) hT365024 hs365025 (by rw [cB_of he365037]; exact cq365039) x365028 x365029 x365030 (fun k e1 ht => ht) (Nat.lt_succ_self _)
  exact hlp10_365030 (((101 : Int) - 0).toNat + 1) F345021 0 0 (gB_w (gBl (show Int32.toInt 0 = 0 by decide)) (by decide) (by decide)) (gB_w (gBl (show Int32.toInt 0 = 0 by decide)) (by decide) (by decide)) hT345022 hs345024 (fun q hq => absurd hq (by have qa : Int32.toInt 0 = 0 := (by decide); omega)) (by have qa0 : Int32.toInt 0 = 0 := (by decide); omega) kp345026 fs345025 mk345027 (fun k e1 e2 ht => ht) (Nat.lt_succ_self _)
/- tl_RModel_zeros_10: P, F, gm, el, l3, l2; out: F, P, gm, el -/
def tl_RModel_zeros_10 (D : va_G) (I : FieldType → ClassId) (γ0 el0 : Nat → Nat → Nat) (f : Nat) (P : List Nat) (F : Nat → va_E) (q1 : Nat) (q0 : Nat) (s1 : List Nat) (s2 : Nat → va_E) (s3 : Nat → Nat → Nat) (s4 : Nat → Nat → Nat) (s5 : Int32) (s6 : Int32) (k : Nat) (e1 : Nat → va_E) (e2 : List Nat) (e3 : Nat → Nat → Nat) (e4 : Nat → Nat → Nat) : Prop := ∀ R : (List Nat) → (Nat → va_E) → (Nat → Nat → Nat) → (Nat → Nat → Nat) → (Int32) → (Int32) → Nat → (Nat → va_E) → (List Nat) → (Nat → Nat → Nat) → (Nat → Nat → Nat) → Prop,
  (∀ (P_1 : List Nat) (F_1 : Nat → va_E) (gm_1 : Nat → Nat → Nat) (el_1 : Nat → Nat → Nat) (l3_1 : Int32) (l2_1 : Int32), gB l3_1 0 2000 → gB l2_1 0 2000 → RS D I P_1 F_1 gm_1 el_1 → rSk f [101] ([1, 3, 5, 6, 8, 9, 101] ++ npk) D I P F γ0 el0 P_1 F_1 gm_1 el_1 → gm_1 6 f = γ0 6 f → gm_1 7 f = γ0 7 f → gm_1 18 f = γ0 18 f → gm_1 16 f ≤ γ0 16 f + (l2_1.toInt : Int).toNat → l2_1.toInt ≤ l3_1.toInt → (l2_1.toInt : Int) ≤ gm_1 2 (gm_1 14 (el_1 (gm_1 14 q1) (0 : Int32).toInt.toNat)) → (F_1 q0 = F q0) → 2000 ≤ l3_1.toInt → R P_1 F_1 gm_1 el_1 l3_1 l2_1 74 F_1 P_1 gm_1 el_1) →
  (∀ (P_1 : List Nat) (F_1 : Nat → va_E) (gm_1 : Nat → Nat → Nat) (el_1 : Nat → Nat → Nat) (l3_1 : Int32) (l2_1 : Int32) (x1 : Nat) (x2 : Nat → Int64) (x3 : Int32) (k : Nat) (e1 : Nat → va_E) (e2 : List Nat) (e3 : Nat → Nat → Nat) (e4 : Nat → Nat → Nat), gB l3_1 0 2000 → gB l2_1 0 2000 → RS D I P_1 F_1 gm_1 el_1 → rSk f [101] ([1, 3, 5, 6, 8, 9, 101] ++ npk) D I P F γ0 el0 P_1 F_1 gm_1 el_1 → gm_1 6 f = γ0 6 f → gm_1 7 f = γ0 7 f → gm_1 18 f = γ0 18 f → gm_1 16 f ≤ γ0 16 f + (l2_1.toInt : Int).toNat → l2_1.toInt ≤ l3_1.toInt → (l2_1.toInt : Int) ≤ gm_1 2 (gm_1 14 (el_1 (gm_1 14 q1) (0 : Int32).toInt.toNat)) → (F_1 q0 = F q0) → l3_1.toInt < 2000 → fR (F_1 q0) 0 = (gm_1 9 0) → x1 = gm_1 10 (0 : Int32).toInt.toNat → F_1 x1 = .inl (I .long, 32, .inr (.inl x2)) → tr_RModel_has l3_1 x2 (0 : Int32) → x3.toInt = l3_1.toInt + 1 → R P_1 F_1 gm_1 el_1 x3 l2_1 k e1 e2 e3 e4 → R P_1 F_1 gm_1 el_1 l3_1 l2_1 k e1 e2 e3 e4) →
  (∀ (P_1 : List Nat) (F_1 : Nat → va_E) (gm_1 : Nat → Nat → Nat) (el_1 : Nat → Nat → Nat) (l3_1 : Int32) (l2_1 : Int32) (x1 : Nat) (x2 : Nat → Int64) (x3 : Nat) (x4 : Nat) (x5 : List Nat) (x6 : Nat → va_E) (x7 : Nat → Nat → Nat) (x8 : Nat → Nat → Nat) (x9 : Nat) (x10 : Nat) (x11 : Nat) (x12 : Nat → va_E) (x13 : Nat → va_E) (x14 : Nat) (x15 : Nat) (x16 : Int32) (x17 : Nat) (x18 : List Nat) (x19 : Nat → va_E) (x20 : Nat → Nat → Nat) (x21 : Nat → Nat → Nat) (x22 : Nat) (x23 : Nat) (x24 : Int32) (x25 : Int32) (k : Nat) (e1 : Nat → va_E) (e2 : List Nat) (e3 : Nat → Nat → Nat) (e4 : Nat → Nat → Nat), gB l3_1 0 2000 → gB l2_1 0 2000 → RS D I P_1 F_1 gm_1 el_1 → rSk f [101] ([1, 3, 5, 6, 8, 9, 101] ++ npk) D I P F γ0 el0 P_1 F_1 gm_1 el_1 → gm_1 6 f = γ0 6 f → gm_1 7 f = γ0 7 f → gm_1 18 f = γ0 18 f → gm_1 16 f ≤ γ0 16 f + (l2_1.toInt : Int).toNat → l2_1.toInt ≤ l3_1.toInt → (l2_1.toInt : Int) ≤ gm_1 2 (gm_1 14 (el_1 (gm_1 14 q1) (0 : Int32).toInt.toNat)) → (F_1 q0 = F q0) → l3_1.toInt < 2000 → fR (F_1 q0) 0 = (gm_1 9 0) → x1 = gm_1 10 (0 : Int32).toInt.toNat → F_1 x1 = .inl (I .long, 32, .inr (.inl x2)) → tr_RModel_has l3_1 x2 (1 : Int32) → fR (F_1 q1) 0 = x3 → x4 = el_1 x3 (0 : Int32).toInt.toNat → rRq D I P_1 F_1 gm_1 el_1 f q1 x5 x6 x7 x8 x9 x10 x11 → (∀ b, b ≠ x9 → x12 b = x6 b) → x12 x9 = cF (x6 x9) 0 (.int 0) → (∀ b, b ≠ x9 → x13 b = x12 b) → x13 x9 = cF (x12 x9) 1 (.int l3_1) → fR (x13 q1) 0 = x14 → x15 = x8 x14 (0 : Int32).toInt.toNat → fI (x13 x14) 2 = x16 → tr_RCode_get (0 : Int32) x16 → fR (x13 x15) 0 = x17 → rIq D I x5 x13 x7 x8 f x17 l2_1.toInt.toNat x9 x18 x19 x20 x21 x22 x23 → x24.toInt = l2_1.toInt + 1 → x25.toInt = l3_1.toInt + 1 → R x18 x19 x20 x21 x25 x24 k e1 e2 e3 e4 → R P_1 F_1 gm_1 el_1 l3_1 l2_1 k e1 e2 e3 e4) →
  R s1 s2 s3 s4 s5 s6 k e1 e2 e3 e4
/- tr_RModel_zeros: P, F, gm, el -/
def tr_RModel_zeros (D : va_G) (I : FieldType → ClassId) (γ0 el0 : Nat → Nat → Nat) (f : Nat) (P : List Nat) (F : Nat → va_E) (q0 : Nat) (q1 : Nat) (o1 : List Nat) (o2 : Nat → va_E) (o3 : Nat → Nat → Nat) (o4 : Nat → Nat → Nat) : Prop := ∀ R : (List Nat) → (Nat → va_E) → (Nat → Nat → Nat) → (Nat → Nat → Nat) → Prop,
  (∀ (x1 : Nat → Nat → Nat) (x2 : Nat → Nat → Nat) (x3 : Nat → va_E) (x4 : Nat → va_E) (x5 : List Nat) (x6 : Nat → Nat → Nat) (x7 : Nat → Nat → Nat), x1 = γ0 → x2 = el0 → RS D I P x3 x1 x2 → rStr x1 [] F x3 → (x3 q0 = F q0) → tr_RModel_findLive D I x1 x2 P F q0 q1 (0 : Int32) x3 → tl_RModel_zeros_10 D I γ0 el0 f P F q1 q0 P x3 x1 x2 (0 : Int32) (0 : Int32) 74 x4 x5 x6 x7 → R x5 x4 x6 x7) →
  R o1 o2 o3 o4
