theorem dr_cX17_coloured_0 : decode cX17_coloured 0 = .ok (.aload_n 1, 1) := by decide +kernel
theorem dr_cX17_coloured_1 : decode cX17_coloured 1 = .ok (.invokevirtual 70, 3) := by decide +kernel
theorem dr_cX17_coloured_4 : decode cX17_coloured 4 = .ok (.ifCond .eq 16, 3) := by decide +kernel
theorem dr_cX17_coloured_20 : decode cX17_coloured 20 = .ok (.aload_n 1, 1) := by decide +kernel
theorem dr_cX17_coloured_21 : decode cX17_coloured 21 = .ok (.invokevirtual 76, 3) := by decide +kernel
theorem dr_cX17_coloured_24 : decode cX17_coloured 24 = .ok (.ifCond .eq 16, 3) := by decide +kernel
theorem dr_cX17_coloured_40 : decode cX17_coloured 40 = .ok (.aload_n 1, 1) := by decide +kernel
theorem dr_cX17_coloured_41 : decode cX17_coloured 41 = .ok (.invokevirtual 48, 3) := by decide +kernel
theorem dr_cX17_coloured_44 : decode cX17_coloured 44 = .ok (.ifCond .eq 16, 3) := by decide +kernel
theorem dr_cX17_coloured_60 : decode cX17_coloured 60 = .ok (.return_, 1) := by decide +kernel
theorem dr_cX17_coloured_47 : decode cX17_coloured 47 = .ok (.aload_n 1, 1) := by decide +kernel
theorem dr_cX17_coloured_48 : decode cX17_coloured 48 = .ok (.aload_n 0, 1) := by decide +kernel
theorem dr_cX17_coloured_49 : decode cX17_coloured 49 = .ok (.getfield 212, 3) := by decide +kernel
theorem dr_cX17_coloured_52 : decode cX17_coloured 52 = .ok (.aload_n 1, 1) := by decide +kernel
theorem dr_cX17_coloured_53 : decode cX17_coloured 53 = .ok (.getfield 52, 3) := by decide +kernel
theorem dr_cX17_coloured_56 : decode cX17_coloured 56 = .ok (.iaload, 1) := by decide +kernel
theorem dr_cX17_coloured_57 : decode cX17_coloured 57 = .ok (.putfield 52, 3) := by decide +kernel
theorem dr_cX17_coloured_27 : decode cX17_coloured 27 = .ok (.aload_n 1, 1) := by decide +kernel
theorem dr_cX17_coloured_28 : decode cX17_coloured 28 = .ok (.aload_n 0, 1) := by decide +kernel
theorem dr_cX17_coloured_29 : decode cX17_coloured 29 = .ok (.getfield 212, 3) := by decide +kernel
theorem dr_cX17_coloured_32 : decode cX17_coloured 32 = .ok (.aload_n 1, 1) := by decide +kernel
theorem dr_cX17_coloured_33 : decode cX17_coloured 33 = .ok (.getfield 79, 3) := by decide +kernel
theorem dr_cX17_coloured_36 : decode cX17_coloured 36 = .ok (.iaload, 1) := by decide +kernel
theorem dr_cX17_coloured_37 : decode cX17_coloured 37 = .ok (.putfield 79, 3) := by decide +kernel
theorem dr_cX17_coloured_7 : decode cX17_coloured 7 = .ok (.aload_n 1, 1) := by decide +kernel
theorem dr_cX17_coloured_8 : decode cX17_coloured 8 = .ok (.aload_n 0, 1) := by decide +kernel
theorem dr_cX17_coloured_9 : decode cX17_coloured 9 = .ok (.getfield 212, 3) := by decide +kernel
theorem dr_cX17_coloured_12 : decode cX17_coloured 12 = .ok (.aload_n 1, 1) := by decide +kernel
theorem dr_cX17_coloured_13 : decode cX17_coloured 13 = .ok (.getfield 73, 3) := by decide +kernel
theorem dr_cX17_coloured_16 : decode cX17_coloured 16 = .ok (.iaload, 1) := by decide +kernel
theorem dr_cX17_coloured_17 : decode cX17_coloured 17 = .ok (.putfield 73, 3) := by decide +kernel
theorem dr_cX17_share_0 : decode cX17_share 0 = .ok (.aload_n 0, 1) := by decide +kernel
theorem dr_cX17_share_1 : decode cX17_share 1 = .ok (.aload_n 1, 1) := by decide +kernel
theorem dr_cX17_share_2 : decode cX17_share 2 = .ok (.iconst 1, 1) := by decide +kernel
theorem dr_cX17_share_3 : decode cX17_share 3 = .ok (.invokevirtual 243, 3) := by decide +kernel
theorem wr_10_233 : (Jvm.Cond.methodLink "SpillForgeModel" (243 : Nat) ({ cls := "SpillForgeModel", name := "graph", desc := "(LSpillForgeModel$Code;Z)V" } : Jvm.MethodName)) ∈ gw := gw_10 233 rfl rfl
theorem wr_10_236 : (Jvm.Cond.code ({ cls := "SpillForgeModel", name := "graph", desc := "(LSpillForgeModel$Code;Z)V" } : Jvm.MethodName) prog_14_method_10_code (11 : Nat) (Option.none : Option Jvm.ClassFile.FieldType)) ∈ gw := gw_10 236 rfl rfl
theorem wr_10_235 : (Jvm.Cond.instanceMethod ({ cls := "SpillForgeModel", name := "graph", desc := "(LSpillForgeModel$Code;Z)V" } : Jvm.MethodName)) ∈ gw := gw_10 235 rfl rfl
theorem wr_p_99 : Cond.selects "SpillForgeModel" ⟨"SpillForgeModel", "graph", "(LSpillForgeModel$Code;Z)V"⟩ ⟨"SpillForgeModel", "graph", "(LSpillForgeModel$Code;Z)V"⟩ ∈ gw := gw_p _ 99 rfl rfl rfl
theorem dr_cX17_share_6 : decode cX17_share 6 = .ok (.iconst 0, 1) := by decide +kernel
theorem dr_cX17_share_7 : decode cX17_share 7 = .ok (.istore_n 2, 1) := by decide +kernel
theorem dr_cX17_share_8 : decode cX17_share 8 = .ok (.iconst 0, 1) := by decide +kernel
theorem dr_cX17_share_9 : decode cX17_share 9 = .ok (.istore_n 3, 1) := by decide +kernel
theorem dr_cX17_share_10 : decode cX17_share 10 = .ok (.iload_n 3, 1) := by decide +kernel
theorem dr_cX17_share_11 : decode cX17_share 11 = .ok (.aload_n 0, 1) := by decide +kernel
theorem dr_cX17_share_12 : decode cX17_share 12 = .ok (.getfield 224, 3) := by decide +kernel
theorem wr_7_85 : (Jvm.Cond.fieldLink "SpillForgeModel" (224 : Nat) "SpillForgeModel" "slots" "I") ∈ gw := gw_7 85 rfl rfl
theorem dr_cX17_share_15 : decode cX17_share 15 = .ok (.if_icmp .ge 136, 3) := by decide +kernel
theorem dr_cX17_share_151 : decode cX17_share 151 = .ok (.iconst 0, 1) := by decide +kernel
theorem dr_cX17_share_152 : decode cX17_share 152 = .ok (.istore_n 3, 1) := by decide +kernel
theorem dr_cX17_share_153 : decode cX17_share 153 = .ok (.iload_n 3, 1) := by decide +kernel
theorem dr_cX17_share_154 : decode cX17_share 154 = .ok (.aload_n 1, 1) := by decide +kernel
theorem dr_cX17_share_155 : decode cX17_share 155 = .ok (.invokevirtual 96, 3) := by decide +kernel
theorem dr_cX17_share_158 : decode cX17_share 158 = .ok (.if_icmp .ge 88, 3) := by decide +kernel
theorem dr_cX17_share_246 : decode cX17_share 246 = .ok (.aload_n 0, 1) := by decide +kernel
theorem dr_cX17_share_247 : decode cX17_share 247 = .ok (.iload_n 2, 1) := by decide +kernel
theorem dr_cX17_share_248 : decode cX17_share 248 = .ok (.putfield 224, 3) := by decide +kernel
theorem dr_cX17_share_251 : decode cX17_share 251 = .ok (.return_, 1) := by decide +kernel
theorem dr_cX17_share_161 : decode cX17_share 161 = .ok (.aload_n 1, 1) := by decide +kernel
theorem dr_cX17_share_162 : decode cX17_share 162 = .ok (.iload_n 3, 1) := by decide +kernel
theorem dr_cX17_share_163 : decode cX17_share 163 = .ok (.invokevirtual 101, 3) := by decide +kernel
theorem dr_cX17_share_166 : decode cX17_share 166 = .ok (.astore 4, 2) := by decide +kernel
theorem dr_cX17_share_168 : decode cX17_share 168 = .ok (.iconst 0, 1) := by decide +kernel
theorem dr_cX17_share_169 : decode cX17_share 169 = .ok (.istore 5, 2) := by decide +kernel
theorem dr_cX17_share_171 : decode cX17_share 171 = .ok (.iload 5, 2) := by decide +kernel
theorem dr_cX17_share_173 : decode cX17_share 173 = .ok (.aload 4, 2) := by decide +kernel
theorem dr_cX17_share_175 : decode cX17_share 175 = .ok (.getfield 117, 3) := by decide +kernel
theorem dr_cX17_share_178 : decode cX17_share 178 = .ok (.invokevirtual 121, 3) := by decide +kernel
theorem dr_cX17_share_181 : decode cX17_share 181 = .ok (.if_icmp .ge 59, 3) := by decide +kernel
theorem dr_cX17_share_240 : decode cX17_share 240 = .ok (.iinc 3 1, 3) := by decide +kernel
theorem dr_cX17_share_243 : decode cX17_share 243 = .ok (.goto (-90), 3) := by decide +kernel
theorem dr_cX17_share_184 : decode cX17_share 184 = .ok (.aload 4, 2) := by decide +kernel
theorem dr_cX17_share_186 : decode cX17_share 186 = .ok (.getfield 117, 3) := by decide +kernel
theorem dr_cX17_share_189 : decode cX17_share 189 = .ok (.iload 5, 2) := by decide +kernel
theorem dr_cX17_share_191 : decode cX17_share 191 = .ok (.invokevirtual 124, 3) := by decide +kernel
theorem dr_cX17_share_194 : decode cX17_share 194 = .ok (.checkcast 40, 3) := by decide +kernel
theorem dr_cX17_share_197 : decode cX17_share 197 = .ok (.astore 6, 2) := by decide +kernel
theorem dr_cX17_share_199 : decode cX17_share 199 = .ok (.aload 6, 2) := by decide +kernel
theorem dr_cX17_share_201 : decode cX17_share 201 = .ok (.getfield 39, 3) := by decide +kernel
theorem dr_cX17_share_204 : decode cX17_share 204 = .ok (.bipush 21, 2) := by decide +kernel
theorem dr_cX17_share_206 : decode cX17_share 206 = .ok (.if_icmp .eq 13, 3) := by decide +kernel
theorem dr_cX17_share_219 : decode cX17_share 219 = .ok (.aload 6, 2) := by decide +kernel
theorem dr_cX17_share_221 : decode cX17_share 221 = .ok (.aload_n 0, 1) := by decide +kernel
theorem dr_cX17_share_222 : decode cX17_share 222 = .ok (.getfield 221, 3) := by decide +kernel
theorem wr_7_93 : (Jvm.Cond.fieldLink "SpillForgeModel" (221 : Nat) "SpillForgeModel" "slotOf" "[I") ∈ gw := gw_7 93 rfl rfl
theorem dr_cX17_share_225 : decode cX17_share 225 = .ok (.aload 6, 2) := by decide +kernel
theorem dr_cX17_share_227 : decode cX17_share 227 = .ok (.getfield 45, 3) := by decide +kernel
theorem dr_cX17_share_230 : decode cX17_share 230 = .ok (.iaload, 1) := by decide +kernel
theorem dr_cX17_share_231 : decode cX17_share 231 = .ok (.putfield 45, 3) := by decide +kernel
theorem dr_cX17_share_234 : decode cX17_share 234 = .ok (.iinc 5 1, 3) := by decide +kernel
theorem dr_cX17_share_237 : decode cX17_share 237 = .ok (.goto (-66), 3) := by decide +kernel
theorem dr_cX17_share_209 : decode cX17_share 209 = .ok (.aload 6, 2) := by decide +kernel
theorem dr_cX17_share_211 : decode cX17_share 211 = .ok (.getfield 39, 3) := by decide +kernel
theorem dr_cX17_share_214 : decode cX17_share 214 = .ok (.bipush 23, 2) := by decide +kernel
theorem dr_cX17_share_216 : decode cX17_share 216 = .ok (.if_icmp .ne 18, 3) := by decide +kernel
theorem dr_cX17_share_18 : decode cX17_share 18 = .ok (.iconst 0, 1) := by decide +kernel
theorem dr_cX17_share_19 : decode cX17_share 19 = .ok (.istore 4, 2) := by decide +kernel
theorem dr_cX17_share_21 : decode cX17_share 21 = .ok (.iconst 0, 1) := by decide +kernel
theorem dr_cX17_share_22 : decode cX17_share 22 = .ok (.istore 5, 2) := by decide +kernel
theorem dr_cX17_share_24 : decode cX17_share 24 = .ok (.iload 5, 2) := by decide +kernel
theorem dr_cX17_share_26 : decode cX17_share 26 = .ok (.iload_n 3, 1) := by decide +kernel
theorem dr_cX17_share_27 : decode cX17_share 27 = .ok (.if_icmp .ge 17, 3) := by decide +kernel
theorem dr_cX17_share_44 : decode cX17_share 44 = .ok (.iconst 0, 1) := by decide +kernel
theorem dr_cX17_share_45 : decode cX17_share 45 = .ok (.istore 5, 2) := by decide +kernel
theorem dr_cX17_share_47 : decode cX17_share 47 = .ok (.iload 5, 2) := by decide +kernel
theorem dr_cX17_share_49 : decode cX17_share 49 = .ok (.iload_n 3, 1) := by decide +kernel
theorem dr_cX17_share_50 : decode cX17_share 50 = .ok (.if_icmp .ge 46, 3) := by decide +kernel
theorem dr_cX17_share_96 : decode cX17_share 96 = .ok (.iload 4, 2) := by decide +kernel
theorem dr_cX17_share_98 : decode cX17_share 98 = .ok (.iload_n 3, 1) := by decide +kernel
theorem dr_cX17_share_99 : decode cX17_share 99 = .ok (.if_icmp .ge 20, 3) := by decide +kernel
theorem dr_cX17_share_119 : decode cX17_share 119 = .ok (.aload_n 0, 1) := by decide +kernel
theorem dr_cX17_share_120 : decode cX17_share 120 = .ok (.getfield 221, 3) := by decide +kernel
theorem dr_cX17_share_123 : decode cX17_share 123 = .ok (.iload_n 3, 1) := by decide +kernel
theorem dr_cX17_share_124 : decode cX17_share 124 = .ok (.iload 4, 2) := by decide +kernel
theorem dr_cX17_share_126 : decode cX17_share 126 = .ok (.iastore, 1) := by decide +kernel
theorem dr_cX17_share_127 : decode cX17_share 127 = .ok (.aload_n 0, 1) := by decide +kernel
theorem dr_cX17_share_128 : decode cX17_share 128 = .ok (.getfield 131, 3) := by decide +kernel
theorem dr_cX17_share_131 : decode cX17_share 131 = .ok (.iload_n 3, 1) := by decide +kernel
theorem dr_cX17_share_132 : decode cX17_share 132 = .ok (.baload, 1) := by decide +kernel
theorem dr_cX17_share_133 : decode cX17_share 133 = .ok (.ifCond .eq 12, 3) := by decide +kernel
theorem dr_cX17_share_145 : decode cX17_share 145 = .ok (.iinc 3 1, 3) := by decide +kernel
theorem dr_cX17_share_148 : decode cX17_share 148 = .ok (.goto (-138), 3) := by decide +kernel
theorem dr_cX17_share_136 : decode cX17_share 136 = .ok (.iload_n 2, 1) := by decide +kernel
theorem dr_cX17_share_137 : decode cX17_share 137 = .ok (.iload 4, 2) := by decide +kernel
theorem dr_cX17_share_139 : decode cX17_share 139 = .ok (.iconst 1, 1) := by decide +kernel
theorem dr_cX17_share_140 : decode cX17_share 140 = .ok (.iadd, 1) := by decide +kernel
theorem dr_cX17_share_141 : decode cX17_share 141 = .ok (.invokestatic 189, 3) := by decide +kernel
theorem dr_cX17_share_144 : decode cX17_share 144 = .ok (.istore_n 2, 1) := by decide +kernel
theorem dr_cX17_share_102 : decode cX17_share 102 = .ok (.aload_n 0, 1) := by decide +kernel
theorem dr_cX17_share_103 : decode cX17_share 103 = .ok (.getfield 209, 3) := by decide +kernel
theorem dr_cX17_share_106 : decode cX17_share 106 = .ok (.iload 4, 2) := by decide +kernel
theorem dr_cX17_share_108 : decode cX17_share 108 = .ok (.iaload, 1) := by decide +kernel
theorem dr_cX17_share_109 : decode cX17_share 109 = .ok (.iconst 1, 1) := by decide +kernel
theorem dr_cX17_share_110 : decode cX17_share 110 = .ok (.if_icmp .ne 9, 3) := by decide +kernel
theorem dr_cX17_share_113 : decode cX17_share 113 = .ok (.iinc 4 1, 3) := by decide +kernel
theorem dr_cX17_share_116 : decode cX17_share 116 = .ok (.goto (-20), 3) := by decide +kernel
theorem dr_cX17_share_53 : decode cX17_share 53 = .ok (.aload_n 0, 1) := by decide +kernel
theorem dr_cX17_share_54 : decode cX17_share 54 = .ok (.getfield 131, 3) := by decide +kernel
theorem dr_cX17_share_57 : decode cX17_share 57 = .ok (.iload 5, 2) := by decide +kernel
theorem dr_cX17_share_59 : decode cX17_share 59 = .ok (.baload, 1) := by decide +kernel
theorem dr_cX17_share_60 : decode cX17_share 60 = .ok (.ifCond .eq 30, 3) := by decide +kernel
theorem dr_cX17_share_90 : decode cX17_share 90 = .ok (.iinc 5 1, 3) := by decide +kernel
theorem dr_cX17_share_93 : decode cX17_share 93 = .ok (.goto (-46), 3) := by decide +kernel
theorem dr_cX17_share_63 : decode cX17_share 63 = .ok (.aload_n 0, 1) := by decide +kernel
theorem dr_cX17_share_64 : decode cX17_share 64 = .ok (.getfield 135, 3) := by decide +kernel
theorem dr_cX17_share_67 : decode cX17_share 67 = .ok (.iload_n 3, 1) := by decide +kernel
theorem dr_cX17_share_68 : decode cX17_share 68 = .ok (.aaload, 1) := by decide +kernel
theorem dr_cX17_share_69 : decode cX17_share 69 = .ok (.iload 5, 2) := by decide +kernel
theorem dr_cX17_share_71 : decode cX17_share 71 = .ok (.invokestatic 145, 3) := by decide +kernel
theorem dr_cX17_share_74 : decode cX17_share 74 = .ok (.ifCond .eq 16, 3) := by decide +kernel
theorem dr_cX17_share_77 : decode cX17_share 77 = .ok (.aload_n 0, 1) := by decide +kernel
theorem dr_cX17_share_78 : decode cX17_share 78 = .ok (.getfield 209, 3) := by decide +kernel
theorem dr_cX17_share_81 : decode cX17_share 81 = .ok (.aload_n 0, 1) := by decide +kernel
theorem dr_cX17_share_82 : decode cX17_share 82 = .ok (.getfield 221, 3) := by decide +kernel
theorem dr_cX17_share_85 : decode cX17_share 85 = .ok (.iload 5, 2) := by decide +kernel
theorem dr_cX17_share_87 : decode cX17_share 87 = .ok (.iaload, 1) := by decide +kernel
theorem dr_cX17_share_88 : decode cX17_share 88 = .ok (.iconst 1, 1) := by decide +kernel
theorem dr_cX17_share_89 : decode cX17_share 89 = .ok (.iastore, 1) := by decide +kernel
theorem dr_cX17_share_30 : decode cX17_share 30 = .ok (.aload_n 0, 1) := by decide +kernel
theorem dr_cX17_share_31 : decode cX17_share 31 = .ok (.getfield 209, 3) := by decide +kernel
theorem dr_cX17_share_34 : decode cX17_share 34 = .ok (.iload 5, 2) := by decide +kernel
theorem dr_cX17_share_36 : decode cX17_share 36 = .ok (.iconst 0, 1) := by decide +kernel
theorem dr_cX17_share_37 : decode cX17_share 37 = .ok (.iastore, 1) := by decide +kernel
theorem dr_cX17_share_38 : decode cX17_share 38 = .ok (.iinc 5 1, 3) := by decide +kernel
theorem dr_cX17_share_41 : decode cX17_share 41 = .ok (.goto (-17), 3) := by decide +kernel
abbrev ky_344638_SpillForgeModel_coloured : gKey := (cX17_coloured, 2, "SpillForgeModel", none, [], "coloured", fun _ _ => True)
def pt_344638_SpillForgeModel_coloured (D : va_G) (I : FieldType → ClassId) (γ el : Nat → Nat → Nat) (P344633 : List Nat) (F344634 : Nat → va_E) (q344635 : Nat) (q344636 : Nat) : Option Value → va_W → Nat → Nat → Prop := fun r w dc ds => ∃ (F344907 : Nat → va_E), r = none ∧ w = va_pl P344633 F344907 ∧ RS D I P344633 F344907 γ el ∧ rStr γ [1] F344634 F344907 ∧ dc ≤ 0 ∧ ds ≤ 0 ∧ (∀ b, b ≠ q344636 → F344907 b = F344634 b) ∧ (F344907 q344635 = F344634 q344635) ∧ (F344907 (γ 9 3) = F344634 (γ 9 3)) ∧ (F344907 (γ 9 17) = F344634 (γ 9 17)) ∧ tr_RModel_coloured D I γ el F344634 q344635 q344636 F344907
set_option maxRecDepth 100000 in
set_option maxHeartbeats 4000000 in
theorem ct_344638_SpillForgeModel_coloured (l : Launch) (hl0 : l.stackTraces = false) (D : va_G) (I : FieldType → ClassId) (γ el : Nat → Nat → Nat) (P344633 : List Nat) (F344634 : Nat → va_E) (q344635 : Nat) (q344636 : Nat) (hT : RS D I P344633 F344634 γ el) (htq344635 : rKd γ q344635 10) (htq344636 : rKd γ q344636 1) (x344637 : (rNm (fun n => 0 ≤ (cB (F344634 (γ 9 17)) n).toInt) (F344634 q344636))) : CtA (gV D I) l yX17_coloured cX17_coloured 2 none 1 20 0 0 [.ref q344635, .ref q344636] (va_pl P344633 F344634) (pt_344638_SpillForgeModel_coloured D I γ el P344633 F344634 q344635 q344636) gNA := by
  refine CtA_of hl0 (by decide) (Nat.le_of_ble_eq_true rfl) ?_
  have hm344639 : q344635 ∈ P344633 := RS_m hT htq344635 (by decide)
  obtain ⟨q344641, q344642, p344643, p344644, p344645, p344646, p344647, p344648, p344649, p344650, p344651, p344652, p344653, p344654, p344655, p344656, p344657, he344640, hB344684, ht344658, ht344659, ht344660, ht344661, ht344662, ht344663, ht344664, ht344665, ht344666, ht344667, ht344668, ht344669, ht344670, ht344671, ht344672, ht344673, ht344674, ht344675, ht344676, ht344677, ht344678, ht344679, ht344680, ht344681, hB344685⟩ := show rk_10 γ (F344634 q344635) from RS_o hT htq344635
  have hm344686 : (γ 9 17) ∈ P344633 := RS_m hT ht344671 (by decide)
  obtain ⟨f344688, he344687, bf344688⟩ := show rk_20 I (F344634 (γ 9 17)) from RS_o hT ht344671
  have hm344689 : q344636 ∈ P344633 := RS_m hT htq344636 (by decide)
  obtain ⟨p344691, p344692, p344693, p344694, p344695, p344696, p344697, he344690, bp344691, bp344692, bp344695, bp344696, bp344697, r344698, r344699, r344700, r344701, r344702⟩ := show rk_1 γ q344636 (F344634 q344636) from RS_o hT htq344636
  have bp344693 := gB_any p344693
  have bp344694 := gB_any p344694
  have cq344703 : ∀ n, nmV p344691.toInt p344692.toInt p344693.toInt p344694.toInt p344696.toInt p344697.toInt n → 0 ≤ (f344688 n).toInt := by have z := x344637; unfold rNm at z; rw [nmS_of he344690, cB_of he344687] at z; exact z
  refine G_aload_n 1 dr_cX17_coloured_0 rfl ?_
  have fq344704 : fI (F344634 q344636) 0 = p344691 := by rw [he344690]; rfl
  have fq344705 : fI (F344634 q344636) 5 = p344696 := by rw [he344690]; rfl
  refine Gw_callV (As := []) (gV_ok D I) (cp_222403_Row_usesA l hl0 D I P344633 F344634 q344636 p344691 p344692 p344693 p344694 p344695 p344696 p344697 hm344689 he344690 bp344691 bp344692 bp344695 bp344696 bp344697) dr_cX17_coloured_1 ⟨wr_10_192, wr_1_39, wr_10_195, by decide, rfl, (Nat.le_of_ble_eq_true rfl), (Nat.le_of_ble_eq_true rfl)⟩ wr_10_193 wr_10_194 hm344689 he344690 rfl (show 0 + 0 ≤ 0 by first | omega | decide) (show 0 + 0 ≤ 0 by first | omega | decide) (Nat.le_of_ble_eq_true rfl) (fun r344709 w344710 dc344706 ds344707 hp344708 => ?_) (fun _ _ _ _ _ z => z.elim)
  obtain ⟨o344711, rfl, rfl, hdc, hds, bo344711, x344712, ht344713⟩ := hp344708
  change G _ _ _ _ _ _ _ (.int o344711 :: _) _ _ _
  refine G_widen (cs' := 0) (sl' := 0) (by omega) (by omega) ?_
  refine G_if_eq 20 dr_cX17_coloured_4 (by decide +kernel) (fun hc344714 => ?_) (fun hc344714 => ?_)
  · have r344715 : o344711.toInt = 0 := gj_eq hc344714 (show Int32.toInt 0 = 0 by decide)
    have bo344711' : gB o344711 0 0 := ⟨by omega, by omega⟩
    refine G_aload_n 1 dr_cX17_coloured_20 rfl ?_
    have fq344716 : fI (F344634 q344636) 6 = p344697 := by rw [he344690]; rfl
    refine Gw_callV (As := []) (gV_ok D I) (cp_222427_Row_usesB l hl0 D I P344633 F344634 q344636 p344691 p344692 p344693 p344694 p344695 p344696 p344697 hm344689 he344690 bp344691 bp344692 bp344695 bp344696 bp344697) dr_cX17_coloured_21 ⟨wr_10_196, wr_1_39, wr_10_199, by decide, rfl, (Nat.le_of_ble_eq_true rfl), (Nat.le_of_ble_eq_true rfl)⟩ wr_10_197 wr_10_198 hm344689 he344690 rfl (show 0 + 0 ≤ 0 by first | omega | decide) (show 0 + 0 ≤ 0 by first | omega | decide) (Nat.le_of_ble_eq_true rfl) (fun r344720 w344721 dc344717 ds344718 hp344719 => ?_) (fun _ _ _ _ _ z => z.elim)
    obtain ⟨o344722, rfl, rfl, hdc, hds, bo344722, x344723, ht344724⟩ := hp344719
    change G _ _ _ _ _ _ _ (.int o344722 :: _) _ _ _
    refine G_widen (cs' := 0) (sl' := 0) (by omega) (by omega) ?_
    refine G_if_eq 40 dr_cX17_coloured_24 (by decide +kernel) (fun hc344725 => ?_) (fun hc344725 => ?_)
    · have r344726 : o344722.toInt = 0 := gj_eq hc344725 (show Int32.toInt 0 = 0 by decide)
      have bo344722' : gB o344722 0 0 := ⟨by omega, by omega⟩
      refine G_aload_n 1 dr_cX17_coloured_40 rfl ?_
      refine Gw_callV (As := []) (gV_ok D I) (cp_222448_Row_sets l hl0 D I P344633 F344634 q344636 p344691 p344692 p344693 p344694 p344695 p344696 p344697 hm344689 he344690 bp344691 bp344692 bp344695 bp344696 bp344697) dr_cX17_coloured_41 ⟨wr_10_181, wr_1_39, wr_10_184, by decide, rfl, (Nat.le_of_ble_eq_true rfl), (Nat.le_of_ble_eq_true rfl)⟩ wr_10_182 wr_10_183 hm344689 he344690 rfl (show 0 + 0 ≤ 0 by first | omega | decide) (show 0 + 0 ≤ 0 by first | omega | decide) (Nat.le_of_ble_eq_true rfl) (fun r344730 w344731 dc344727 ds344728 hp344729 => ?_) (fun _ _ _ _ _ z => z.elim)
      obtain ⟨o344732, rfl, rfl, hdc, hds, bo344732, x344733, ht344734⟩ := hp344729
      change G _ _ _ _ _ _ _ (.int o344732 :: _) _ _ _
      refine G_widen (cs' := 0) (sl' := 0) (by omega) (by omega) ?_
      refine G_if_eq 60 dr_cX17_coloured_44 (by decide +kernel) (fun hc344735 => ?_) (fun hc344735 => ?_)
      · have r344736 : o344732.toInt = 0 := gj_eq hc344735 (show Int32.toInt 0 = 0 by decide)
        have bo344732' : gB o344732 0 0 := ⟨by omega, by omega⟩
        exact G_vretA dr_cX17_coloured_60 rfl (Nat.le_of_ble_eq_true rfl) (Nat.le_of_ble_eq_true rfl) ⟨F344634, rfl, rfl, hT, (rStr_rf (γ := γ) (W := [1]) (F := F344634)), (Nat.le_of_ble_eq_true rfl), (Nat.le_of_ble_eq_true rfl), (fun _ _ => rfl), rfl, rfl, rfl, (fun R c1 c2 c3 c4 c5 c6 c7 c8 => c1 p344691 p344696 o344711 p344697 o344722 o344732 fq344704 fq344705 bo344711 ht344713 r344715 fq344716 bo344722 ht344724 r344726 bo344732 ht344734 r344736)⟩
      · have r344737 : o344732.toInt ≠ 0 := gj_neq hc344735 (show Int32.toInt 0 = 0 by decide)
        have bo344732' : gB o344732 1 1 := ⟨by omega, by omega⟩
        refine G_aload_n 1 dr_cX17_coloured_47 rfl ?_
        refine G_aload_n 0 dr_cX17_coloured_48 rfl ?_
        have fq344738 : fR (F344634 q344635) 17 = (γ 9 17) := by rw [he344640]; rfl
        refine Gp_get 17 hm344639 he344640 dr_cX17_coloured_49 (gk_X17 D I) (Nat.le_of_ble_eq_true rfl) wr_7_91 rfl ?_
        refine G_aload_n 1 dr_cX17_coloured_52 rfl ?_
        have fq344739 : fI (F344634 q344636) 1 = p344692 := by rw [he344690]; rfl
        refine Gp_get 1 hm344689 he344690 dr_cX17_coloured_53 (gk_X15 D I) (Nat.le_of_ble_eq_true rfl) wr_9_182 rfl ?_
        refine Gp_iald 0 hm344686 he344687 dr_cX17_coloured_56 rfl (gB_in bp344692 (by decide) (by decide)) (G_nam fun z344740 hz344740 => ?_)
        have bz344740 : gB z344740 (-1) 31 := by rw [hz344740]; exact bf344688 _
        have r344741 : 0 ≤ z344740.toInt := by rw [hz344740]; exact cq344703 _ (Or.inl ⟨by omega, rfl⟩)
        have bz344740' : gB z344740 0 31 := ⟨by omega, by omega⟩
        refine Gp_put 1 hm344689 he344690 dr_cX17_coloured_57 (gk_X15 D I) (Nat.le_of_ble_eq_true rfl) wr_9_182 rfl rfl rfl (Nat.le_of_ble_eq_true rfl) (fun F344742 e344743 n344744 => ?_)
        have he344745 : F344742 q344635 = .inr (22, [.ref (γ 9 0), .ref (γ 9 1), .ref (γ 9 2), .ref (γ 9 3), .ref (γ 9 4), .ref (γ 9 5), .ref (γ 9 6), .ref (γ 9 7), .ref (γ 9 8), .int p344643, .int p344644, .int p344645, .int p344646, .int p344647, .int p344648, .ref (γ 9 15), .ref (γ 9 16), .ref (γ 9 17), .ref (γ 9 18), .ref (γ 9 19), .ref (γ 9 20), .ref (γ 9 21), .ref (γ 9 22), .int p344649, .int p344650, .int p344651, .int p344652, .int p344653, .ref q344641, .ref (γ 9 29), .int p344654, .ref (γ 9 31), .int p344655, .int p344656, .int p344657, .ref q344642]) := (n344744 q344635 (rn_oo he344640 he344690 (by decide))).trans he344640
        have he344746 : F344742 (γ 9 17) = .inl (I .int, 2000, .inl f344688) := (n344744 (γ 9 17) (rn_ao he344687 he344690)).trans he344687
        have he344747 : F344742 q344636 = .inr (20, [.int p344691, .int z344740, .int p344693, .int p344694, .int p344695, .int p344696, .int p344697]) := e344743
        have hs344748 : rStr γ [1] F344634 F344742 := rStr_pu2 (rStr_rf (γ := γ) (W := [1]) (F := F344634)) n344744 htq344636 (by decide)
        have kp344749 : F344742 q344635 = F344634 q344635 := n344744 q344635 (rn_ty htq344635 htq344636 (by decide))
        have kp344750 : F344742 (γ 9 3) = F344634 (γ 9 3) := n344744 (γ 9 3) (rn_ty ht344663 htq344636 (by decide))
        have kp344751 : F344742 (γ 9 17) = F344634 (γ 9 17) := n344744 (γ 9 17) (rn_ty ht344671 htq344636 (by decide))
        have fq344752 : F344742 q344636 = cF (F344634 q344636) 1 (.int z344740) := by rw [he344747, he344690]; rfl
        have hT344753 : RS D I P344633 F344742 γ el := RS_set hT n344744 htq344636 (by decide) ⟨p344691, z344740, p344693, p344694, p344695, p344696, p344697, he344747, bp344691, (gB_w bz344740' (by decide) (by decide)), bp344695, bp344696, bp344697, (by omega), (by omega), (by omega), (by omega), (by omega)⟩
        have of344754 : ∀ b, b ≠ q344636 → F344742 b = F344634 b := fun b hb => n344744 b hb
        exact G_vretA dr_cX17_coloured_60 rfl (Nat.le_of_ble_eq_true rfl) (Nat.le_of_ble_eq_true rfl) ⟨F344742, rfl, rfl, hT344753, hs344748, (Nat.le_of_ble_eq_true rfl), (Nat.le_of_ble_eq_true rfl), of344754, kp344749, kp344750, kp344751, (fun R c1 c2 c3 c4 c5 c6 c7 c8 => c2 p344691 p344696 o344711 p344697 o344722 o344732 p344692 f344688 z344740 F344742 fq344704 fq344705 bo344711 ht344713 r344715 fq344716 bo344722 ht344724 r344726 bo344732 ht344734 r344737 fq344738 fq344739 he344687 hz344740 bz344740 n344744 fq344752)⟩
    · have r344755 : o344722.toInt ≠ 0 := gj_neq hc344725 (show Int32.toInt 0 = 0 by decide)
      have bo344722' : gB o344722 1 1 := ⟨by omega, by omega⟩
      refine G_aload_n 1 dr_cX17_coloured_27 rfl ?_
      refine G_aload_n 0 dr_cX17_coloured_28 rfl ?_
      have fq344756 : fR (F344634 q344635) 17 = (γ 9 17) := by rw [he344640]; rfl
      refine Gp_get 17 hm344639 he344640 dr_cX17_coloured_29 (gk_X17 D I) (Nat.le_of_ble_eq_true rfl) wr_7_91 rfl ?_
      refine G_aload_n 1 dr_cX17_coloured_32 rfl ?_
      have fq344757 : fI (F344634 q344636) 3 = p344694 := by rw [he344690]; rfl
      refine Gp_get 3 hm344689 he344690 dr_cX17_coloured_33 (gk_X15 D I) (Nat.le_of_ble_eq_true rfl) wr_9_190 rfl ?_
      refine Gp_iald 0 hm344686 he344687 dr_cX17_coloured_36 rfl (gB_inr (by omega) (by omega)) (G_nam fun z344758 hz344758 => ?_)
      have bz344758 : gB z344758 (-1) 31 := by rw [hz344758]; exact bf344688 _
      have r344759 : 0 ≤ z344758.toInt := by rw [hz344758]; exact cq344703 _ (Or.inr (Or.inr ⟨by omega, rfl⟩))
      have bz344758' : gB z344758 0 31 := ⟨by omega, by omega⟩
      refine Gp_put 3 hm344689 he344690 dr_cX17_coloured_37 (gk_X15 D I) (Nat.le_of_ble_eq_true rfl) wr_9_190 rfl rfl rfl (Nat.le_of_ble_eq_true rfl) (fun F344760 e344761 n344762 => ?_)
      have he344763 : F344760 q344635 = .inr (22, [.ref (γ 9 0), .ref (γ 9 1), .ref (γ 9 2), .ref (γ 9 3), .ref (γ 9 4), .ref (γ 9 5), .ref (γ 9 6), .ref (γ 9 7), .ref (γ 9 8), .int p344643, .int p344644, .int p344645, .int p344646, .int p344647, .int p344648, .ref (γ 9 15), .ref (γ 9 16), .ref (γ 9 17), .ref (γ 9 18), .ref (γ 9 19), .ref (γ 9 20), .ref (γ 9 21), .ref (γ 9 22), .int p344649, .int p344650, .int p344651, .int p344652, .int p344653, .ref q344641, .ref (γ 9 29), .int p344654, .ref (γ 9 31), .int p344655, .int p344656, .int p344657, .ref q344642]) := (n344762 q344635 (rn_oo he344640 he344690 (by decide))).trans he344640
      have he344764 : F344760 (γ 9 17) = .inl (I .int, 2000, .inl f344688) := (n344762 (γ 9 17) (rn_ao he344687 he344690)).trans he344687
      have he344765 : F344760 q344636 = .inr (20, [.int p344691, .int p344692, .int p344693, .int z344758, .int p344695, .int p344696, .int p344697]) := e344761
      have hs344766 : rStr γ [1] F344634 F344760 := rStr_pu2 (rStr_rf (γ := γ) (W := [1]) (F := F344634)) n344762 htq344636 (by decide)
      have kp344767 : F344760 q344635 = F344634 q344635 := n344762 q344635 (rn_ty htq344635 htq344636 (by decide))
      have kp344768 : F344760 (γ 9 3) = F344634 (γ 9 3) := n344762 (γ 9 3) (rn_ty ht344663 htq344636 (by decide))
      have kp344769 : F344760 (γ 9 17) = F344634 (γ 9 17) := n344762 (γ 9 17) (rn_ty ht344671 htq344636 (by decide))
      have fq344770 : F344760 q344636 = cF (F344634 q344636) 3 (.int z344758) := by rw [he344765, he344690]; rfl
      refine G_aload_n 1 dr_cX17_coloured_40 rfl ?_
      have hT344771 : RS D I P344633 F344760 γ el := RS_set hT n344762 htq344636 (by decide) ⟨p344691, p344692, p344693, z344758, p344695, p344696, p344697, he344765, bp344691, bp344692, bp344695, bp344696, bp344697, (by omega), (by omega), (by omega), (by omega), (by omega)⟩
      have of344772 : ∀ b, b ≠ q344636 → F344760 b = F344634 b := fun b hb => n344762 b hb
      have fq344773 : fI (F344760 q344636) 0 = p344691 := by rw [he344765]; rfl
      refine Gw_callV (As := []) (gV_ok D I) (cp_222448_Row_sets l hl0 D I P344633 F344760 q344636 p344691 p344692 p344693 z344758 p344695 p344696 p344697 hm344689 he344765 bp344691 bp344692 bp344695 bp344696 bp344697) dr_cX17_coloured_41 ⟨wr_10_181, wr_1_39, wr_10_184, by decide, rfl, (Nat.le_of_ble_eq_true rfl), (Nat.le_of_ble_eq_true rfl)⟩ wr_10_182 wr_10_183 hm344689 he344765 rfl (show 0 + 0 ≤ 0 by first | omega | decide) (show 0 + 0 ≤ 0 by first | omega | decide) (Nat.le_of_ble_eq_true rfl) (fun r344777 w344778 dc344774 ds344775 hp344776 => ?_) (fun _ _ _ _ _ z => z.elim)
      obtain ⟨o344779, rfl, rfl, hdc, hds, bo344779, x344780, ht344781⟩ := hp344776
      change G _ _ _ _ _ _ _ (.int o344779 :: _) _ _ _
      refine G_widen (cs' := 0) (sl' := 0) (by omega) (by omega) ?_
      refine G_if_eq 60 dr_cX17_coloured_44 (by decide +kernel) (fun hc344782 => ?_) (fun hc344782 => ?_)
      · have r344783 : o344779.toInt = 0 := gj_eq hc344782 (show Int32.toInt 0 = 0 by decide)
        have bo344779' : gB o344779 0 0 := ⟨by omega, by omega⟩
        exact G_vretA dr_cX17_coloured_60 rfl (Nat.le_of_ble_eq_true rfl) (Nat.le_of_ble_eq_true rfl) ⟨F344760, rfl, rfl, hT344771, hs344766, (Nat.le_of_ble_eq_true rfl), (Nat.le_of_ble_eq_true rfl), of344772, kp344767, kp344768, kp344769, (fun R c1 c2 c3 c4 c5 c6 c7 c8 => c3 p344691 p344696 o344711 p344697 o344722 p344694 f344688 z344758 F344760 o344779 fq344704 fq344705 bo344711 ht344713 r344715 fq344716 bo344722 ht344724 r344755 fq344756 fq344757 he344687 hz344758 bz344758 n344762 fq344770 fq344773 bo344779 ht344781 r344783)⟩
      · have r344784 : o344779.toInt ≠ 0 := gj_neq hc344782 (show Int32.toInt 0 = 0 by decide)
        have bo344779' : gB o344779 1 1 := ⟨by omega, by omega⟩
        refine G_aload_n 1 dr_cX17_coloured_47 rfl ?_
        refine G_aload_n 0 dr_cX17_coloured_48 rfl ?_
        have fq344785 : fR (F344760 q344635) 17 = (γ 9 17) := by rw [he344763]; rfl
        refine Gp_get 17 hm344639 he344763 dr_cX17_coloured_49 (gk_X17 D I) (Nat.le_of_ble_eq_true rfl) wr_7_91 rfl ?_
        refine G_aload_n 1 dr_cX17_coloured_52 rfl ?_
        have fq344786 : fI (F344760 q344636) 1 = p344692 := by rw [he344765]; rfl
        refine Gp_get 1 hm344689 he344765 dr_cX17_coloured_53 (gk_X15 D I) (Nat.le_of_ble_eq_true rfl) wr_9_182 rfl ?_
        refine Gp_iald 0 hm344686 he344764 dr_cX17_coloured_56 rfl (gB_in bp344692 (by decide) (by decide)) (G_nam fun z344787 hz344787 => ?_)
        have bz344787 : gB z344787 (-1) 31 := by rw [hz344787]; exact bf344688 _
        have r344788 : 0 ≤ z344787.toInt := by rw [hz344787]; exact cq344703 _ (Or.inl ⟨by omega, rfl⟩)
        have bz344787' : gB z344787 0 31 := ⟨by omega, by omega⟩
        refine Gp_put 1 hm344689 he344765 dr_cX17_coloured_57 (gk_X15 D I) (Nat.le_of_ble_eq_true rfl) wr_9_182 rfl rfl rfl (Nat.le_of_ble_eq_true rfl) (fun F344789 e344790 n344791 => ?_)
        have he344792 : F344789 q344635 = .inr (22, [.ref (γ 9 0), .ref (γ 9 1), .ref (γ 9 2), .ref (γ 9 3), .ref (γ 9 4), .ref (γ 9 5), .ref (γ 9 6), .ref (γ 9 7), .ref (γ 9 8), .int p344643, .int p344644, .int p344645, .int p344646, .int p344647, .int p344648, .ref (γ 9 15), .ref (γ 9 16), .ref (γ 9 17), .ref (γ 9 18), .ref (γ 9 19), .ref (γ 9 20), .ref (γ 9 21), .ref (γ 9 22), .int p344649, .int p344650, .int p344651, .int p344652, .int p344653, .ref q344641, .ref (γ 9 29), .int p344654, .ref (γ 9 31), .int p344655, .int p344656, .int p344657, .ref q344642]) := (n344791 q344635 (rn_oo he344763 he344765 (by decide))).trans he344763
        have he344793 : F344789 (γ 9 17) = .inl (I .int, 2000, .inl f344688) := (n344791 (γ 9 17) (rn_ao he344764 he344765)).trans he344764
        have he344794 : F344789 q344636 = .inr (20, [.int p344691, .int z344787, .int p344693, .int z344758, .int p344695, .int p344696, .int p344697]) := e344790
        have hs344795 : rStr γ [1] F344634 F344789 := rStr_pu2 hs344766 n344791 htq344636 (by decide)
        have kp344796 : F344789 q344635 = F344634 q344635 := (n344791 q344635 (rn_ty htq344635 htq344636 (by decide))).trans kp344767
        have kp344797 : F344789 (γ 9 3) = F344634 (γ 9 3) := (n344791 (γ 9 3) (rn_ty ht344663 htq344636 (by decide))).trans kp344768
        have kp344798 : F344789 (γ 9 17) = F344634 (γ 9 17) := (n344791 (γ 9 17) (rn_ty ht344671 htq344636 (by decide))).trans kp344769
        have fq344799 : F344789 q344636 = cF (F344760 q344636) 1 (.int z344787) := by rw [he344794, he344765]; rfl
        have hT344800 : RS D I P344633 F344789 γ el := RS_set hT344771 n344791 htq344636 (by decide) ⟨p344691, z344787, p344693, z344758, p344695, p344696, p344697, he344794, bp344691, (gB_w bz344787' (by decide) (by decide)), bp344695, bp344696, bp344697, (by omega), (by omega), (by omega), (by omega), (by omega)⟩
        have of344801 : ∀ b, b ≠ q344636 → F344789 b = F344634 b := fun b hb => (n344791 b hb).trans (of344772 b hb)
        exact G_vretA dr_cX17_coloured_60 rfl (Nat.le_of_ble_eq_true rfl) (Nat.le_of_ble_eq_true rfl) ⟨F344789, rfl, rfl, hT344800, hs344795, (Nat.le_of_ble_eq_true rfl), (Nat.le_of_ble_eq_true rfl), of344801, kp344796, kp344797, kp344798, (fun R c1 c2 c3 c4 c5 c6 c7 c8 => c4 p344691 p344696 o344711 p344697 o344722 p344694 f344688 z344758 F344760 o344779 p344692 z344787 F344789 fq344704 fq344705 bo344711 ht344713 r344715 fq344716 bo344722 ht344724 r344755 fq344756 fq344757 he344687 hz344758 bz344758 n344762 fq344770 fq344773 bo344779 ht344781 r344784 fq344785 fq344786 he344764 hz344787 bz344787 n344791 fq344799)⟩
  · have r344802 : o344711.toInt ≠ 0 := gj_neq hc344714 (show Int32.toInt 0 = 0 by decide)
    have bo344711' : gB o344711 1 1 := ⟨by omega, by omega⟩
    refine G_aload_n 1 dr_cX17_coloured_7 rfl ?_
    refine G_aload_n 0 dr_cX17_coloured_8 rfl ?_
    have fq344803 : fR (F344634 q344635) 17 = (γ 9 17) := by rw [he344640]; rfl
    refine Gp_get 17 hm344639 he344640 dr_cX17_coloured_9 (gk_X17 D I) (Nat.le_of_ble_eq_true rfl) wr_7_91 rfl ?_
    refine G_aload_n 1 dr_cX17_coloured_12 rfl ?_
    have fq344804 : fI (F344634 q344636) 2 = p344693 := by rw [he344690]; rfl
    refine Gp_get 2 hm344689 he344690 dr_cX17_coloured_13 (gk_X15 D I) (Nat.le_of_ble_eq_true rfl) wr_9_186 rfl ?_
    refine Gp_iald 0 hm344686 he344687 dr_cX17_coloured_16 rfl (gB_inr (by omega) (by omega)) (G_nam fun z344805 hz344805 => ?_)
    have bz344805 : gB z344805 (-1) 31 := by rw [hz344805]; exact bf344688 _
    have r344806 : 0 ≤ z344805.toInt := by rw [hz344805]; exact cq344703 _ (Or.inr (Or.inl ⟨by omega, rfl⟩))
    have bz344805' : gB z344805 0 31 := ⟨by omega, by omega⟩
    refine Gp_put 2 hm344689 he344690 dr_cX17_coloured_17 (gk_X15 D I) (Nat.le_of_ble_eq_true rfl) wr_9_186 rfl rfl rfl (Nat.le_of_ble_eq_true rfl) (fun F344807 e344808 n344809 => ?_)
    have he344810 : F344807 q344635 = .inr (22, [.ref (γ 9 0), .ref (γ 9 1), .ref (γ 9 2), .ref (γ 9 3), .ref (γ 9 4), .ref (γ 9 5), .ref (γ 9 6), .ref (γ 9 7), .ref (γ 9 8), .int p344643, .int p344644, .int p344645, .int p344646, .int p344647, .int p344648, .ref (γ 9 15), .ref (γ 9 16), .ref (γ 9 17), .ref (γ 9 18), .ref (γ 9 19), .ref (γ 9 20), .ref (γ 9 21), .ref (γ 9 22), .int p344649, .int p344650, .int p344651, .int p344652, .int p344653, .ref q344641, .ref (γ 9 29), .int p344654, .ref (γ 9 31), .int p344655, .int p344656, .int p344657, .ref q344642]) := (n344809 q344635 (rn_oo he344640 he344690 (by decide))).trans he344640
    have he344811 : F344807 (γ 9 17) = .inl (I .int, 2000, .inl f344688) := (n344809 (γ 9 17) (rn_ao he344687 he344690)).trans he344687
    have he344812 : F344807 q344636 = .inr (20, [.int p344691, .int p344692, .int z344805, .int p344694, .int p344695, .int p344696, .int p344697]) := e344808
    have hs344813 : rStr γ [1] F344634 F344807 := rStr_pu2 (rStr_rf (γ := γ) (W := [1]) (F := F344634)) n344809 htq344636 (by decide)
    have kp344814 : F344807 q344635 = F344634 q344635 := n344809 q344635 (rn_ty htq344635 htq344636 (by decide))
    have kp344815 : F344807 (γ 9 3) = F344634 (γ 9 3) := n344809 (γ 9 3) (rn_ty ht344663 htq344636 (by decide))
    have kp344816 : F344807 (γ 9 17) = F344634 (γ 9 17) := n344809 (γ 9 17) (rn_ty ht344671 htq344636 (by decide))
    have fq344817 : F344807 q344636 = cF (F344634 q344636) 2 (.int z344805) := by rw [he344812, he344690]; rfl
    refine G_aload_n 1 dr_cX17_coloured_20 rfl ?_
    have hT344818 : RS D I P344633 F344807 γ el := RS_set hT n344809 htq344636 (by decide) ⟨p344691, p344692, z344805, p344694, p344695, p344696, p344697, he344812, bp344691, bp344692, bp344695, bp344696, bp344697, (by omega), (by omega), (by omega), (by omega), (by omega)⟩
    have of344819 : ∀ b, b ≠ q344636 → F344807 b = F344634 b := fun b hb => n344809 b hb
    have fq344820 : fI (F344807 q344636) 0 = p344691 := by rw [he344812]; rfl
    have fq344821 : fI (F344807 q344636) 6 = p344697 := by rw [he344812]; rfl
    refine Gw_callV (As := []) (gV_ok D I) (cp_222427_Row_usesB l hl0 D I P344633 F344807 q344636 p344691 p344692 z344805 p344694 p344695 p344696 p344697 hm344689 he344812 bp344691 bp344692 bp344695 bp344696 bp344697) dr_cX17_coloured_21 ⟨wr_10_196, wr_1_39, wr_10_199, by decide, rfl, (Nat.le_of_ble_eq_true rfl), (Nat.le_of_ble_eq_true rfl)⟩ wr_10_197 wr_10_198 hm344689 he344812 rfl (show 0 + 0 ≤ 0 by first | omega | decide) (show 0 + 0 ≤ 0 by first | omega | decide) (Nat.le_of_ble_eq_true rfl) (fun r344825 w344826 dc344822 ds344823 hp344824 => ?_) (fun _ _ _ _ _ z => z.elim)
    obtain ⟨o344827, rfl, rfl, hdc, hds, bo344827, x344828, ht344829⟩ := hp344824
    change G _ _ _ _ _ _ _ (.int o344827 :: _) _ _ _
    refine G_widen (cs' := 0) (sl' := 0) (by omega) (by omega) ?_
    refine G_if_eq 40 dr_cX17_coloured_24 (by decide +kernel) (fun hc344830 => ?_) (fun hc344830 => ?_)
    · have r344831 : o344827.toInt = 0 := gj_eq hc344830 (show Int32.toInt 0 = 0 by decide)
      have bo344827' : gB o344827 0 0 := ⟨by omega, by omega⟩
      refine G_aload_n 1 dr_cX17_coloured_40 rfl ?_
      refine Gw_callV (As := []) (gV_ok D I) (cp_222448_Row_sets l hl0 D I P344633 F344807 q344636 p344691 p344692 z344805 p344694 p344695 p344696 p344697 hm344689 he344812 bp344691 bp344692 bp344695 bp344696 bp344697) dr_cX17_coloured_41 ⟨wr_10_181, wr_1_39, wr_10_184, by decide, rfl, (Nat.le_of_ble_eq_true rfl), (Nat.le_of_ble_eq_true rfl)⟩ wr_10_182 wr_10_183 hm344689 he344812 rfl (show 0 + 0 ≤ 0 by first | omega | decide) (show 0 + 0 ≤ 0 by first | omega | decide) (Nat.le_of_ble_eq_true rfl) (fun r344835 w344836 dc344832 ds344833 hp344834 => ?_) (fun _ _ _ _ _ z => z.elim)
      obtain ⟨o344837, rfl, rfl, hdc, hds, bo344837, x344838, ht344839⟩ := hp344834
      change G _ _ _ _ _ _ _ (.int o344837 :: _) _ _ _
      refine G_widen (cs' := 0) (sl' := 0) (by omega) (by omega) ?_
      refine G_if_eq 60 dr_cX17_coloured_44 (by decide +kernel) (fun hc344840 => ?_) (fun hc344840 => ?_)
      · have r344841 : o344837.toInt = 0 := gj_eq hc344840 (show Int32.toInt 0 = 0 by decide)
        have bo344837' : gB o344837 0 0 := ⟨by omega, by omega⟩
        exact G_vretA dr_cX17_coloured_60 rfl (Nat.le_of_ble_eq_true rfl) (Nat.le_of_ble_eq_true rfl) ⟨F344807, rfl, rfl, hT344818, hs344813, (Nat.le_of_ble_eq_true rfl), (Nat.le_of_ble_eq_true rfl), of344819, kp344814, kp344815, kp344816, (fun R c1 c2 c3 c4 c5 c6 c7 c8 => c5 p344691 p344696 o344711 p344693 f344688 z344805 F344807 p344697 o344827 o344837 fq344704 fq344705 bo344711 ht344713 r344802 fq344803 fq344804 he344687 hz344805 bz344805 n344809 fq344817 fq344820 fq344821 bo344827 ht344829 r344831 bo344837 ht344839 r344841)⟩
      · have r344842 : o344837.toInt ≠ 0 := gj_neq hc344840 (show Int32.toInt 0 = 0 by decide)
        have bo344837' : gB o344837 1 1 := ⟨by omega, by omega⟩
        refine G_aload_n 1 dr_cX17_coloured_47 rfl ?_
        refine G_aload_n 0 dr_cX17_coloured_48 rfl ?_
        have fq344843 : fR (F344807 q344635) 17 = (γ 9 17) := by rw [he344810]; rfl
        refine Gp_get 17 hm344639 he344810 dr_cX17_coloured_49 (gk_X17 D I) (Nat.le_of_ble_eq_true rfl) wr_7_91 rfl ?_
        refine G_aload_n 1 dr_cX17_coloured_52 rfl ?_
        have fq344844 : fI (F344807 q344636) 1 = p344692 := by rw [he344812]; rfl
        refine Gp_get 1 hm344689 he344812 dr_cX17_coloured_53 (gk_X15 D I) (Nat.le_of_ble_eq_true rfl) wr_9_182 rfl ?_
        refine Gp_iald 0 hm344686 he344811 dr_cX17_coloured_56 rfl (gB_in bp344692 (by decide) (by decide)) (G_nam fun z344845 hz344845 => ?_)
        have bz344845 : gB z344845 (-1) 31 := by rw [hz344845]; exact bf344688 _
        have r344846 : 0 ≤ z344845.toInt := by rw [hz344845]; exact cq344703 _ (Or.inl ⟨by omega, rfl⟩)
        have bz344845' : gB z344845 0 31 := ⟨by omega, by omega⟩
        refine Gp_put 1 hm344689 he344812 dr_cX17_coloured_57 (gk_X15 D I) (Nat.le_of_ble_eq_true rfl) wr_9_182 rfl rfl rfl (Nat.le_of_ble_eq_true rfl) (fun F344847 e344848 n344849 => ?_)
        have he344850 : F344847 q344635 = .inr (22, [.ref (γ 9 0), .ref (γ 9 1), .ref (γ 9 2), .ref (γ 9 3), .ref (γ 9 4), .ref (γ 9 5), .ref (γ 9 6), .ref (γ 9 7), .ref (γ 9 8), .int p344643, .int p344644, .int p344645, .int p344646, .int p344647, .int p344648, .ref (γ 9 15), .ref (γ 9 16), .ref (γ 9 17), .ref (γ 9 18), .ref (γ 9 19), .ref (γ 9 20), .ref (γ 9 21), .ref (γ 9 22), .int p344649, .int p344650, .int p344651, .int p344652, .int p344653, .ref q344641, .ref (γ 9 29), .int p344654, .ref (γ 9 31), .int p344655, .int p344656, .int p344657, .ref q344642]) := (n344849 q344635 (rn_oo he344810 he344812 (by decide))).trans he344810
        have he344851 : F344847 (γ 9 17) = .inl (I .int, 2000, .inl f344688) := (n344849 (γ 9 17) (rn_ao he344811 he344812)).trans he344811
        have he344852 : F344847 q344636 = .inr (20, [.int p344691, .int z344845, .int z344805, .int p344694, .int p344695, .int p344696, .int p344697]) := e344848
        have hs344853 : rStr γ [1] F344634 F344847 := rStr_pu2 hs344813 n344849 htq344636 (by decide)
        have kp344854 : F344847 q344635 = F344634 q344635 := (n344849 q344635 (rn_ty htq344635 htq344636 (by decide))).trans kp344814
        have kp344855 : F344847 (γ 9 3) = F344634 (γ 9 3) := (n344849 (γ 9 3) (rn_ty ht344663 htq344636 (by decide))).trans kp344815
        have kp344856 : F344847 (γ 9 17) = F344634 (γ 9 17) := (n344849 (γ 9 17) (rn_ty ht344671 htq344636 (by decide))).trans kp344816
        have fq344857 : F344847 q344636 = cF (F344807 q344636) 1 (.int z344845) := by rw [he344852, he344812]; rfl
        have hT344858 : RS D I P344633 F344847 γ el := RS_set hT344818 n344849 htq344636 (by decide) ⟨p344691, z344845, z344805, p344694, p344695, p344696, p344697, he344852, bp344691, (gB_w bz344845' (by decide) (by decide)), bp344695, bp344696, bp344697, (by omega), (by omega), (by omega), (by omega), (by omega)⟩
        have of344859 : ∀ b, b ≠ q344636 → F344847 b = F344634 b := fun b hb => (n344849 b hb).trans (of344819 b hb)
        exact G_vretA dr_cX17_coloured_60 rfl (Nat.le_of_ble_eq_true rfl) (Nat.le_of_ble_eq_true rfl) ⟨F344847, rfl, rfl, hT344858, hs344853, (Nat.le_of_ble_eq_true rfl), (Nat.le_of_ble_eq_true rfl), of344859, kp344854, kp344855, kp344856, (fun R c1 c2 c3 c4 c5 c6 c7 c8 => c6 p344691 p344696 o344711 p344693 f344688 z344805 F344807 p344697 o344827 o344837 p344692 z344845 F344847 fq344704 fq344705 bo344711 ht344713 r344802 fq344803 fq344804 he344687 hz344805 bz344805 n344809 fq344817 fq344820 fq344821 bo344827 ht344829 r344831 bo344837 ht344839 r344842 fq344843 fq344844 he344811 hz344845 bz344845 n344849 fq344857)⟩
    · have r344860 : o344827.toInt ≠ 0 := gj_neq hc344830 (show Int32.toInt 0 = 0 by decide)
      have bo344827' : gB o344827 1 1 := ⟨by omega, by omega⟩
      refine G_aload_n 1 dr_cX17_coloured_27 rfl ?_
      refine G_aload_n 0 dr_cX17_coloured_28 rfl ?_
      have fq344861 : fR (F344807 q344635) 17 = (γ 9 17) := by rw [he344810]; rfl
      refine Gp_get 17 hm344639 he344810 dr_cX17_coloured_29 (gk_X17 D I) (Nat.le_of_ble_eq_true rfl) wr_7_91 rfl ?_
      refine G_aload_n 1 dr_cX17_coloured_32 rfl ?_
      have fq344862 : fI (F344807 q344636) 3 = p344694 := by rw [he344812]; rfl
      refine Gp_get 3 hm344689 he344812 dr_cX17_coloured_33 (gk_X15 D I) (Nat.le_of_ble_eq_true rfl) wr_9_190 rfl ?_
      refine Gp_iald 0 hm344686 he344811 dr_cX17_coloured_36 rfl (gB_inr (by omega) (by omega)) (G_nam fun z344863 hz344863 => ?_)
      have bz344863 : gB z344863 (-1) 31 := by rw [hz344863]; exact bf344688 _
      have r344864 : 0 ≤ z344863.toInt := by rw [hz344863]; exact cq344703 _ (Or.inr (Or.inr ⟨by omega, rfl⟩))
      have bz344863' : gB z344863 0 31 := ⟨by omega, by omega⟩
      refine Gp_put 3 hm344689 he344812 dr_cX17_coloured_37 (gk_X15 D I) (Nat.le_of_ble_eq_true rfl) wr_9_190 rfl rfl rfl (Nat.le_of_ble_eq_true rfl) (fun F344865 e344866 n344867 => ?_)
      have he344868 : F344865 q344635 = .inr (22, [.ref (γ 9 0), .ref (γ 9 1), .ref (γ 9 2), .ref (γ 9 3), .ref (γ 9 4), .ref (γ 9 5), .ref (γ 9 6), .ref (γ 9 7), .ref (γ 9 8), .int p344643, .int p344644, .int p344645, .int p344646, .int p344647, .int p344648, .ref (γ 9 15), .ref (γ 9 16), .ref (γ 9 17), .ref (γ 9 18), .ref (γ 9 19), .ref (γ 9 20), .ref (γ 9 21), .ref (γ 9 22), .int p344649, .int p344650, .int p344651, .int p344652, .int p344653, .ref q344641, .ref (γ 9 29), .int p344654, .ref (γ 9 31), .int p344655, .int p344656, .int p344657, .ref q344642]) := (n344867 q344635 (rn_oo he344810 he344812 (by decide))).trans he344810
      have he344869 : F344865 (γ 9 17) = .inl (I .int, 2000, .inl f344688) := (n344867 (γ 9 17) (rn_ao he344811 he344812)).trans he344811
      have he344870 : F344865 q344636 = .inr (20, [.int p344691, .int p344692, .int z344805, .int z344863, .int p344695, .int p344696, .int p344697]) := e344866
      have hs344871 : rStr γ [1] F344634 F344865 := rStr_pu2 hs344813 n344867 htq344636 (by decide)
      have kp344872 : F344865 q344635 = F344634 q344635 := (n344867 q344635 (rn_ty htq344635 htq344636 (by decide))).trans kp344814
      have kp344873 : F344865 (γ 9 3) = F344634 (γ 9 3) := (n344867 (γ 9 3) (rn_ty ht344663 htq344636 (by decide))).trans kp344815
      have kp344874 : F344865 (γ 9 17) = F344634 (γ 9 17) := (n344867 (γ 9 17) (rn_ty ht344671 htq344636 (by decide))).trans kp344816
      have fq344875 : F344865 q344636 = cF (F344807 q344636) 3 (.int z344863) := by rw [he344870, he344812]; rfl
      refine G_aload_n 1 dr_cX17_coloured_40 rfl ?_
      have hT344876 : RS D I P344633 F344865 γ el := RS_set hT344818 n344867 htq344636 (by decide) ⟨p344691, p344692, z344805, z344863, p344695, p344696, p344697, he344870, bp344691, bp344692, bp344695, bp344696, bp344697, (by omega), (by omega), (by omega), (by omega), (by omega)⟩
      have of344877 : ∀ b, b ≠ q344636 → F344865 b = F344634 b := fun b hb => (n344867 b hb).trans (of344819 b hb)
      have fq344878 : fI (F344865 q344636) 0 = p344691 := by rw [he344870]; rfl
      refine Gw_callV (As := []) (gV_ok D I) (cp_222448_Row_sets l hl0 D I P344633 F344865 q344636 p344691 p344692 z344805 z344863 p344695 p344696 p344697 hm344689 he344870 bp344691 bp344692 bp344695 bp344696 bp344697) dr_cX17_coloured_41 ⟨wr_10_181, wr_1_39, wr_10_184, by decide, rfl, (Nat.le_of_ble_eq_true rfl), (Nat.le_of_ble_eq_true rfl)⟩ wr_10_182 wr_10_183 hm344689 he344870 rfl (show 0 + 0 ≤ 0 by first | omega | decide) (show 0 + 0 ≤ 0 by first | omega | decide) (Nat.le_of_ble_eq_true rfl) (fun r344882 w344883 dc344879 ds344880 hp344881 => ?_) (fun _ _ _ _ _ z => z.elim)
      obtain ⟨o344884, rfl, rfl, hdc, hds, bo344884, x344885, ht344886⟩ := hp344881
      change G _ _ _ _ _ _ _ (.int o344884 :: _) _ _ _
      refine G_widen (cs' := 0) (sl' := 0) (by omega) (by omega) ?_
      refine G_if_eq 60 dr_cX17_coloured_44 (by decide +kernel) (fun hc344887 => ?_) (fun hc344887 => ?_)
      · have r344888 : o344884.toInt = 0 := gj_eq hc344887 (show Int32.toInt 0 = 0 by decide)
        have bo344884' : gB o344884 0 0 := ⟨by omega, by omega⟩
        exact G_vretA dr_cX17_coloured_60 rfl (Nat.le_of_ble_eq_true rfl) (Nat.le_of_ble_eq_true rfl) ⟨F344865, rfl, rfl, hT344876, hs344871, (Nat.le_of_ble_eq_true rfl), (Nat.le_of_ble_eq_true rfl), of344877, kp344872, kp344873, kp344874, (fun R c1 c2 c3 c4 c5 c6 c7 c8 => c7 p344691 p344696 o344711 p344693 f344688 z344805 F344807 p344697 o344827 p344694 z344863 F344865 o344884 fq344704 fq344705 bo344711 ht344713 r344802 fq344803 fq344804 he344687 hz344805 bz344805 n344809 fq344817 fq344820 fq344821 bo344827 ht344829 r344860 fq344861 fq344862 he344811 hz344863 bz344863 n344867 fq344875 fq344878 bo344884 ht344886 r344888)⟩
      · have r344889 : o344884.toInt ≠ 0 := gj_neq hc344887 (show Int32.toInt 0 = 0 by decide)
        have bo344884' : gB o344884 1 1 := ⟨by omega, by omega⟩
        refine G_aload_n 1 dr_cX17_coloured_47 rfl ?_
        refine G_aload_n 0 dr_cX17_coloured_48 rfl ?_
        have fq344890 : fR (F344865 q344635) 17 = (γ 9 17) := by rw [he344868]; rfl
        refine Gp_get 17 hm344639 he344868 dr_cX17_coloured_49 (gk_X17 D I) (Nat.le_of_ble_eq_true rfl) wr_7_91 rfl ?_
        refine G_aload_n 1 dr_cX17_coloured_52 rfl ?_
        have fq344891 : fI (F344865 q344636) 1 = p344692 := by rw [he344870]; rfl
        refine Gp_get 1 hm344689 he344870 dr_cX17_coloured_53 (gk_X15 D I) (Nat.le_of_ble_eq_true rfl) wr_9_182 rfl ?_
        refine Gp_iald 0 hm344686 he344869 dr_cX17_coloured_56 rfl (gB_in bp344692 (by decide) (by decide)) (G_nam fun z344892 hz344892 => ?_)
        have bz344892 : gB z344892 (-1) 31 := by rw [hz344892]; exact bf344688 _
        have r344893 : 0 ≤ z344892.toInt := by rw [hz344892]; exact cq344703 _ (Or.inl ⟨by omega, rfl⟩)
        have bz344892' : gB z344892 0 31 := ⟨by omega, by omega⟩
        refine Gp_put 1 hm344689 he344870 dr_cX17_coloured_57 (gk_X15 D I) (Nat.le_of_ble_eq_true rfl) wr_9_182 rfl rfl rfl (Nat.le_of_ble_eq_true rfl) (fun F344894 e344895 n344896 => ?_)
        have he344897 : F344894 q344635 = .inr (22, [.ref (γ 9 0), .ref (γ 9 1), .ref (γ 9 2), .ref (γ 9 3), .ref (γ 9 4), .ref (γ 9 5), .ref (γ 9 6), .ref (γ 9 7), .ref (γ 9 8), .int p344643, .int p344644, .int p344645, .int p344646, .int p344647, .int p344648, .ref (γ 9 15), .ref (γ 9 16), .ref (γ 9 17), .ref (γ 9 18), .ref (γ 9 19), .ref (γ 9 20), .ref (γ 9 21), .ref (γ 9 22), .int p344649, .int p344650, .int p344651, .int p344652, .int p344653, .ref q344641, .ref (γ 9 29), .int p344654, .ref (γ 9 31), .int p344655, .int p344656, .int p344657, .ref q344642]) := (n344896 q344635 (rn_oo he344868 he344870 (by decide))).trans he344868
        have he344898 : F344894 (γ 9 17) = .inl (I .int, 2000, .inl f344688) := (n344896 (γ 9 17) (rn_ao he344869 he344870)).trans he344869
        have he344899 : F344894 q344636 = .inr (20, [.int p344691, .int z344892, .int z344805, .int z344863, .int p344695, .int p344696, .int p344697]) := e344895
        have hs344900 : rStr γ [1] F344634 F344894 := rStr_pu2 hs344871 n344896 htq344636 (by decide)
        have kp344901 : F344894 q344635 = F344634 q344635 := (n344896 q344635 (rn_ty htq344635 htq344636 (by decide))).trans kp344872
        have kp344902 : F344894 (γ 9 3) = F344634 (γ 9 3) := (n344896 (γ 9 3) (rn_ty ht344663 htq344636 (by decide))).trans kp344873
        have kp344903 : F344894 (γ 9 17) = F344634 (γ 9 17) := (n344896 (γ 9 17) (rn_ty ht344671 htq344636 (by decide))).trans kp344874
        have fq344904 : F344894 q344636 = cF (F344865 q344636) 1 (.int z344892) := by rw [he344899, he344870]; rfl
        have hT344905 : RS D I P344633 F344894 γ el := RS_set hT344876 n344896 htq344636 (by decide) ⟨p344691, z344892, z344805, z344863, p344695, p344696, p344697, he344899, bp344691, (gB_w bz344892' (by decide) (by decide)), bp344695, bp344696, bp344697, (by omega), (by omega), (by omega), (by omega), (by omega)⟩
        have of344906 : ∀ b, b ≠ q344636 → F344894 b = F344634 b := fun b hb => (n344896 b hb).trans (of344877 b hb)
        exact G_vretA dr_cX17_coloured_60 rfl (Nat.le_of_ble_eq_true rfl) (Nat.le_of_ble_eq_true rfl) ⟨F344894, rfl, rfl, hT344905, hs344900, (Nat.le_of_ble_eq_true rfl), (Nat.le_of_ble_eq_true rfl), of344906, kp344901, kp344902, kp344903, (fun R c1 c2 c3 c4 c5 c6 c7 c8 => c8 p344691 p344696 o344711 p344693 f344688 z344805 F344807 p344697 o344827 p344694 z344863 F344865 o344884 p344692 z344892 F344894 fq344704 fq344705 bo344711 ht344713 r344802 fq344803 fq344804 he344687 hz344805 bz344805 n344809 fq344817 fq344820 fq344821 bo344827 ht344829 r344860 fq344861 fq344862 he344811 hz344863 bz344863 n344867 fq344875 fq344878 bo344884 ht344886 r344889 fq344890 fq344891 he344869 hz344892 bz344892 n344896 fq344904)⟩
/- tl_RModel_share_171: F, l5; out: F -/
def tl_RModel_share_171 (D : va_G) (I : FieldType → ClassId) (γ el : Nat → Nat → Nat) (P : List Nat) (F : Nat → va_E) (q1 : Nat) (q0 : Nat) (c1 : Nat) (s1 : Nat → va_E) (s2 : Int32) (k : Nat) (e1 : Nat → va_E) : Prop := ∀ R : (Nat → va_E) → (Int32) → Nat → (Nat → va_E) → Prop,
  (∀ (F_2 : Nat → va_E) (l5_2 : Int32) (x1 : Nat) (x2 : Int32), gB l5_2 0 1000000 → RS D I P F_2 γ el → rStr γ [1] F F_2 → ((∀ q : Nat, (q : Int) < ((γ 7 (γ 1 q1) : Nat) : Int) → 0 ≤ (cB (F_2 (γ 9 19)) q).toInt ∧ (cB (F_2 (γ 9 19)) q).toInt ≤ q)) → (F_2 q0 = F q0) → rFs γ (γ 1 q1) F F_2 → mKp (F q0) (F_2 q0) → fR (F_2 c1) 0 = x1 → x2.toInt = (γ 2 x1 : Int) → fI (F_2 x1) 2 = x2 → x2.toInt ≤ l5_2.toInt → R F_2 l5_2 240 F_2) →
  (∀ (F_2 : Nat → va_E) (l5_2 : Int32) (x1 : Nat) (x2 : Int32) (x3 : Nat) (x4 : Int32) (x5 : Int32) (x6 : Nat → Int32) (x7 : Int32) (x8 : Nat → va_E) (x9 : Int32) (k : Nat) (e1 : Nat → va_E), gB l5_2 0 1000000 → RS D I P F_2 γ el → rStr γ [1] F F_2 → ((∀ q : Nat, (q : Int) < ((γ 7 (γ 1 q1) : Nat) : Int) → 0 ≤ (cB (F_2 (γ 9 19)) q).toInt ∧ (cB (F_2 (γ 9 19)) q).toInt ≤ q)) → (F_2 q0 = F q0) → rFs γ (γ 1 q1) F F_2 → mKp (F q0) (F_2 q0) → fR (F_2 c1) 0 = x1 → x2.toInt = (γ 2 x1 : Int) → fI (F_2 x1) 2 = x2 → l5_2.toInt < x2.toInt → x3 = el x1 l5_2.toInt.toNat → tr_RArrayList_get l5_2 x2 → fI (F_2 x3) 0 = x4 → x4.toInt = 21 → fR (F_2 q0) 19 = (γ 9 19) → fI (F_2 x3) 4 = x5 → F_2 (γ 9 19) = .inl (I .int, 2000, .inl x6) → x7 = x6 x5.toNatClampNeg → gB x7 (-1) 1999 → (∀ b, b ≠ x3 → x8 b = F_2 b) → x8 x3 = cF (F_2 x3) 4 (.int x7) → x9.toInt = l5_2.toInt + 1 → R x8 x9 k e1 → R F_2 l5_2 k e1) →
  (∀ (F_2 : Nat → va_E) (l5_2 : Int32) (x1 : Nat) (x2 : Int32) (x3 : Nat) (x4 : Int32) (x5 : Int32) (k : Nat) (e1 : Nat → va_E), gB l5_2 0 1000000 → RS D I P F_2 γ el → rStr γ [1] F F_2 → ((∀ q : Nat, (q : Int) < ((γ 7 (γ 1 q1) : Nat) : Int) → 0 ≤ (cB (F_2 (γ 9 19)) q).toInt ∧ (cB (F_2 (γ 9 19)) q).toInt ≤ q)) → (F_2 q0 = F q0) → rFs γ (γ 1 q1) F F_2 → mKp (F q0) (F_2 q0) → fR (F_2 c1) 0 = x1 → x2.toInt = (γ 2 x1 : Int) → fI (F_2 x1) 2 = x2 → l5_2.toInt < x2.toInt → x3 = el x1 l5_2.toInt.toNat → tr_RArrayList_get l5_2 x2 → fI (F_2 x3) 0 = x4 → x4.toInt ≠ 21 → x4.toInt ≠ 23 → x5.toInt = l5_2.toInt + 1 → R F_2 x5 k e1 → R F_2 l5_2 k e1) →
  (∀ (F_2 : Nat → va_E) (l5_2 : Int32) (x1 : Nat) (x2 : Int32) (x3 : Nat) (x4 : Int32) (x5 : Int32) (x6 : Nat → Int32) (x7 : Int32) (x8 : Nat → va_E) (x9 : Int32) (k : Nat) (e1 : Nat → va_E), gB l5_2 0 1000000 → RS D I P F_2 γ el → rStr γ [1] F F_2 → ((∀ q : Nat, (q : Int) < ((γ 7 (γ 1 q1) : Nat) : Int) → 0 ≤ (cB (F_2 (γ 9 19)) q).toInt ∧ (cB (F_2 (γ 9 19)) q).toInt ≤ q)) → (F_2 q0 = F q0) → rFs γ (γ 1 q1) F F_2 → mKp (F q0) (F_2 q0) → fR (F_2 c1) 0 = x1 → x2.toInt = (γ 2 x1 : Int) → fI (F_2 x1) 2 = x2 → l5_2.toInt < x2.toInt → x3 = el x1 l5_2.toInt.toNat → tr_RArrayList_get l5_2 x2 → fI (F_2 x3) 0 = x4 → x4.toInt ≠ 21 → x4.toInt = 23 → fR (F_2 q0) 19 = (γ 9 19) → fI (F_2 x3) 4 = x5 → F_2 (γ 9 19) = .inl (I .int, 2000, .inl x6) → x7 = x6 x5.toNatClampNeg → gB x7 (-1) 1999 → (∀ b, b ≠ x3 → x8 b = F_2 b) → x8 x3 = cF (F_2 x3) 4 (.int x7) → x9.toInt = l5_2.toInt + 1 → R x8 x9 k e1 → R F_2 l5_2 k e1) →
  R s1 s2 k e1
/- tl_RModel_share_153: F, l3; out: F -/
def tl_RModel_share_153 (D : va_G) (I : FieldType → ClassId) (γ el : Nat → Nat → Nat) (P : List Nat) (F : Nat → va_E) (q1 : Nat) (q0 : Nat) (s1 : Nat → va_E) (s2 : Int32) (k : Nat) (e1 : Nat → va_E) : Prop := ∀ R : (Nat → va_E) → (Int32) → Nat → (Nat → va_E) → Prop,
  (∀ (F_1 : Nat → va_E) (l3_1 : Int32) (x1 : Int32), gB l3_1 0 1000000 → RS D I P F_1 γ el → rStr γ [1] F F_1 → ((∀ q : Nat, (q : Int) < ((γ 7 (γ 1 q1) : Nat) : Int) → 0 ≤ (cB (F_1 (γ 9 19)) q).toInt ∧ (cB (F_1 (γ 9 19)) q).toInt ≤ q)) → (F_1 q0 = F q0) → rFs γ (γ 1 q1) F F_1 → mKp (F q0) (F_1 q0) → fI (F_1 q1) 3 = x1 → x1.toInt ≤ l3_1.toInt → R F_1 l3_1 246 F_1) →
  (∀ (F_1 : Nat → va_E) (l3_1 : Int32) (x1 : Int32) (x2 : Nat) (x3 : Nat) (x4 : Int32) (x5 : Nat → va_E) (x6 : Int32) (k : Nat) (e1 : Nat → va_E), gB l3_1 0 1000000 → RS D I P F_1 γ el → rStr γ [1] F F_1 → ((∀ q : Nat, (q : Int) < ((γ 7 (γ 1 q1) : Nat) : Int) → 0 ≤ (cB (F_1 (γ 9 19)) q).toInt ∧ (cB (F_1 (γ 9 19)) q).toInt ≤ q)) → (F_1 q0 = F q0) → rFs γ (γ 1 q1) F F_1 → mKp (F q0) (F_1 q0) → fI (F_1 q1) 3 = x1 → l3_1.toInt < x1.toInt → fR (F_1 q1) 0 = x2 → x3 = el x2 l3_1.toInt.toNat → fI (F_1 x2) 2 = x4 → tr_RCode_get l3_1 x4 → tl_RModel_share_171 D I γ el P F q1 q0 x3 F_1 (0 : Int32) 240 x5 → x6.toInt = l3_1.toInt + 1 → R x5 x6 k e1 → R F_1 l3_1 k e1) →
  R s1 s2 k e1
/- tl_RModel_share_96: l4; out: l4 -/
def tl_RModel_share_96 (D : va_G) (I : FieldType → ClassId) (γ el : Nat → Nat → Nat) (l3_1 : Int32) (F_2 : Nat → va_E) (q0 : Nat) (s1 : Int32) (k : Nat) (e1 : Int32) : Prop := ∀ R : (Int32) → Nat → (Int32) → Prop,
  (∀ (l4_2 : Int32), gB l4_2 0 99 → ((∀ q : Nat, (q : Int) < l3_1.toInt → 0 ≤ (cB (F_2 (γ 9 19)) q).toInt ∧ (cB (F_2 (γ 9 19)) q).toInt ≤ q)) → (l4_2.toInt ≤ l3_1.toInt) → l3_1.toInt ≤ l4_2.toInt → R l4_2 119 l4_2) →
  (∀ (l4_2 : Int32) (x1 : Nat → Int32) (x2 : Int32), gB l4_2 0 99 → ((∀ q : Nat, (q : Int) < l3_1.toInt → 0 ≤ (cB (F_2 (γ 9 19)) q).toInt ∧ (cB (F_2 (γ 9 19)) q).toInt ≤ q)) → (l4_2.toInt ≤ l3_1.toInt) → l4_2.toInt < l3_1.toInt → fR (F_2 q0) 16 = (γ 9 16) → F_2 (γ 9 16) = .inl (I .int, 2000, .inl x1) → x2 = x1 l4_2.toNatClampNeg → x2.toInt ≠ 1 → R l4_2 119 l4_2) →
  (∀ (l4_2 : Int32) (x1 : Nat → Int32) (x2 : Int32) (x3 : Int32) (k : Nat) (e1 : Int32), gB l4_2 0 99 → ((∀ q : Nat, (q : Int) < l3_1.toInt → 0 ≤ (cB (F_2 (γ 9 19)) q).toInt ∧ (cB (F_2 (γ 9 19)) q).toInt ≤ q)) → (l4_2.toInt ≤ l3_1.toInt) → l4_2.toInt < l3_1.toInt → fR (F_2 q0) 16 = (γ 9 16) → F_2 (γ 9 16) = .inl (I .int, 2000, .inl x1) → x2 = x1 l4_2.toNatClampNeg → x2.toInt = 1 → x3.toInt = l4_2.toInt + 1 → R x3 k e1 → R l4_2 k e1) →
  R s1 k e1
/- tl_RModel_share_47: F, l5; out: F -/
def tl_RModel_share_47 (D : va_G) (I : FieldType → ClassId) (γ el : Nat → Nat → Nat) (P : List Nat) (F : Nat → va_E) (l3_1 : Int32) (q0 : Nat) (q1 : Nat) (s1 : Nat → va_E) (s2 : Int32) (k : Nat) (e1 : Nat → va_E) : Prop := ∀ R : (Nat → va_E) → (Int32) → Nat → (Nat → va_E) → Prop,
  (∀ (F_2 : Nat → va_E) (l5_2 : Int32), gB l5_2 0 99 → RS D I P F_2 γ el → rStr γ [1] F F_2 → ((∀ q : Nat, (q : Int) < l3_1.toInt → 0 ≤ (cB (F_2 (γ 9 19)) q).toInt ∧ (cB (F_2 (γ 9 19)) q).toInt ≤ q)) → (F_2 q0 = F q0) → rFs γ (γ 1 q1) F F_2 → mKp (F q0) (F_2 q0) → l3_1.toInt ≤ l5_2.toInt → R F_2 l5_2 96 F_2) →
  (∀ (F_2 : Nat → va_E) (l5_2 : Int32) (x1 : Nat → Int32) (x2 : Int32) (x3 : Int32) (k : Nat) (e1 : Nat → va_E), gB l5_2 0 99 → RS D I P F_2 γ el → rStr γ [1] F F_2 → ((∀ q : Nat, (q : Int) < l3_1.toInt → 0 ≤ (cB (F_2 (γ 9 19)) q).toInt ∧ (cB (F_2 (γ 9 19)) q).toInt ≤ q)) → (F_2 q0 = F q0) → rFs γ (γ 1 q1) F F_2 → mKp (F q0) (F_2 q0) → l5_2.toInt < l3_1.toInt → fR (F_2 q0) 3 = (γ 9 3) → F_2 (γ 9 3) = .inl (I .boolean, 2000, .inl x1) → x2 = x1 l5_2.toNatClampNeg → gB x2 0 1 → x2.toInt = 0 → x3.toInt = l5_2.toInt + 1 → R F_2 x3 k e1 → R F_2 l5_2 k e1) →
  (∀ (F_2 : Nat → va_E) (l5_2 : Int32) (x1 : Nat → Int32) (x2 : Int32) (x3 : Nat) (x4 : Nat → Int64) (x5 : Int32) (k : Nat) (e1 : Nat → va_E), gB l5_2 0 99 → RS D I P F_2 γ el → rStr γ [1] F F_2 → ((∀ q : Nat, (q : Int) < l3_1.toInt → 0 ≤ (cB (F_2 (γ 9 19)) q).toInt ∧ (cB (F_2 (γ 9 19)) q).toInt ≤ q)) → (F_2 q0 = F q0) → rFs γ (γ 1 q1) F F_2 → mKp (F q0) (F_2 q0) → l5_2.toInt < l3_1.toInt → fR (F_2 q0) 3 = (γ 9 3) → F_2 (γ 9 3) = .inl (I .boolean, 2000, .inl x1) → x2 = x1 l5_2.toNatClampNeg → gB x2 0 1 → x2.toInt ≠ 0 → fR (F_2 q0) 1 = (γ 9 1) → x3 = γ 11 l3_1.toInt.toNat → F_2 x3 = .inl (I .long, 32, .inr (.inl x4)) → tr_RModel_has l5_2 x4 (0 : Int32) → x5.toInt = l5_2.toInt + 1 → R F_2 x5 k e1 → R F_2 l5_2 k e1) →
  (∀ (F_2 : Nat → va_E) (l5_2 : Int32) (x1 : Nat → Int32) (x2 : Int32) (x3 : Nat) (x4 : Nat → Int64) (x5 : Nat → Int32) (x6 : Int32) (x7 : Nat → Int32) (x8 : Nat → Int32) (x9 : Nat → va_E) (x10 : Int32) (k : Nat) (e1 : Nat → va_E), gB l5_2 0 99 → RS D I P F_2 γ el → rStr γ [1] F F_2 → ((∀ q : Nat, (q : Int) < l3_1.toInt → 0 ≤ (cB (F_2 (γ 9 19)) q).toInt ∧ (cB (F_2 (γ 9 19)) q).toInt ≤ q)) → (F_2 q0 = F q0) → rFs γ (γ 1 q1) F F_2 → mKp (F q0) (F_2 q0) → l5_2.toInt < l3_1.toInt → fR (F_2 q0) 3 = (γ 9 3) → F_2 (γ 9 3) = .inl (I .boolean, 2000, .inl x1) → x2 = x1 l5_2.toNatClampNeg → gB x2 0 1 → x2.toInt ≠ 0 → fR (F_2 q0) 1 = (γ 9 1) → x3 = γ 11 l3_1.toInt.toNat → F_2 x3 = .inl (I .long, 32, .inr (.inl x4)) → tr_RModel_has l5_2 x4 (1 : Int32) → fR (F_2 q0) 16 = (γ 9 16) → fR (F_2 q0) 19 = (γ 9 19) → F_2 (γ 9 19) = .inl (I .int, 2000, .inl x5) → x6 = x5 l5_2.toNatClampNeg → gB x6 (-1) 1999 → F_2 (γ 9 16) = .inl (I .int, 2000, .inl x7) → x8 = upd x7 x6.toNatClampNeg 1 → (∀ b, b ≠ (γ 9 16) → x9 b = F_2 b) → x9 (γ 9 16) = .inl (I .int, 2000, .inl x8) → x10.toInt = l5_2.toInt + 1 → R x9 x10 k e1 → R F_2 l5_2 k e1) →
  R s1 s2 k e1
/- tl_RModel_share_24: F, l5; out: F -/
def tl_RModel_share_24 (D : va_G) (I : FieldType → ClassId) (γ el : Nat → Nat → Nat) (P : List Nat) (F : Nat → va_E) (l3_1 : Int32) (q0 : Nat) (q1 : Nat) (s1 : Nat → va_E) (s2 : Int32) (k : Nat) (e1 : Nat → va_E) : Prop := ∀ R : (Nat → va_E) → (Int32) → Nat → (Nat → va_E) → Prop,
  (∀ (F_2 : Nat → va_E) (l5_2 : Int32), gB l5_2 0 1999 → RS D I P F_2 γ el → rStr γ [1] F F_2 → ((∀ q : Nat, (q : Int) < l3_1.toInt → 0 ≤ (cB (F_2 (γ 9 19)) q).toInt ∧ (cB (F_2 (γ 9 19)) q).toInt ≤ q)) → (F_2 q0 = F q0) → rFs γ (γ 1 q1) F F_2 → mKp (F q0) (F_2 q0) → l3_1.toInt ≤ l5_2.toInt → R F_2 l5_2 44 F_2) →
  (∀ (F_2 : Nat → va_E) (l5_2 : Int32) (x1 : Nat → Int32) (x2 : Nat → Int32) (x3 : Nat → va_E) (x4 : Int32) (k : Nat) (e1 : Nat → va_E), gB l5_2 0 1999 → RS D I P F_2 γ el → rStr γ [1] F F_2 → ((∀ q : Nat, (q : Int) < l3_1.toInt → 0 ≤ (cB (F_2 (γ 9 19)) q).toInt ∧ (cB (F_2 (γ 9 19)) q).toInt ≤ q)) → (F_2 q0 = F q0) → rFs γ (γ 1 q1) F F_2 → mKp (F q0) (F_2 q0) → l5_2.toInt < l3_1.toInt → fR (F_2 q0) 16 = (γ 9 16) → F_2 (γ 9 16) = .inl (I .int, 2000, .inl x1) → x2 = upd x1 l5_2.toNatClampNeg 0 → (∀ b, b ≠ (γ 9 16) → x3 b = F_2 b) → x3 (γ 9 16) = .inl (I .int, 2000, .inl x2) → x4.toInt = l5_2.toInt + 1 → R x3 x4 k e1 → R F_2 l5_2 k e1) →
  R s1 s2 k e1
/- tl_RModel_share_10: F, l3, l2; out: l2, F -/
def tl_RModel_share_10 (D : va_G) (I : FieldType → ClassId) (γ el : Nat → Nat → Nat) (P : List Nat) (F : Nat → va_E) (q0 : Nat) (q1 : Nat) (s1 : Nat → va_E) (s2 : Int32) (s3 : Int32) (k : Nat) (e1 : Int32) (e2 : Nat → va_E) : Prop := ∀ R : (Nat → va_E) → (Int32) → (Int32) → Nat → (Int32) → (Nat → va_E) → Prop,
  (∀ (F_1 : Nat → va_E) (l3_1 : Int32) (l2_1 : Int32) (x1 : Int32), gB l3_1 0 100 → gB l2_1 0 1999 → RS D I P F_1 γ el → rStr γ [1] F F_1 → ((∀ q : Nat, (q : Int) < l3_1.toInt → 0 ≤ (cB (F_1 (γ 9 19)) q).toInt ∧ (cB (F_1 (γ 9 19)) q).toInt ≤ q)) → (l2_1.toInt ≤ 100) → (F_1 q0 = F q0) → rFs γ (γ 1 q1) F F_1 → mKp (F q0) (F_1 q0) → fI (F_1 q0) 11 = x1 → x1.toInt ≤ l3_1.toInt → R F_1 l3_1 l2_1 151 l2_1 F_1) →
  (∀ (F_1 : Nat → va_E) (l3_1 : Int32) (l2_1 : Int32) (x1 : Int32) (x2 : Nat → va_E) (x3 : Nat → va_E) (x4 : Int32) (x5 : Nat → Int32) (x6 : Nat → Int32) (x7 : Nat → va_E) (x8 : Nat → Int32) (x9 : Int32) (x10 : Int32) (k : Nat) (e1 : Int32) (e2 : Nat → va_E), gB l3_1 0 100 → gB l2_1 0 1999 → RS D I P F_1 γ el → rStr γ [1] F F_1 → ((∀ q : Nat, (q : Int) < l3_1.toInt → 0 ≤ (cB (F_1 (γ 9 19)) q).toInt ∧ (cB (F_1 (γ 9 19)) q).toInt ≤ q)) → (l2_1.toInt ≤ 100) → (F_1 q0 = F q0) → rFs γ (γ 1 q1) F F_1 → mKp (F q0) (F_1 q0) → fI (F_1 q0) 11 = x1 → l3_1.toInt < x1.toInt → tl_RModel_share_24 D I γ el P F l3_1 q0 q1 F_1 (0 : Int32) 44 x2 → tl_RModel_share_47 D I γ el P F l3_1 q0 q1 x2 (0 : Int32) 96 x3 → tl_RModel_share_96 D I γ el l3_1 x3 q0 (0 : Int32) 119 x4 → fR (x3 q0) 19 = (γ 9 19) → x3 (γ 9 19) = .inl (I .int, 2000, .inl x5) → x6 = upd x5 l3_1.toNatClampNeg x4 → (∀ b, b ≠ (γ 9 19) → x7 b = x3 b) → x7 (γ 9 19) = .inl (I .int, 2000, .inl x6) → fR (x7 q0) 3 = (γ 9 3) → x7 (γ 9 3) = .inl (I .boolean, 2000, .inl x8) → x9 = x8 l3_1.toNatClampNeg → gB x9 0 1 → x9.toInt = 0 → x10.toInt = l3_1.toInt + 1 → R x7 x10 l2_1 k e1 e2 → R F_1 l3_1 l2_1 k e1 e2) →
  (∀ (F_1 : Nat → va_E) (l3_1 : Int32) (l2_1 : Int32) (x1 : Int32) (x2 : Nat → va_E) (x3 : Nat → va_E) (x4 : Int32) (x5 : Nat → Int32) (x6 : Nat → Int32) (x7 : Nat → va_E) (x8 : Nat → Int32) (x9 : Int32) (x10 : Int32) (x11 : Int32) (x12 : Int32) (k : Nat) (e1 : Int32) (e2 : Nat → va_E), gB l3_1 0 100 → gB l2_1 0 1999 → RS D I P F_1 γ el → rStr γ [1] F F_1 → ((∀ q : Nat, (q : Int) < l3_1.toInt → 0 ≤ (cB (F_1 (γ 9 19)) q).toInt ∧ (cB (F_1 (γ 9 19)) q).toInt ≤ q)) → (l2_1.toInt ≤ 100) → (F_1 q0 = F q0) → rFs γ (γ 1 q1) F F_1 → mKp (F q0) (F_1 q0) → fI (F_1 q0) 11 = x1 → l3_1.toInt < x1.toInt → tl_RModel_share_24 D I γ el P F l3_1 q0 q1 F_1 (0 : Int32) 44 x2 → tl_RModel_share_47 D I γ el P F l3_1 q0 q1 x2 (0 : Int32) 96 x3 → tl_RModel_share_96 D I γ el l3_1 x3 q0 (0 : Int32) 119 x4 → fR (x3 q0) 19 = (γ 9 19) → x3 (γ 9 19) = .inl (I .int, 2000, .inl x5) → x6 = upd x5 l3_1.toNatClampNeg x4 → (∀ b, b ≠ (γ 9 19) → x7 b = x3 b) → x7 (γ 9 19) = .inl (I .int, 2000, .inl x6) → fR (x7 q0) 3 = (γ 9 3) → x7 (γ 9 3) = .inl (I .boolean, 2000, .inl x8) → x9 = x8 l3_1.toNatClampNeg → gB x9 0 1 → x9.toInt ≠ 0 → x10.toInt = x4.toInt + 1 → (l2_1.toInt ≤ x11.toInt ∧ x10.toInt ≤ x11.toInt ∧ (x11.toInt = l2_1.toInt ∨ x11.toInt = x10.toInt)) → x12.toInt = l3_1.toInt + 1 → R x7 x12 x11 k e1 e2 → R F_1 l3_1 l2_1 k e1 e2) →
  R s1 s2 s3 k e1 e2
/- tr_RModel_share: F -/
def tr_RModel_share (D : va_G) (I : FieldType → ClassId) (γ el : Nat → Nat → Nat) (P : List Nat) (F : Nat → va_E) (q0 : Nat) (q1 : Nat) (o1 : Nat → va_E) : Prop := ∀ R : (Nat → va_E) → Prop,
  (∀ (x1 : Nat → va_E) (x2 : Int32) (x3 : Nat → va_E) (x4 : Nat → va_E) (x5 : Nat → va_E), RS D I P x1 γ el → rStr γ [] F x1 → (gIp ((1 : Int) = 0) (rGr γ el F q1 (γ 6 (γ 1 q1)) (cB (x1 (γ 9 3))) (vA (γ 6 (γ 1 q1))))) → (x1 q0 = F q0) → tr_RModel_graph D I γ el P F q0 q1 (1 : Int32) x1 → tl_RModel_share_10 D I γ el P F q0 q1 x1 (0 : Int32) (0 : Int32) 151 x2 x3 → tl_RModel_share_153 D I γ el P F q1 q0 x3 (0 : Int32) 246 x4 → (∀ b, b ≠ q0 → x5 b = x4 b) → x5 q0 = cF (x4 q0) 11 (.int x2) → R x5) →
  R o1
abbrev ky_344914_SpillForgeModel_share : gKey := (cX17_share, 7, "SpillForgeModel", none, [], "share", fun _ _ => True)
def pt_344914_SpillForgeModel_share (D : va_G) (I : FieldType → ClassId) (γ el : Nat → Nat → Nat) (P344908 : List Nat) (F344909 : Nat → va_E) (q344910 : Nat) (q344911 : Nat) : Option Value → va_W → Nat → Nat → Prop := fun r w dc ds => ∃ (F366563 : Nat → va_E), r = none ∧ w = va_pl P344908 F366563 ∧ RS D I P344908 F366563 γ el ∧ rStr γ [1] F344909 F366563 ∧ dc ≤ 0 ∧ ds ≤ 0 ∧ rFs γ (γ 1 q344911) F344909 F366563 ∧ mKp (F344909 q344910) (F366563 q344910) ∧ tr_RModel_share D I γ el P344908 F344909 q344910 q344911 F366563
set_option maxRecDepth 100000 in
set_option maxHeartbeats 4000000 in
theorem ct_344914_SpillForgeModel_share (l : Launch) (hl0 : l.stackTraces = false) (D : va_G) (I : FieldType → ClassId) (γ el : Nat → Nat → Nat) (P344908 : List Nat) (F344909 : Nat → va_E) (q344910 : Nat) (q344911 : Nat) (hT : RS D I P344908 F344909 γ el) (htq344910 : rKd γ q344910 10) (htq344911 : rKd γ q344911 9) (x344912 : 0 < γ 6 (γ 1 q344911)) (x344913 : (((γ 7 (γ 1 q344911) : Nat) : Int) ≤ (fI (F344909 q344910) 11).toInt)) : CtA (gV D I) l yX17_share cX17_share 7 none 6 141 0 0 [.ref q344910, .ref q344911] (va_pl P344908 F344909) (pt_344914_SpillForgeModel_share D I γ el P344908 F344909 q344910 q344911) gNA := by
  refine CtA_of hl0 (by decide) (Nat.le_of_ble_eq_true rfl) ?_
  have hm344915 : q344910 ∈ P344908 := RS_m hT htq344910 (by decide)
  refine rk10_e (show rk_10 γ (F344909 q344910) from RS_o hT htq344910) (fun q344917 q344918 p344919 p344920 p344921 p344922 p344923 p344924 p344925 p344926 p344927 p344928 p344929 p344930 p344931 p344932 p344933 he344916 hB344960 ht344934 ht344935 ht344936 ht344937 ht344938 ht344939 ht344940 ht344941 ht344942 ht344943 ht344944 ht344945 ht344946 ht344947 ht344948 ht344949 ht344950 ht344951 ht344952 ht344953 ht344954 ht344955 ht344956 ht344957 hB344961 => ?_)
  have hm344962 : (γ 9 19) ∈ P344908 := RS_m hT ht344949 (by decide)
  obtain ⟨f344964, he344963, bf344964⟩ := show rk_21 I (F344909 (γ 9 19)) from RS_o hT ht344949
  have r344965 : (γ 7 (γ 1 q344911) : Int) ≤ p344921.toInt := by have z := x344913; rw [he344916] at z; exact z
  have bp344921 : gB p344921 0 100 := (hB344960.2.2.1)
  refine G_aload_n 0 dr_cX17_share_0 rfl ?_
  refine G_aload_n 1 dr_cX17_share_1 rfl ?_
  refine G_iconst 1 dr_cX17_share_2 (by decide +kernel) ?_
  refine Gw_callV (As := [.ref q344911, .int 1]) (gV_ok D I) (ct_277516_SpillForgeModel_graph l hl0 D I γ el P344908 F344909 q344910 q344911 1 hT htq344910 htq344911 (gB_w (gBl (show Int32.toInt 1 = 1 by decide)) (by decide) (by decide)) (by omega)) dr_cX17_share_3 ⟨wr_10_233, wr_1_14, wr_10_236, by decide, rfl, (Nat.le_of_ble_eq_true rfl), (Nat.le_of_ble_eq_true rfl)⟩ wr_10_235 wr_p_99 hm344915 he344916 rfl (show 0 + 0 ≤ 0 by first | omega | decide) (show 0 + 0 ≤ 0 by first | omega | decide) (Nat.le_of_ble_eq_true rfl) (fun r344969 w344970 dc344966 ds344967 hp344968 => ?_) (fun _ _ _ _ _ z => z.elim)
  obtain ⟨F344974, rfl, rfl, hT344975, hs344976, hdc, hds, x344971, x344972, ht344973⟩ := hp344968
  have hs344977 : rStr γ [1] F344909 F344974 := rStr_tr (rStr_rf (γ := γ) (W := [1]) (F := F344909)) (rStr_w hs344976 (by decide))
  have fs344978 : rFs γ (γ 1 q344911) F344909 F344974 := rFs_tr (rFs_rf) (rFs_0 hs344976)
  have kp344979 : F344974 q344910 = F344909 q344910 := x344972
  have mk344980 : mKp (F344909 q344910) (F344974 q344910) := mKp_tr mKp_rf (mKp_eq x344972)
  have he344981 : F344974 q344910 = .inr (22, [.ref (γ 9 0), .ref (γ 9 1), .ref (γ 9 2), .ref (γ 9 3), .ref (γ 9 4), .ref (γ 9 5), .ref (γ 9 6), .ref (γ 9 7), .ref (γ 9 8), .int p344919, .int p344920, .int p344921, .int p344922, .int p344923, .int p344924, .ref (γ 9 15), .ref (γ 9 16), .ref (γ 9 17), .ref (γ 9 18), .ref (γ 9 19), .ref (γ 9 20), .ref (γ 9 21), .ref (γ 9 22), .int p344925, .int p344926, .int p344927, .int p344928, .int p344929, .ref q344917, .ref (γ 9 29), .int p344930, .ref (γ 9 31), .int p344931, .int p344932, .int p344933, .ref q344918]) := (x344972).trans he344916
  rw [show Int32.toInt 1 = 1 from by decide] at x344971
  change G _ _ _ _ _ _ _ _ _ _ _
  refine G_widen (cs' := 0) (sl' := 0) (by omega) (by omega) ?_
  refine G_iconst 0 dr_cX17_share_6 (by decide +kernel) ?_
  refine G_istore_n (L' := [(2, .int 0), (0, .ref q344910), (1, .ref q344911)]) dr_cX17_share_7 (Nat.le_of_ble_eq_true rfl) rfl ?_
  refine G_iconst 0 dr_cX17_share_8 (by decide +kernel) ?_
  refine G_istore_n (L' := [(3, .int 0), (2, .int 0), (0, .ref q344910), (1, .ref q344911)]) dr_cX17_share_9 (Nat.le_of_ble_eq_true rfl) rfl ?_
  have hlp10_364983 : ∀ (n10_364983 : Nat) (F364976 : Nat → va_E) (g364974 : Int32) (g364975 : Int32), gB g364974 0 100 → gB g364975 0 1999 → RS D I P344908 F364976 γ el → rStr γ [1] F344909 F364976 → (∀ q : Nat, (q : Int) < g364974.toInt → 0 ≤ (cB (F364976 (γ 9 19)) q).toInt ∧ (cB (F364976 (γ 9 19)) q).toInt ≤ q) → (g364975.toInt ≤ 100) → (F364976 q344910 = F344909 q344910) → rFs γ (γ 1 q344911) F344909 F364976 → mKp (F344909 q344910) (F364976 q344910) → (∀ (k : Nat) (e1 : Int32) (e2 : Nat → va_E), tl_RModel_share_10 D I γ el P344908 F344909 q344910 q344911 F364976 g364974 g364975 k e1 e2 → tl_RModel_share_10 D I γ el P344908 F344909 q344910 q344911 F344974 (0 : Int32) (0 : Int32) k e1 e2) → ((101 : Int) - g364974.toInt).toNat < n10_364983 → G (gV D I) l (gRm 6 141 0 0) (gMA (gV D I) (pt_344914_SpillForgeModel_share D I γ el P344908 F344909 q344910 q344911) gNA 0 0) ky_344914_SpillForgeModel_share 10 [(3, .int g364974), (2, .int g364975), (0, .ref q344910), (1, .ref q344911)] [] (va_pl P344908 F364976) 0 0 := by
    intro n10_364983
    induction n10_364983 with
    | zero => intro F364976 g364974 g364975 bg364974 bg364975 hT364977 hs364978 x364979 x364980 x364981 x364982 x364983 kt10_364984 hm10_364983; exact absurd hm10_364983 (Nat.not_lt_zero _)
    | succ n10_364983 ih10_364983 =>
      intro F364976 g364974 g364975 bg364974 bg364975 hT364977 hs364978 x364979 x364980 x364981 x364982 x364983 kt10_364984 hm10_364983
      have hs364985 : rStr γ [1] F344974 F364976 := fun b h0 hb hw => (hs364978 b h0 hb hw).trans (hs344977 b h0 hb hw).symm
      have hs364986 : rStr γ [1] F344909 F364976 := rStr_tr hs344977 hs364985
      have he364987 : F364976 q344910 = .inr (22, [.ref (γ 9 0), .ref (γ 9 1), .ref (γ 9 2), .ref (γ 9 3), .ref (γ 9 4), .ref (γ 9 5), .ref (γ 9 6), .ref (γ 9 7), .ref (γ 9 8), .int p344919, .int p344920, .int p344921, .int p344922, .int p344923, .int p344924, .ref (γ 9 15), .ref (γ 9 16), .ref (γ 9 17), .ref (γ 9 18), .ref (γ 9 19), .ref (γ 9 20), .ref (γ 9 21), .ref (γ 9 22), .int p344925, .int p344926, .int p344927, .int p344928, .int p344929, .ref q344917, .ref (γ 9 29), .int p344930, .ref (γ 9 31), .int p344931, .int p344932, .int p344933, .ref q344918]) := x364981.trans he344916
      have hm364988 : q344910 ∈ P344908 := RS_m hT364977 htq344910 (by decide)
      have hm364989 : (γ 9 19) ∈ P344908 := RS_m hT364977 ht344949 (by decide)
      obtain ⟨f364991, he364990, bf364991⟩ := show rk_21 I (F364976 (γ 9 19)) from RS_o hT364977 ht344949
      have cq364992 := x364979
      rw [cB_of he364990] at cq364992
      refine G_iload_n 0 dr_cX17_share_10 rfl ?_
      refine G_aload_n 2 dr_cX17_share_11 rfl ?_
      have fq364993 : fI (F364976 q344910) 11 = p344921 := by rw [he364987]; rfl
      refine Gp_get 11 hm364988 he364987 dr_cX17_share_12 (gk_X17 D I) (Nat.le_of_ble_eq_true rfl) wr_7_85 rfl ?_
      refine G_icmp_ge 151 dr_cX17_share_15 (by decide +kernel) (fun hc364994 => ?_) (fun hc364994 => ?_)
      · have r364995 : p344921.toInt ≤ g364974.toInt := gC_le hc364994
        have hx364996 : tl_RModel_share_10 D I γ el P344908 F344909 q344910 q344911 F344974 (0 : Int32) (0 : Int32) 151 g364975 F364976 := kt10_364984 151 g364975 F364976 (fun R c1 c2 c3 => c1 F364976 g364974 g364975 p344921 bg364974 bg364975 hT364977 hs364978 x364979 x364980 x364981 x364982 x364983 fq364993 r364995)
        refine G_iconst 0 dr_cX17_share_151 (by decide +kernel) ?_
        refine G_istore_n (L' := [(3, .int 0), (2, .int g364975), (0, .ref q344910), (1, .ref q344911)]) dr_cX17_share_152 (Nat.le_of_ble_eq_true rfl) rfl ?_
        have hlp153_365347 : ∀ (n153_365347 : Nat) (F365341 : Nat → va_E) (g365340 : Int32), gB g365340 0 1000000 → RS D I P344908 F365341 γ el → rStr γ [1] F344909 F365341 → (∀ q : Nat, (q : Int) < ((γ 7 (γ 1 q344911) : Nat) : Int) → 0 ≤ (cB (F365341 (γ 9 19)) q).toInt ∧ (cB (F365341 (γ 9 19)) q).toInt ≤ q) → (F365341 q344910 = F344909 q344910) → rFs γ (γ 1 q344911) F344909 F365341 → mKp (F344909 q344910) (F365341 q344910) → (∀ (k : Nat) (e1 : Nat → va_E), tl_RModel_share_153 D I γ el P344908 F344909 q344911 q344910 F365341 g365340 k e1 → tl_RModel_share_153 D I γ el P344908 F344909 q344911 q344910 F364976 (0 : Int32) k e1) → ((1000001 : Int) - g365340.toInt).toNat < n153_365347 → G (gV D I) l (gRm 6 141 0 0) (gMA (gV D I) (pt_344914_SpillForgeModel_share D I γ el P344908 F344909 q344910 q344911) gNA 0 0) ky_344914_SpillForgeModel_share 153 [(3, .int g365340), (2, .int g364975), (0, .ref q344910), (1, .ref q344911)] [] (va_pl P344908 F365341) 0 0 := by
          intro n153_365347
          induction n153_365347 with
          | zero => intro F365341 g365340 bg365340 hT365342 hs365343 x365344 x365345 x365346 x365347 kt153_365348 hm153_365347; exact absurd hm153_365347 (Nat.not_lt_zero _)
          | succ n153_365347 ih153_365347 =>
            intro F365341 g365340 bg365340 hT365342 hs365343 x365344 x365345 x365346 x365347 kt153_365348 hm153_365347
            have hs365349 : rStr γ [1] F364976 F365341 := fun b h0 hb hw => (hs365343 b h0 hb hw).trans (hs364978 b h0 hb hw).symm
            have hs365350 : rStr γ [1] F344909 F365341 := rStr_tr hs364978 hs365349
            have he365351 : F365341 q344910 = .inr (22, [.ref (γ 9 0), .ref (γ 9 1), .ref (γ 9 2), .ref (γ 9 3), .ref (γ 9 4), .ref (γ 9 5), .ref (γ 9 6), .ref (γ 9 7), .ref (γ 9 8), .int p344919, .int p344920, .int p344921, .int p344922, .int p344923, .int p344924, .ref (γ 9 15), .ref (γ 9 16), .ref (γ 9 17), .ref (γ 9 18), .ref (γ 9 19), .ref (γ 9 20), .ref (γ 9 21), .ref (γ 9 22), .int p344925, .int p344926, .int p344927, .int p344928, .int p344929, .ref q344917, .ref (γ 9 29), .int p344930, .ref (γ 9 31), .int p344931, .int p344932, .int p344933, .ref q344918]) := x365345.trans he344916
            have hm365352 : q344910 ∈ P344908 := RS_m hT365342 htq344910 (by decide)
            have hm365353 : (γ 9 19) ∈ P344908 := RS_m hT365342 ht344949 (by decide)
            obtain ⟨f365355, he365354, bf365355⟩ := show rk_21 I (F365341 (γ 9 19)) from RS_o hT365342 ht344949
            have cq365356 := x365344
            rw [cB_of he365354] at cq365356
            refine G_iload_n 0 dr_cX17_share_153 rfl ?_
            refine G_aload_n 3 dr_cX17_share_154 rfl ?_
            have hm365357 : q344911 ∈ P344908 := RS_m hT365342 htq344911 (by decide)
            obtain ⟨q365359, q365360, p365361, p365362, he365358, ht365378, ht365363, ht365364, ht365365, ht365366, r365367, r365368, r365369, r365370, r365371, r365372, r365373, r365374, r365375, r365376, r365377⟩ := show rk_9 γ el q344911 (F365341 q344911) from RS_o hT365342 htq344911
            have bp365361 : gB p365361 0 1000000 := ⟨by omega, by omega⟩
            have bp365362 : gB p365362 0 1000000 := ⟨by omega, by omega⟩
            have fq365379 : fI (F365341 q344911) 3 = p365362 := by rw [he365358]; rfl
            refine Gw_callV (As := []) (gV_ok D I) (cp_12780_Code_size l hl0 D I P344908 F365341 q344911 q365359 q365360 p365361 p365362 hm365357 he365358) dr_cX17_share_155 ⟨wr_10_160, wr_1_15, wr_9_131, by decide, rfl, (Nat.le_of_ble_eq_true rfl), (Nat.le_of_ble_eq_true rfl)⟩ wr_9_129 wr_9_130 hm365357 he365358 rfl (show 0 + 0 ≤ 0 by first | omega | decide) (show 0 + 0 ≤ 0 by first | omega | decide) (Nat.le_of_ble_eq_true rfl) (fun r365383 w365384 dc365380 ds365381 hp365382 => ?_) (fun _ _ _ _ _ z => z.elim)
            obtain ⟨rfl, rfl, hdc, hds⟩ := hp365382
            change G _ _ _ _ _ _ _ (.int p365362 :: _) _ _ _
            refine G_widen (cs' := 0) (sl' := 0) (by omega) (by omega) ?_
            refine G_icmp_ge 246 dr_cX17_share_158 (by decide +kernel) (fun hc365385 => ?_) (fun hc365385 => ?_)
            · have r365386 : p365362.toInt ≤ g365340.toInt := gC_le hc365385
              have hx365387 : tl_RModel_share_153 D I γ el P344908 F344909 q344911 q344910 F364976 (0 : Int32) 246 F365341 := kt153_365348 246 F365341 (fun R c1 c2 => c1 F365341 g365340 p365362 bg365340 hT365342 hs365343 x365344 x365345 x365346 x365347 fq365379 r365386)
              refine G_aload_n 2 dr_cX17_share_246 rfl ?_
              refine G_iload_n 1 dr_cX17_share_247 rfl ?_
              refine Gp_put 11 hm365352 he365351 dr_cX17_share_248 (gk_X17 D I) (Nat.le_of_ble_eq_true rfl) wr_7_85 rfl rfl rfl (Nat.le_of_ble_eq_true rfl) (fun F365388 e365389 n365390 => ?_)
              have he365391 : F365388 (γ 9 19) = .inl (I .int, 2000, .inl f365355) := (n365390 (γ 9 19) (rn_ao he365354 he365351)).trans he365354
              have he365392 : F365388 q344911 = .inr (18, [.ref q365359, .ref q365360, .int p365361, .int p365362]) := (n365390 q344911 (rn_oo he365358 he365351 (by decide))).trans he365358
              have he365393 : F365388 q344910 = .inr (22, [.ref (γ 9 0), .ref (γ 9 1), .ref (γ 9 2), .ref (γ 9 3), .ref (γ 9 4), .ref (γ 9 5), .ref (γ 9 6), .ref (γ 9 7), .ref (γ 9 8), .int p344919, .int p344920, .int g364975, .int p344922, .int p344923, .int p344924, .ref (γ 9 15), .ref (γ 9 16), .ref (γ 9 17), .ref (γ 9 18), .ref (γ 9 19), .ref (γ 9 20), .ref (γ 9 21), .ref (γ 9 22), .int p344925, .int p344926, .int p344927, .int p344928, .int p344929, .ref q344917, .ref (γ 9 29), .int p344930, .ref (γ 9 31), .int p344931, .int p344932, .int p344933, .ref q344918]) := e365389
              have mk365394 : mKp (F344909 q344910) (F365388 q344910) := mKp_tr x365347 (by rw [he365351, he365393]; exact ⟨rfl, rfl⟩)
              have hs365395 : rStr γ [1] F344909 F365388 := rStr_put hs365343 n365390 htq344910 (by decide)
              have fs365396 : rFs γ (γ 1 q344911) F344909 F365388 := rFs_pn x365346 n365390 htq344910 (by decide)
              have fq365397 : F365388 q344910 = cF (F365341 q344910) 11 (.int g364975) := by rw [he365393, he365351]; rfl
              have hT365398 : RS D I P344908 F365388 γ el := RS_set hT365342 n365390 htq344910 (by decide) ⟨q344917, q344918, p344919, p344920, g364975, p344922, p344923, p344924, p344925, p344926, p344927, p344928, p344929, p344930, p344931, p344932, p344933, he365393, ⟨(hB344960.1), (hB344960.2.1), ⟨by omega, by omega⟩, (hB344960.2.2.2.1), (hB344960.2.2.2.2.1), (hB344960.2.2.2.2.2.1), (hB344960.2.2.2.2.2.2.1), (hB344960.2.2.2.2.2.2.2.1), (hB344960.2.2.2.2.2.2.2.2)⟩, ht344934, ht344935, ht344936, ht344937, ht344938, ht344939, ht344940, ht344941, ht344942, ht344943, ht344944, ht344945, ht344946, ht344947, ht344948, ht344949, ht344950, ht344951, ht344952, ht344953, ht344954, ht344955, ht344956, ht344957, hB344961⟩
              exact G_vretA dr_cX17_share_251 rfl (Nat.le_of_ble_eq_true rfl) (Nat.le_of_ble_eq_true rfl) ⟨F365388, rfl, rfl, hT365398, hs365395, (Nat.le_of_ble_eq_true rfl), (Nat.le_of_ble_eq_true rfl), fs365396, mk365394, (fun R c1 => c1 F344974 g364975 F364976 F365341 F365388 hT344975 hs344976 x344971 x344972 ht344973 hx364996 hx365387 n365390 fq365397)⟩
            · have r365399 : g365340.toInt < p365362.toInt := gC_nle hc365385
              have bg365340' : gB g365340 0 999999 := ⟨by omega, by omega⟩
              have bp365362' : gB p365362 1 1000000 := ⟨by omega, by omega⟩
              refine G_aload_n 3 dr_cX17_share_161 rfl ?_
              refine G_iload_n 0 dr_cX17_share_162 rfl ?_
              have hm365400 : q365359 ∈ P344908 := RS_m hT365342 ht365363 (by decide)
              obtain ⟨⟨p365402, p365403, q365404, he365401, r365405, r365406, r365407, r365409⟩, r365408⟩ := show rk_4 D I γ el F365341 q365359 from RS_o hT365342 ht365363
              have bp365402 := gB_any p365402
              have bp365403 : gB p365403 0 1000000 := ⟨by omega, by omega⟩
              obtain ⟨r365410, r365411, n365418, f365419, r365412, r365413, r365414, r365415, r365416, r365417⟩ := rLC_n r365407 (by omega)
              have hm365420 : q365404 ∈ P344908 := RS_m hT365342 r365410 (by decide)
              obtain ⟨q365421, hx365422⟩ : ∃ x, x = el q365359 g365340.toInt.toNat := ⟨_, rfl⟩
              have fq365426 : fR (F365341 q344911) 0 = q365359 := by rw [he365358]; rfl
              have hx365423 : f365419 g365340.toNatClampNeg = some q365421 := (r365416 _ (show g365340.toInt.toNat < γ 2 q365359 by omega)).trans (by rw [hx365422])
              have ht365427 : rKd γ q365421 2 := by rw [hx365422]; exact (r365374 _ (by omega)).resolve_right (fun z => absurd z.1 (by omega))
              have ht365428 : rFm γ q365421 q365359 := by rw [hx365422]; exact (r365408 _ (show g365340.toInt.toNat < γ 2 q365359 by omega)).2.1
              have hm365429 : q365421 ∈ P344908 := RS_m hT365342 ht365427 (by decide)
              obtain ⟨q365431, q365432, p365433, p365434, he365430, ht365441, ht365435, ht365436, ht365437, ht365438, ht365439, bp365433, bp365434, r365440, r365442, r365443⟩ := show rk_2 γ q365421 (F365341 q365421) from RS_o hT365342 ht365427
              have fq365444 : fI (F365341 q365359) 2 = p365403 := by rw [he365401]; rfl
              refine Gw_callV (As := [.int g365340]) (gV_ok D I) (cp_7901_Code_get l hl0 D I P344908 F365341 q344911 q365359 q365404 g365340 q365360 p365361 p365362 p365402 p365403 f365419 n365418 q365421 q365431 q365432 p365433 p365434 hm365357 hm365400 hm365420 hm365429 he365358 he365401 r365412 he365430 (gB_w bg365340' (by decide) (by decide)) (gB_w bp365403 (by decide) (by decide)) (by omega) (by omega) (by assumption) (by omega)) dr_cX17_share_163 ⟨wr_10_161, wr_1_15, wr_10_141, by decide, rfl, (Nat.le_of_ble_eq_true rfl), (Nat.le_of_ble_eq_true rfl)⟩ wr_10_139 wr_10_140 hm365357 he365358 rfl (show 0 + 0 ≤ 0 by first | omega | decide) (show 0 + 0 ≤ 0 by first | omega | decide) (Nat.le_of_ble_eq_true rfl) (fun r365448 w365449 dc365445 ds365446 hp365447 => ?_) (fun _ _ _ _ _ z => z.elim)
              obtain ⟨rfl, rfl, hdc, hds, ht365450⟩ := hp365447
              change G _ _ _ _ _ _ _ (.ref q365421 :: _) _ _ _
              refine G_widen (cs' := 0) (sl' := 0) (by omega) (by omega) ?_
              refine G_astore (L' := [(4, .ref q365421), (3, .int g365340), (2, .int g364975), (0, .ref q344910), (1, .ref q344911)]) dr_cX17_share_166 (Nat.le_of_ble_eq_true rfl) rfl ?_
              refine G_iconst 0 dr_cX17_share_168 (by decide +kernel) ?_
              refine G_istore (L' := [(5, .int 0), (4, .ref q365421), (3, .int g365340), (2, .int g364975), (0, .ref q344910), (1, .ref q344911)]) dr_cX17_share_169 (Nat.le_of_ble_eq_true rfl) rfl ?_
              have hlp171_365577 : ∀ (n171_365577 : Nat) (F365571 : Nat → va_E) (g365570 : Int32), gB g365570 0 1000000 → RS D I P344908 F365571 γ el → rStr γ [1] F344909 F365571 → (∀ q : Nat, (q : Int) < ((γ 7 (γ 1 q344911) : Nat) : Int) → 0 ≤ (cB (F365571 (γ 9 19)) q).toInt ∧ (cB (F365571 (γ 9 19)) q).toInt ≤ q) → (F365571 q344910 = F344909 q344910) → rFs γ (γ 1 q344911) F344909 F365571 → mKp (F344909 q344910) (F365571 q344910) → (∀ (k : Nat) (e1 : Nat → va_E), tl_RModel_share_171 D I γ el P344908 F344909 q344911 q344910 q365421 F365571 g365570 k e1 → tl_RModel_share_171 D I γ el P344908 F344909 q344911 q344910 q365421 F365341 (0 : Int32) k e1) → ((1000001 : Int) - g365570.toInt).toNat < n171_365577 → G (gV D I) l (gRm 6 141 0 0) (gMA (gV D I) (pt_344914_SpillForgeModel_share D I γ el P344908 F344909 q344910 q344911) gNA 0 0) ky_344914_SpillForgeModel_share 171 [(5, .int g365570), (4, .ref q365421), (3, .int g365340), (2, .int g364975), (0, .ref q344910), (1, .ref q344911)] [] (va_pl P344908 F365571) 0 0 := by
                intro n171_365577
                induction n171_365577 with
                | zero => intro F365571 g365570 bg365570 hT365572 hs365573 x365574 x365575 x365576 x365577 kt171_365578 hm171_365577; exact absurd hm171_365577 (Nat.not_lt_zero _)
                | succ n171_365577 ih171_365577 =>
                  intro F365571 g365570 bg365570 hT365572 hs365573 x365574 x365575 x365576 x365577 kt171_365578 hm171_365577
                  have hs365579 : rStr γ [1] F365341 F365571 := fun b h0 hb hw => (hs365573 b h0 hb hw).trans (hs365343 b h0 hb hw).symm
                  have he365580 : F365571 q344911 = .inr (18, [.ref q365359, .ref q365360, .int p365361, .int p365362]) := (hs365579 q344911 (rT0 htq344911 (by decide)) (rT1 htq344911 (by decide)) (rT2 htq344911 (by decide))).trans he365358
                  have he365581 : F365571 q365359 = .inr (4, [.int p365402, .ref q365404, .int p365403]) := (hs365579 q365359 (rT0 ht365363 (by decide)) (rT1 ht365363 (by decide)) (rT2 ht365363 (by decide))).trans he365401
                  have he365582 : F365571 q365404 = .inl (I (.object "java/lang/Object"), n365418, .inr (.inr (.inr (.inr f365419)))) := (hs365579 q365404 (rT0 r365410 (by decide)) (rT1 r365410 (by decide)) (rT2 r365410 (by decide))).trans r365412
                  have he365583 : F365571 q365421 = .inr (17, [.ref q365431, .ref q365432, .int p365433, .int p365434]) := (hs365579 q365421 (rT0 ht365427 (by decide)) (rT1 ht365427 (by decide)) (rT2 ht365427 (by decide))).trans he365430
                  have hs365584 : rStr γ [1] F344909 F365571 := rStr_tr hs365343 hs365579
                  have he365585 : F365571 q344910 = .inr (22, [.ref (γ 9 0), .ref (γ 9 1), .ref (γ 9 2), .ref (γ 9 3), .ref (γ 9 4), .ref (γ 9 5), .ref (γ 9 6), .ref (γ 9 7), .ref (γ 9 8), .int p344919, .int p344920, .int p344921, .int p344922, .int p344923, .int p344924, .ref (γ 9 15), .ref (γ 9 16), .ref (γ 9 17), .ref (γ 9 18), .ref (γ 9 19), .ref (γ 9 20), .ref (γ 9 21), .ref (γ 9 22), .int p344925, .int p344926, .int p344927, .int p344928, .int p344929, .ref q344917, .ref (γ 9 29), .int p344930, .ref (γ 9 31), .int p344931, .int p344932, .int p344933, .ref q344918]) := x365575.trans he344916
                  have hm365586 : q344910 ∈ P344908 := RS_m hT365572 htq344910 (by decide)
                  have hm365587 : (γ 9 19) ∈ P344908 := RS_m hT365572 ht344949 (by decide)
                  obtain ⟨f365589, he365588, bf365589⟩ := show rk_21 I (F365571 (γ 9 19)) from RS_o hT365572 ht344949
                  have cq365590 := x365574
                  rw [cB_of he365588] at cq365590
                  refine G_iload 0 dr_cX17_share_171 rfl ?_
                  refine G_aload 1 dr_cX17_share_173 rfl ?_
                  have fq365591 : fR (F365571 q365421) 0 = q365431 := by rw [he365583]; rfl
                  refine Gp_get 0 hm365429 he365583 dr_cX17_share_175 (gk_X12 D I) (Nat.le_of_ble_eq_true rfl) wr_9_220 rfl ?_
                  have hm365592 : q365431 ∈ P344908 := RS_m hT365572 ht365435 (by decide)
                  obtain ⟨⟨p365594, p365595, q365596, he365593, r365597, r365598, r365599, r365601⟩, r365600⟩ := show rk_3 D I γ el F365571 q365431 from RS_o hT365572 ht365435
                  have bp365594 := gB_any p365594
                  have bp365595 : gB p365595 0 1000000 := ⟨by omega, by omega⟩
                  have fq365602 : p365595.toInt = (γ 2 q365431 : Int) := by omega
                  have fq365603 : fI (F365571 q365431) 2 = p365595 := by rw [he365593]; rfl
                  refine Gw_callV (As := []) (gV_ok D I) (cp_7_ArrayList_size l hl0 D I P344908 F365571 q365431 p365594 q365596 p365595 hm365592 he365593 (gB_w bp365595 (by decide) (by decide))) dr_cX17_share_178 ⟨wr_10_200, wr_1_18, wr_9_160, by decide, rfl, (Nat.le_of_ble_eq_true rfl), (Nat.le_of_ble_eq_true rfl)⟩ wr_9_158 wr_9_159 hm365592 he365593 rfl (show 0 + 0 ≤ 0 by first | omega | decide) (show 0 + 0 ≤ 0 by first | omega | decide) (Nat.le_of_ble_eq_true rfl) (fun r365607 w365608 dc365604 ds365605 hp365606 => ?_) (fun _ _ _ _ _ z => z.elim)
                  obtain ⟨rfl, rfl, hdc, hds⟩ := hp365606
                  change G _ _ _ _ _ _ _ (.int p365595 :: _) _ _ _
                  refine G_widen (cs' := 0) (sl' := 0) (by omega) (by omega) ?_
                  refine G_icmp_ge 240 dr_cX17_share_181 (by decide +kernel) (fun hc365609 => ?_) (fun hc365609 => ?_)
                  · have r365610 : p365595.toInt ≤ g365570.toInt := gC_le hc365609
                    have hx365611 : tl_RModel_share_171 D I γ el P344908 F344909 q344911 q344910 q365421 F365341 (0 : Int32) 240 F365571 := kt171_365578 240 F365571 (fun R c1 c2 c3 c4 => c1 F365571 g365570 q365431 p365595 bg365570 hT365572 hs365573 x365574 x365575 x365576 x365577 fq365591 fq365602 fq365603 r365610)
                    obtain ⟨z365612, hz365612⟩ : ∃ z : Int32, z = g365340 + Int32.ofInt 1 := ⟨_, rfl⟩
                    have ez365612 : z365612.toInt = g365340.toInt + 1 := gI_inc hz365612 (by decide) bg365340' (by decide) (by decide)
                    have bz365612 : gB z365612 1 1000000 := ⟨by omega, by omega⟩
                    refine G_iinc (L' := [(3, .int z365612), (5, .int g365570), (4, .ref q365421), (2, .int g364975), (0, .ref q344910), (1, .ref q344911)]) z365612 2 dr_cX17_share_240 rfl hz365612.symm (Nat.le_of_ble_eq_true rfl) rfl ?_
                    refine G_goto 153 dr_cX17_share_243 (by decide +kernel) ?_
                    refine G_lv (L' := [(3, .int z365612), (2, .int g364975), (0, .ref q344910), (1, .ref q344911)]) [0, 3, 4, 5] rfl ?_
                    exact ih153_365347 F365571 z365612 (gB_w bz365612 (by decide) (by decide)) hT365572 hs365573 (by rw [cB_of he365588]; exact cq365590) x365575 x365576 x365577 (fun k e1 ht => kt153_365348 k e1 (fun R c1 c2 => c2 F365341 g365340 p365362 q365359 q365421 p365403 F365571 z365612 k e1 bg365340 hT365342 hs365343 x365344 x365345 x365346 x365347 fq365379 r365399 fq365426 hx365422 fq365444 ht365450 hx365611 ez365612 (ht R c1 c2))) (mz_up ez365612 (Int.le_trans bg365340'.2 (by decide)) hm153_365347)
                  · have r365613 : g365570.toInt < p365595.toInt := gC_nle hc365609
                    have bg365570' : gB g365570 0 999999 := ⟨by omega, by omega⟩
                    have bp365595' : gB p365595 1 1000000 := ⟨by omega, by omega⟩
                    refine G_aload 1 dr_cX17_share_184 rfl ?_
                    refine Gp_get 0 hm365429 he365583 dr_cX17_share_186 (gk_X12 D I) (Nat.le_of_ble_eq_true rfl) wr_9_220 rfl ?_
                    refine G_iload 0 dr_cX17_share_189 rfl ?_
                    obtain ⟨r365614, r365615, n365622, f365623, r365616, r365617, r365618, r365619, r365620, r365621⟩ := rLC_n r365599 (by omega)
                    have hm365624 : q365596 ∈ P344908 := RS_m hT365572 r365614 (by decide)
                    obtain ⟨q365625, hx365626⟩ : ∃ x, x = el q365431 g365570.toInt.toNat := ⟨_, rfl⟩
                    have hx365627 : f365623 g365570.toNatClampNeg = some q365625 := (r365620 _ (show g365570.toInt.toNat < γ 2 q365431 by omega)).trans (by rw [hx365626])
                    have ht365628 : rKd γ q365625 1 := by rw [hx365626]; exact (r365600 _ (show g365570.toInt.toNat < γ 2 q365431 by omega)).1
                    have ht365629 : rFm γ q365625 q365431 := by rw [hx365626]; exact (r365600 _ (show g365570.toInt.toNat < γ 2 q365431 by omega)).2.1
                    refine Gw_callV (As := [.int g365570]) (gV_ok D I) (cp_22_ArrayList_get l hl0 D I P344908 F365571 q365431 q365596 g365570 p365594 p365595 f365623 n365622 q365625 hm365592 hm365624 he365593 r365616 (gB_w bg365570' (by decide) (by decide)) (gB_w bp365595' (by decide) (by decide)) (by omega) (by omega) (by assumption) (by omega)) dr_cX17_share_191 ⟨wr_10_201, wr_1_18, wr_10_65, by decide, rfl, (Nat.le_of_ble_eq_true rfl), (Nat.le_of_ble_eq_true rfl)⟩ wr_10_63 wr_10_64 hm365592 he365593 rfl (show 0 + 0 ≤ 0 by first | omega | decide) (show 0 + 0 ≤ 0 by first | omega | decide) (Nat.le_of_ble_eq_true rfl) (fun r365633 w365634 dc365630 ds365631 hp365632 => ?_) (fun _ _ _ _ _ z => z.elim)
                    obtain ⟨rfl, rfl, hdc, hds, ht365635⟩ := hp365632
                    change G _ _ _ _ _ _ _ (.ref q365625 :: _) _ _ _
                    refine G_widen (cs' := 0) (sl' := 0) (by omega) (by omega) ?_
                    have hm365636 : q365625 ∈ P344908 := RS_m hT365572 ht365628 (by decide)
                    obtain ⟨p365638, p365639, p365640, p365641, p365642, p365643, p365644, he365637, bp365638, bp365639, bp365642, bp365643, bp365644, r365645, r365646, r365647, r365648, r365649⟩ := show rk_1 γ q365625 (F365571 q365625) from RS_o hT365572 ht365628
                    have bp365640 := gB_any p365640
                    have bp365641 := gB_any p365641
                    refine Gp_cast hm365636 he365637 rfl dr_cX17_share_194 wr_10_202 (gr_cast 1 rfl) ?_
                    refine G_astore (L' := [(6, .ref q365625), (5, .int g365570), (4, .ref q365421), (3, .int g365340), (2, .int g364975), (0, .ref q344910), (1, .ref q344911)]) dr_cX17_share_197 (Nat.le_of_ble_eq_true rfl) rfl ?_
                    refine G_aload 0 dr_cX17_share_199 rfl ?_
                    have fq365650 : fI (F365571 q365625) 0 = p365638 := by rw [he365637]; rfl
                    refine Gp_get 0 hm365636 he365637 dr_cX17_share_201 (gk_X15 D I) (Nat.le_of_ble_eq_true rfl) wr_9_177 rfl ?_
                    refine G_bipush 21 dr_cX17_share_204 (by decide +kernel) ?_
                    refine G_icmp_eq 219 dr_cX17_share_206 (by decide +kernel) (fun hc365651 => ?_) (fun hc365651 => ?_)
                    · have r365652 : p365638.toInt = 21 := gj_eq hc365651 (show Int32.toInt 21 = 21 by decide)
                      have bp365638' : gB p365638 21 21 := ⟨by omega, by omega⟩
                      refine G_aload 0 dr_cX17_share_219 rfl ?_
                      refine G_aload_n 5 dr_cX17_share_221 rfl ?_
                      have fq365653 : fR (F365571 q344910) 19 = (γ 9 19) := by rw [he365585]; rfl
                      refine Gp_get 19 hm365586 he365585 dr_cX17_share_222 (gk_X17 D I) (Nat.le_of_ble_eq_true rfl) wr_7_93 rfl ?_
                      refine G_aload 0 dr_cX17_share_225 rfl ?_
                      have fq365654 : fI (F365571 q365625) 4 = p365642 := by rw [he365637]; rfl
                      refine Gp_get 4 hm365636 he365637 dr_cX17_share_227 (gk_X15 D I) (Nat.le_of_ble_eq_true rfl) wr_9_193 rfl ?_
                      refine Gp_iald 0 hm365587 he365588 dr_cX17_share_230 rfl (gB_in bp365642 (by decide) (by decide)) (G_nam fun z365655 hz365655 => ?_)
                      have bz365655 : gB z365655 (-1) 1999 := by rw [hz365655]; exact bf365589 _
                      have r365656 : γ 7 (γ 1 q365625) = γ 7 (γ 1 q344911) := by rw [show γ 1 q365625 = γ 1 q365431 from ht365629, show γ 1 q365431 = γ 1 q365421 from ht365436, show γ 1 q365421 = γ 1 q365359 from ht365428, show γ 1 q365359 = γ 1 q344911 from ht365364]
                      have r365657 : 0 ≤ z365655.toInt ∧ z365655.toInt ≤ (p365642.toInt.toNat : Int) := by rw [hz365655]; exact cq365590 p365642.toInt.toNat (by omega)
                      have bz365655' : gB z365655 0 1999 := ⟨by omega, by omega⟩
                      refine Gp_put 4 hm365636 he365637 dr_cX17_share_231 (gk_X15 D I) (Nat.le_of_ble_eq_true rfl) wr_9_193 rfl rfl rfl (Nat.le_of_ble_eq_true rfl) (fun F365658 e365659 n365660 => ?_)
                      have he365661 : F365658 q344911 = .inr (18, [.ref q365359, .ref q365360, .int p365361, .int p365362]) := (n365660 q344911 (rn_oo he365580 he365637 (by decide))).trans he365580
                      have he365662 : F365658 q365359 = .inr (4, [.int p365402, .ref q365404, .int p365403]) := (n365660 q365359 (rn_oo he365581 he365637 (by decide))).trans he365581
                      have he365663 : F365658 q365404 = .inl (I (.object "java/lang/Object"), n365418, .inr (.inr (.inr (.inr f365419)))) := (n365660 q365404 (rn_ao he365582 he365637)).trans he365582
                      have he365664 : F365658 q365421 = .inr (17, [.ref q365431, .ref q365432, .int p365433, .int p365434]) := (n365660 q365421 (rn_oo he365583 he365637 (by decide))).trans he365583
                      have he365665 : F365658 q344910 = .inr (22, [.ref (γ 9 0), .ref (γ 9 1), .ref (γ 9 2), .ref (γ 9 3), .ref (γ 9 4), .ref (γ 9 5), .ref (γ 9 6), .ref (γ 9 7), .ref (γ 9 8), .int p344919, .int p344920, .int p344921, .int p344922, .int p344923, .int p344924, .ref (γ 9 15), .ref (γ 9 16), .ref (γ 9 17), .ref (γ 9 18), .ref (γ 9 19), .ref (γ 9 20), .ref (γ 9 21), .ref (γ 9 22), .int p344925, .int p344926, .int p344927, .int p344928, .int p344929, .ref q344917, .ref (γ 9 29), .int p344930, .ref (γ 9 31), .int p344931, .int p344932, .int p344933, .ref q344918]) := (n365660 q344910 (rn_oo he365585 he365637 (by decide))).trans he365585
                      have he365666 : F365658 (γ 9 19) = .inl (I .int, 2000, .inl f365589) := (n365660 (γ 9 19) (rn_ao he365588 he365637)).trans he365588
                      have he365667 : F365658 q365431 = .inr (4, [.int p365594, .ref q365596, .int p365595]) := (n365660 q365431 (rn_oo he365593 he365637 (by decide))).trans he365593
                      have he365668 : F365658 q365596 = .inl (I (.object "java/lang/Object"), n365622, .inr (.inr (.inr (.inr f365623)))) := (n365660 q365596 (rn_ao r365616 he365637)).trans r365616
                      have he365669 : F365658 q365625 = .inr (20, [.int p365638, .int p365639, .int p365640, .int p365641, .int z365655, .int p365643, .int p365644]) := e365659
                      have mk365670 : mKp (F344909 q344910) (F365658 q344910) := mKp_tr x365577 (mKp_eq (n365660 q344910 (rn_ty htq344910 ht365628 (by decide))))
                      have hs365671 : rStr γ [1] F344909 F365658 := rStr_pu2 hs365573 n365660 ht365628 (by decide)
                      have kp365672 : F365658 q344910 = F344909 q344910 := (n365660 q344910 (rn_ty htq344910 ht365628 (by decide))).trans x365575
                      have fs365673 : rFs γ (γ 1 q344911) F344909 F365658 := rFs_put x365576 n365660 ((show γ 1 q365625 = γ 1 q365431 from ht365629).trans ((show γ 1 q365431 = γ 1 q365421 from ht365436).trans ((show γ 1 q365421 = γ 1 q365359 from ht365428).trans (show γ 1 q365359 = γ 1 q344911 from ht365364))))
                      have fq365674 : F365658 q365625 = cF (F365571 q365625) 4 (.int z365655) := by rw [he365669, he365637]; rfl
                      obtain ⟨z365675, hz365675⟩ : ∃ z : Int32, z = g365570 + Int32.ofInt 1 := ⟨_, rfl⟩
                      have ez365675 : z365675.toInt = g365570.toInt + 1 := gI_inc hz365675 (by decide) bg365570' (by decide) (by decide)
                      have bz365675 : gB z365675 1 1000000 := ⟨by omega, by omega⟩
                      refine G_iinc (L' := [(5, .int z365675), (6, .ref q365625), (4, .ref q365421), (3, .int g365340), (2, .int g364975), (0, .ref q344910), (1, .ref q344911)]) z365675 1 dr_cX17_share_234 rfl hz365675.symm (Nat.le_of_ble_eq_true rfl) rfl ?_
                      refine G_goto 171 dr_cX17_share_237 (by decide +kernel) ?_
                      have hT365676 : RS D I P344908 F365658 γ el := RS_set hT365572 n365660 ht365628 (by decide) ⟨p365638, p365639, p365640, p365641, z365655, p365643, p365644, he365669, (gB_w bp365638' (by decide) (by decide)), bp365639, bz365655', bp365643, bp365644, (by omega), (by omega), (by omega), (by omega), (by omega)⟩
                      refine G_lv (L' := [(5, .int z365675), (4, .ref q365421), (3, .int g365340), (2, .int g364975), (0, .ref q344910), (1, .ref q344911)]) [0, 2, 3, 4, 5, 6] rfl ?_
                      exact ih171_365577 F365658 z365675 (gB_w bz365675 (by decide) (by decide)) hT365676 hs365671 (by rw [cB_of he365666]; exact cq365590) kp365672 fs365673 mk365670 (fun k e1 ht => kt171_365578 k e1 (fun R c1 c2 c3 c4 => c2 F365571 g365570 q365431 p365595 q365625 p365638 p365642 f365589 z365655 F365658 z365675 k e1 bg365570 hT365572 hs365573 x365574 x365575 x365576 x365577 fq365591 fq365602 fq365603 r365613 hx365626 ht365635 fq365650 r365652 fq365653 fq365654 he365588 hz365655 bz365655 n365660 fq365674 ez365675 (ht R c1 c2 c3 c4))) (mz_up ez365675 (Int.le_trans bg365570'.2 (by decide)) hm171_365577)
                    · have r365677 : p365638.toInt ≠ 21 := gj_neq hc365651 (show Int32.toInt 21 = 21 by decide)
                      refine G_aload 0 dr_cX17_share_209 rfl ?_
                      refine Gp_get 0 hm365636 he365637 dr_cX17_share_211 (gk_X15 D I) (Nat.le_of_ble_eq_true rfl) wr_9_177 rfl ?_
                      refine G_bipush 23 dr_cX17_share_214 (by decide +kernel) ?_
                      refine G_icmp_ne 234 dr_cX17_share_216 (by decide +kernel) (fun hc365678 => ?_) (fun hc365678 => ?_)
                      · have r365679 : p365638.toInt ≠ 23 := gj_neq hc365678 (show Int32.toInt 23 = 23 by decide)
                        obtain ⟨z365680, hz365680⟩ : ∃ z : Int32, z = g365570 + Int32.ofInt 1 := ⟨_, rfl⟩
                        have ez365680 : z365680.toInt = g365570.toInt + 1 := gI_inc hz365680 (by decide) bg365570' (by decide) (by decide)
                        have bz365680 : gB z365680 1 1000000 := ⟨by omega, by omega⟩
                        refine G_iinc (L' := [(5, .int z365680), (6, .ref q365625), (4, .ref q365421), (3, .int g365340), (2, .int g364975), (0, .ref q344910), (1, .ref q344911)]) z365680 1 dr_cX17_share_234 rfl hz365680.symm (Nat.le_of_ble_eq_true rfl) rfl ?_
                        refine G_goto 171 dr_cX17_share_237 (by decide +kernel) ?_
                        refine G_lv (L' := [(5, .int z365680), (4, .ref q365421), (3, .int g365340), (2, .int g364975), (0, .ref q344910), (1, .ref q344911)]) [0, 2, 3, 4, 5, 6] rfl ?_
                        exact ih171_365577 F365571 z365680 (gB_w bz365680 (by decide) (by decide)) hT365572 hs365573 (by rw [cB_of he365588]; exact cq365590) x365575 x365576 x365577 (fun k e1 ht => kt171_365578 k e1 (fun R c1 c2 c3 c4 => c3 F365571 g365570 q365431 p365595 q365625 p365638 z365680 k e1 bg365570 hT365572 hs365573 x365574 x365575 x365576 x365577 fq365591 fq365602 fq365603 r365613 hx365626 ht365635 fq365650 r365677 r365679 ez365680 (ht R c1 c2 c3 c4))) (mz_up ez365680 (Int.le_trans bg365570'.2 (by decide)) hm171_365577)
                      · have r365681 : p365638.toInt = 23 := gj_eq hc365678 (show Int32.toInt 23 = 23 by decide)
                        have bp365638' : gB p365638 23 23 := ⟨by omega, by omega⟩
                        refine G_aload 0 dr_cX17_share_219 rfl ?_
                        refine G_aload_n 5 dr_cX17_share_221 rfl ?_
                        have fq365682 : fR (F365571 q344910) 19 = (γ 9 19) := by rw [he365585]; rfl
                        refine Gp_get 19 hm365586 he365585 dr_cX17_share_222 (gk_X17 D I) (Nat.le_of_ble_eq_true rfl) wr_7_93 rfl ?_
                        refine G_aload 0 dr_cX17_share_225 rfl ?_
                        have fq365683 : fI (F365571 q365625) 4 = p365642 := by rw [he365637]; rfl
                        refine Gp_get 4 hm365636 he365637 dr_cX17_share_227 (gk_X15 D I) (Nat.le_of_ble_eq_true rfl) wr_9_193 rfl ?_
                        refine Gp_iald 0 hm365587 he365588 dr_cX17_share_230 rfl (gB_in bp365642 (by decide) (by decide)) (G_nam fun z365684 hz365684 => ?_)
                        have bz365684 : gB z365684 (-1) 1999 := by rw [hz365684]; exact bf365589 _
                        have r365685 : γ 7 (γ 1 q365625) = γ 7 (γ 1 q344911) := by rw [show γ 1 q365625 = γ 1 q365431 from ht365629, show γ 1 q365431 = γ 1 q365421 from ht365436, show γ 1 q365421 = γ 1 q365359 from ht365428, show γ 1 q365359 = γ 1 q344911 from ht365364]
                        have r365686 : 0 ≤ z365684.toInt ∧ z365684.toInt ≤ (p365642.toInt.toNat : Int) := by rw [hz365684]; exact cq365590 p365642.toInt.toNat (by omega)
                        have bz365684' : gB z365684 0 1999 := ⟨by omega, by omega⟩
                        refine Gp_put 4 hm365636 he365637 dr_cX17_share_231 (gk_X15 D I) (Nat.le_of_ble_eq_true rfl) wr_9_193 rfl rfl rfl (Nat.le_of_ble_eq_true rfl) (fun F365687 e365688 n365689 => ?_)
                        have he365690 : F365687 q344911 = .inr (18, [.ref q365359, .ref q365360, .int p365361, .int p365362]) := (n365689 q344911 (rn_oo he365580 he365637 (by decide))).trans he365580
                        have he365691 : F365687 q365359 = .inr (4, [.int p365402, .ref q365404, .int p365403]) := (n365689 q365359 (rn_oo he365581 he365637 (by decide))).trans he365581
                        have he365692 : F365687 q365404 = .inl (I (.object "java/lang/Object"), n365418, .inr (.inr (.inr (.inr f365419)))) := (n365689 q365404 (rn_ao he365582 he365637)).trans he365582
                        have he365693 : F365687 q365421 = .inr (17, [.ref q365431, .ref q365432, .int p365433, .int p365434]) := (n365689 q365421 (rn_oo he365583 he365637 (by decide))).trans he365583
                        have he365694 : F365687 q344910 = .inr (22, [.ref (γ 9 0), .ref (γ 9 1), .ref (γ 9 2), .ref (γ 9 3), .ref (γ 9 4), .ref (γ 9 5), .ref (γ 9 6), .ref (γ 9 7), .ref (γ 9 8), .int p344919, .int p344920, .int p344921, .int p344922, .int p344923, .int p344924, .ref (γ 9 15), .ref (γ 9 16), .ref (γ 9 17), .ref (γ 9 18), .ref (γ 9 19), .ref (γ 9 20), .ref (γ 9 21), .ref (γ 9 22), .int p344925, .int p344926, .int p344927, .int p344928, .int p344929, .ref q344917, .ref (γ 9 29), .int p344930, .ref (γ 9 31), .int p344931, .int p344932, .int p344933, .ref q344918]) := (n365689 q344910 (rn_oo he365585 he365637 (by decide))).trans he365585
                        have he365695 : F365687 (γ 9 19) = .inl (I .int, 2000, .inl f365589) := (n365689 (γ 9 19) (rn_ao he365588 he365637)).trans he365588
                        have he365696 : F365687 q365431 = .inr (4, [.int p365594, .ref q365596, .int p365595]) := (n365689 q365431 (rn_oo he365593 he365637 (by decide))).trans he365593
                        have he365697 : F365687 q365596 = .inl (I (.object "java/lang/Object"), n365622, .inr (.inr (.inr (.inr f365623)))) := (n365689 q365596 (rn_ao r365616 he365637)).trans r365616
                        have he365698 : F365687 q365625 = .inr (20, [.int p365638, .int p365639, .int p365640, .int p365641, .int z365684, .int p365643, .int p365644]) := e365688
                        have mk365699 : mKp (F344909 q344910) (F365687 q344910) := mKp_tr x365577 (mKp_eq (n365689 q344910 (rn_ty htq344910 ht365628 (by decide))))
                        have hs365700 : rStr γ [1] F344909 F365687 := rStr_pu2 hs365573 n365689 ht365628 (by decide)
                        have kp365701 : F365687 q344910 = F344909 q344910 := (n365689 q344910 (rn_ty htq344910 ht365628 (by decide))).trans x365575
                        have fs365702 : rFs γ (γ 1 q344911) F344909 F365687 := rFs_put x365576 n365689 ((show γ 1 q365625 = γ 1 q365431 from ht365629).trans ((show γ 1 q365431 = γ 1 q365421 from ht365436).trans ((show γ 1 q365421 = γ 1 q365359 from ht365428).trans (show γ 1 q365359 = γ 1 q344911 from ht365364))))
                        have fq365703 : F365687 q365625 = cF (F365571 q365625) 4 (.int z365684) := by rw [he365698, he365637]; rfl
                        obtain ⟨z365704, hz365704⟩ : ∃ z : Int32, z = g365570 + Int32.ofInt 1 := ⟨_, rfl⟩
                        have ez365704 : z365704.toInt = g365570.toInt + 1 := gI_inc hz365704 (by decide) bg365570' (by decide) (by decide)
                        have bz365704 : gB z365704 1 1000000 := ⟨by omega, by omega⟩
                        refine G_iinc (L' := [(5, .int z365704), (6, .ref q365625), (4, .ref q365421), (3, .int g365340), (2, .int g364975), (0, .ref q344910), (1, .ref q344911)]) z365704 1 dr_cX17_share_234 rfl hz365704.symm (Nat.le_of_ble_eq_true rfl) rfl ?_
                        refine G_goto 171 dr_cX17_share_237 (by decide +kernel) ?_
                        have hT365705 : RS D I P344908 F365687 γ el := RS_set hT365572 n365689 ht365628 (by decide) ⟨p365638, p365639, p365640, p365641, z365684, p365643, p365644, he365698, (gB_w bp365638' (by decide) (by decide)), bp365639, bz365684', bp365643, bp365644, (by omega), (by omega), (by omega), (by omega), (by omega)⟩
                        refine G_lv (L' := [(5, .int z365704), (4, .ref q365421), (3, .int g365340), (2, .int g364975), (0, .ref q344910), (1, .ref q344911)]) [0, 2, 3, 4, 5, 6] rfl ?_
                        exact ih171_365577 F365687 z365704 (gB_w bz365704 (by decide) (by decide)) hT365705 hs365700 (by rw [cB_of he365695]; exact cq365590) kp365701 fs365702 mk365699 (fun k e1 ht => kt171_365578 k e1 (fun R c1 c2 c3 c4 => c4 F365571 g365570 q365431 p365595 q365625 p365638 p365642 f365589 z365684 F365687 z365704 k e1 bg365570 hT365572 hs365573 x365574 x365575 x365576 x365577 fq365591 fq365602 fq365603 r365613 hx365626 ht365635 fq365650 r365677 r365681 fq365682 fq365683 he365588 hz365684 bz365684 n365689 fq365703 ez365704 (ht R c1 c2 c3 c4))) (mz_up ez365704 (Int.le_trans bg365570'.2 (by decide)) hm171_365577)
              exact hlp171_365577 (((1000001 : Int) - 0).toNat + 1) F365341 0 (gB_w (gBl (show Int32.toInt 0 = 0 by decide)) (by decide) (by decide)) hT365342 hs365343 (by rw [cB_of he365354]; exact cq365356) x365345 x365346 x365347 (fun k e1 ht => ht) (Nat.lt_succ_self _)
        exact hlp153_365347 (((1000001 : Int) - 0).toNat + 1) F364976 0 (gB_w (gBl (show Int32.toInt 0 = 0 by decide)) (by decide) (by decide)) hT364977 hs364978 (by rw [cB_of he364990]; exact fun q hq => cq364992 q (by omega)) x364981 x364982 x364983 (fun k e1 ht => ht) (Nat.lt_succ_self _)
      · have r365706 : g364974.toInt < p344921.toInt := gC_nle hc364994
        have bg364974' : gB g364974 0 99 := ⟨by omega, by omega⟩
        have bp344921' : gB p344921 1 100 := ⟨by omega, by omega⟩
        refine G_iconst 0 dr_cX17_share_18 (by decide +kernel) ?_
        refine G_istore (L' := [(4, .int 0), (3, .int g364974), (2, .int g364975), (0, .ref q344910), (1, .ref q344911)]) dr_cX17_share_19 (Nat.le_of_ble_eq_true rfl) rfl ?_
        refine G_iconst 0 dr_cX17_share_21 (by decide +kernel) ?_
        refine G_istore (L' := [(5, .int 0), (4, .int 0), (3, .int g364974), (2, .int g364975), (0, .ref q344910), (1, .ref q344911)]) dr_cX17_share_22 (Nat.le_of_ble_eq_true rfl) rfl ?_
        have hlp24_366131 : ∀ (n24_366131 : Nat) (F366125 : Nat → va_E) (g366124 : Int32), gB g366124 0 1999 → RS D I P344908 F366125 γ el → rStr γ [1] F344909 F366125 → (∀ q : Nat, (q : Int) < g364974.toInt → 0 ≤ (cB (F366125 (γ 9 19)) q).toInt ∧ (cB (F366125 (γ 9 19)) q).toInt ≤ q) → (F366125 q344910 = F344909 q344910) → rFs γ (γ 1 q344911) F344909 F366125 → mKp (F344909 q344910) (F366125 q344910) → (∀ (k : Nat) (e1 : Nat → va_E), tl_RModel_share_24 D I γ el P344908 F344909 g364974 q344910 q344911 F366125 g366124 k e1 → tl_RModel_share_24 D I γ el P344908 F344909 g364974 q344910 q344911 F364976 (0 : Int32) k e1) → ((2000 : Int) - g366124.toInt).toNat < n24_366131 → G (gV D I) l (gRm 6 141 0 0) (gMA (gV D I) (pt_344914_SpillForgeModel_share D I γ el P344908 F344909 q344910 q344911) gNA 0 0) ky_344914_SpillForgeModel_share 24 [(5, .int g366124), (4, .int 0), (3, .int g364974), (2, .int g364975), (0, .ref q344910), (1, .ref q344911)] [] (va_pl P344908 F366125) 0 0 := by
          intro n24_366131
          induction n24_366131 with
          | zero => intro F366125 g366124 bg366124 hT366126 hs366127 x366128 x366129 x366130 x366131 kt24_366132 hm24_366131; exact absurd hm24_366131 (Nat.not_lt_zero _)
          | succ n24_366131 ih24_366131 =>
            intro F366125 g366124 bg366124 hT366126 hs366127 x366128 x366129 x366130 x366131 kt24_366132 hm24_366131
            have hs366133 : rStr γ [1] F364976 F366125 := fun b h0 hb hw => (hs366127 b h0 hb hw).trans (hs364978 b h0 hb hw).symm
            have hs366134 : rStr γ [1] F344909 F366125 := rStr_tr hs364978 hs366133
            have he366135 : F366125 q344910 = .inr (22, [.ref (γ 9 0), .ref (γ 9 1), .ref (γ 9 2), .ref (γ 9 3), .ref (γ 9 4), .ref (γ 9 5), .ref (γ 9 6), .ref (γ 9 7), .ref (γ 9 8), .int p344919, .int p344920, .int p344921, .int p344922, .int p344923, .int p344924, .ref (γ 9 15), .ref (γ 9 16), .ref (γ 9 17), .ref (γ 9 18), .ref (γ 9 19), .ref (γ 9 20), .ref (γ 9 21), .ref (γ 9 22), .int p344925, .int p344926, .int p344927, .int p344928, .int p344929, .ref q344917, .ref (γ 9 29), .int p344930, .ref (γ 9 31), .int p344931, .int p344932, .int p344933, .ref q344918]) := x366129.trans he344916
            have hm366136 : q344910 ∈ P344908 := RS_m hT366126 htq344910 (by decide)
            have hm366137 : (γ 9 19) ∈ P344908 := RS_m hT366126 ht344949 (by decide)
            obtain ⟨f366139, he366138, bf366139⟩ := show rk_21 I (F366125 (γ 9 19)) from RS_o hT366126 ht344949
            have cq366140 := x366128
            rw [cB_of he366138] at cq366140
            refine G_iload 0 dr_cX17_share_24 rfl ?_
            refine G_iload_n 2 dr_cX17_share_26 rfl ?_
            refine G_icmp_ge 44 dr_cX17_share_27 (by decide +kernel) (fun hc366141 => ?_) (fun hc366141 => ?_)
            · have r366142 : g364974.toInt ≤ g366124.toInt := gC_le hc366141
              have hx366143 : tl_RModel_share_24 D I γ el P344908 F344909 g364974 q344910 q344911 F364976 (0 : Int32) 44 F366125 := kt24_366132 44 F366125 (fun R c1 c2 => c1 F366125 g366124 bg366124 hT366126 hs366127 x366128 x366129 x366130 x366131 r366142)
              refine G_iconst 0 dr_cX17_share_44 (by decide +kernel) ?_
              refine G_istore (L' := [(5, .int 0), (4, .int 0), (3, .int g364974), (2, .int g364975), (0, .ref q344910), (1, .ref q344911)]) dr_cX17_share_45 (Nat.le_of_ble_eq_true rfl) rfl ?_
              have hlp47_366342 : ∀ (n47_366342 : Nat) (F366336 : Nat → va_E) (g366335 : Int32), gB g366335 0 99 → RS D I P344908 F366336 γ el → rStr γ [1] F344909 F366336 → (∀ q : Nat, (q : Int) < g364974.toInt → 0 ≤ (cB (F366336 (γ 9 19)) q).toInt ∧ (cB (F366336 (γ 9 19)) q).toInt ≤ q) → (F366336 q344910 = F344909 q344910) → rFs γ (γ 1 q344911) F344909 F366336 → mKp (F344909 q344910) (F366336 q344910) → (∀ (k : Nat) (e1 : Nat → va_E), tl_RModel_share_47 D I γ el P344908 F344909 g364974 q344910 q344911 F366336 g366335 k e1 → tl_RModel_share_47 D I γ el P344908 F344909 g364974 q344910 q344911 F366125 (0 : Int32) k e1) → ((100 : Int) - g366335.toInt).toNat < n47_366342 → G (gV D I) l (gRm 6 141 0 0) (gMA (gV D I) (pt_344914_SpillForgeModel_share D I γ el P344908 F344909 q344910 q344911) gNA 0 0) ky_344914_SpillForgeModel_share 47 [(5, .int g366335), (4, .int 0), (3, .int g364974), (2, .int g364975), (0, .ref q344910), (1, .ref q344911)] [] (va_pl P344908 F366336) 0 0 := by
                intro n47_366342
                induction n47_366342 with
                | zero => intro F366336 g366335 bg366335 hT366337 hs366338 x366339 x366340 x366341 x366342 kt47_366343 hm47_366342; exact absurd hm47_366342 (Nat.not_lt_zero _)
                | succ n47_366342 ih47_366342 =>
                  intro F366336 g366335 bg366335 hT366337 hs366338 x366339 x366340 x366341 x366342 kt47_366343 hm47_366342
                  have hs366344 : rStr γ [1] F366125 F366336 := fun b h0 hb hw => (hs366338 b h0 hb hw).trans (hs366127 b h0 hb hw).symm
                  have hs366345 : rStr γ [1] F344909 F366336 := rStr_tr hs366127 hs366344
                  have he366346 : F366336 q344910 = .inr (22, [.ref (γ 9 0), .ref (γ 9 1), .ref (γ 9 2), .ref (γ 9 3), .ref (γ 9 4), .ref (γ 9 5), .ref (γ 9 6), .ref (γ 9 7), .ref (γ 9 8), .int p344919, .int p344920, .int p344921, .int p344922, .int p344923, .int p344924, .ref (γ 9 15), .ref (γ 9 16), .ref (γ 9 17), .ref (γ 9 18), .ref (γ 9 19), .ref (γ 9 20), .ref (γ 9 21), .ref (γ 9 22), .int p344925, .int p344926, .int p344927, .int p344928, .int p344929, .ref q344917, .ref (γ 9 29), .int p344930, .ref (γ 9 31), .int p344931, .int p344932, .int p344933, .ref q344918]) := x366340.trans he344916
                  have hm366347 : q344910 ∈ P344908 := RS_m hT366337 htq344910 (by decide)
                  have hm366348 : (γ 9 19) ∈ P344908 := RS_m hT366337 ht344949 (by decide)
                  obtain ⟨f366350, he366349, bf366350⟩ := show rk_21 I (F366336 (γ 9 19)) from RS_o hT366337 ht344949
                  have cq366351 := x366339
                  rw [cB_of he366349] at cq366351
                  refine G_iload 0 dr_cX17_share_47 rfl ?_
                  refine G_iload_n 2 dr_cX17_share_49 rfl ?_
                  refine G_icmp_ge 96 dr_cX17_share_50 (by decide +kernel) (fun hc366352 => ?_) (fun hc366352 => ?_)
                  · have r366353 : g364974.toInt ≤ g366335.toInt := gC_le hc366352
                    have hx366354 : tl_RModel_share_47 D I γ el P344908 F344909 g364974 q344910 q344911 F366125 (0 : Int32) 96 F366336 := kt47_366343 96 F366336 (fun R c1 c2 c3 c4 => c1 F366336 g366335 bg366335 hT366337 hs366338 x366339 x366340 x366341 x366342 r366353)
                    have hlp96_366414 : ∀ (n96_366414 : Nat) (g366412 : Int32), gB g366412 0 99 → (∀ q : Nat, (q : Int) < g364974.toInt → 0 ≤ (cB (F366336 (γ 9 19)) q).toInt ∧ (cB (F366336 (γ 9 19)) q).toInt ≤ q) → (g366412.toInt ≤ g364974.toInt) → (∀ (k : Nat) (e1 : Int32), tl_RModel_share_96 D I γ el g364974 F366336 q344910 g366412 k e1 → tl_RModel_share_96 D I γ el g364974 F366336 q344910 (0 : Int32) k e1) → ((100 : Int) - g366412.toInt).toNat < n96_366414 → G (gV D I) l (gRm 6 141 0 0) (gMA (gV D I) (pt_344914_SpillForgeModel_share D I γ el P344908 F344909 q344910 q344911) gNA 0 0) ky_344914_SpillForgeModel_share 96 [(5, .int g366335), (4, .int g366412), (3, .int g364974), (2, .int g364975), (0, .ref q344910), (1, .ref q344911)] [] (va_pl P344908 F366336) 0 0 := by
                      intro n96_366414
                      induction n96_366414 with
                      | zero => intro g366412 bg366412 x366413 x366414 kt96_366415 hm96_366414; exact absurd hm96_366414 (Nat.not_lt_zero _)
                      | succ n96_366414 ih96_366414 =>
                        intro g366412 bg366412 x366413 x366414 kt96_366415 hm96_366414
                        have cq366416 := x366413
                        rw [cB_of he366349] at cq366416
                        refine G_iload 1 dr_cX17_share_96 rfl ?_
                        refine G_iload_n 2 dr_cX17_share_98 rfl ?_
                        refine G_icmp_ge 119 dr_cX17_share_99 (by decide +kernel) (fun hc366417 => ?_) (fun hc366417 => ?_)
                        · have r366418 : g364974.toInt ≤ g366412.toInt := gC_le hc366417
                          have hx366419 : tl_RModel_share_96 D I γ el g364974 F366336 q344910 (0 : Int32) 119 g366412 := kt96_366415 119 g366412 (fun R c1 c2 c3 => c1 g366412 bg366412 x366413 x366414 r366418)
                          refine G_aload_n 4 dr_cX17_share_119 rfl ?_
                          have fq366420 : fR (F366336 q344910) 19 = (γ 9 19) := by rw [he366346]; rfl
                          refine Gp_get 19 hm366347 he366346 dr_cX17_share_120 (gk_X17 D I) (Nat.le_of_ble_eq_true rfl) wr_7_93 rfl ?_
                          refine G_iload_n 2 dr_cX17_share_123 rfl ?_
                          refine G_iload 1 dr_cX17_share_124 rfl ?_
                          refine Gp_iast 0 hm366348 he366349 dr_cX17_share_126 rfl (gB_in bg364974' (by decide) (by decide)) (fun F366421 e366422 n366423 => ?_)
                          obtain ⟨f366424, hf366424⟩ : ∃ z, z = upd f366350 g364974.toNatClampNeg g366412 := ⟨_, rfl⟩
                          rw [← hf366424] at e366422
                          have he366425 : F366421 q344910 = .inr (22, [.ref (γ 9 0), .ref (γ 9 1), .ref (γ 9 2), .ref (γ 9 3), .ref (γ 9 4), .ref (γ 9 5), .ref (γ 9 6), .ref (γ 9 7), .ref (γ 9 8), .int p344919, .int p344920, .int p344921, .int p344922, .int p344923, .int p344924, .ref (γ 9 15), .ref (γ 9 16), .ref (γ 9 17), .ref (γ 9 18), .ref (γ 9 19), .ref (γ 9 20), .ref (γ 9 21), .ref (γ 9 22), .int p344925, .int p344926, .int p344927, .int p344928, .int p344929, .ref q344917, .ref (γ 9 29), .int p344930, .ref (γ 9 31), .int p344931, .int p344932, .int p344933, .ref q344918]) := (n366423 q344910 (rn_oa he366346 he366349)).trans he366346
                          have he366426 : F366421 (γ 9 19) = .inl (I .int, 2000, .inl f366424) := e366422
                          have mk366427 : mKp (F344909 q344910) (F366421 q344910) := mKp_tr x366342 (mKp_eq (n366423 q344910 (rn_ty htq344910 ht344949 (by decide))))
                          have hs366428 : rStr γ [1] F344909 F366421 := rStr_put hs366338 n366423 ht344949 (by decide)
                          have kp366429 : F366421 q344910 = F344909 q344910 := (n366423 q344910 (rn_ty htq344910 ht344949 (by decide))).trans x366340
                          have fs366430 : rFs γ (γ 1 q344911) F344909 F366421 := rFs_pn x366341 n366423 ht344949 (by decide)
                          have bf366424 : gF f366424 (-1) 1999 := gF_upd hf366424 bf366350 (gB_w bg366412 (by decide) (by decide))
                          refine G_aload_n 4 dr_cX17_share_127 rfl ?_
                          have fq366431 : fR (F366421 q344910) 3 = (γ 9 3) := by rw [he366425]; rfl
                          refine Gp_get 3 hm366347 he366425 dr_cX17_share_128 (gk_X17 D I) (Nat.le_of_ble_eq_true rfl) wr_7_77 rfl ?_
                          refine G_iload_n 2 dr_cX17_share_131 rfl ?_
                          have hT366432 : RS D I P344908 F366421 γ el := RS_set hT366337 n366423 ht344949 (by decide) ⟨f366424, he366426, bf366424⟩
                          have hm366433 : (γ 9 3) ∈ P344908 := RS_m hT366432 ht344939 (by decide)
                          obtain ⟨f366435, he366434, bf366435⟩ := show rk_14 I (F366421 (γ 9 3)) from RS_o hT366432 ht344939
                          refine Gp_zald 3 hm366433 he366434 dr_cX17_share_132 rfl (gB_in bg364974' (by decide) (by decide)) (G_nam fun z366436 hz366436 => ?_)
                          have bz366436 : gB z366436 0 1 := by rw [hz366436]; exact bf366435 _
                          refine G_if_eq 145 dr_cX17_share_133 (by decide +kernel) (fun hc366437 => ?_) (fun hc366437 => ?_)
                          · have r366438 : z366436.toInt = 0 := gj_eq hc366437 (show Int32.toInt 0 = 0 by decide)
                            have bz366436' : gB z366436 0 0 := gB_t0 r366438
                            obtain ⟨z366439, hz366439⟩ : ∃ z : Int32, z = g364974 + Int32.ofInt 1 := ⟨_, rfl⟩
                            have ez366439 : z366439.toInt = g364974.toInt + 1 := gI_inc hz366439 (by decide) bg364974' (by decide) (by decide)
                            have bz366439 : gB z366439 1 100 := ⟨by omega, by omega⟩
                            refine G_iinc (L' := [(3, .int z366439), (5, .int g366335), (4, .int g366412), (2, .int g364975), (0, .ref q344910), (1, .ref q344911)]) z366439 2 dr_cX17_share_145 rfl hz366439.symm (Nat.le_of_ble_eq_true rfl) rfl ?_
                            refine G_goto 10 dr_cX17_share_148 (by decide +kernel) ?_
                            refine G_lv (L' := [(3, .int z366439), (2, .int g364975), (0, .ref q344910), (1, .ref q344911)]) [0, 3, 4, 5] rfl ?_
                            exact ih10_364983 F366421 z366439 g364975 (gB_w bz366439 (by decide) (by decide)) bg364975 hT366432 hs366428 (by rw [ez366439]; rw [cB_of he366426]; exact sl_u hf366424 (by omega) (by omega) (by omega) cq366416) (by omega) kp366429 fs366430 mk366427 (fun k e1 e2 ht => kt10_364984 k e1 e2 (fun R c1 c2 c3 => c2 F364976 g364974 g364975 p344921 F366125 F366336 g366412 f366350 f366424 F366421 f366435 z366436 z366439 k e1 e2 bg364974 bg364975 hT364977 hs364978 x364979 x364980 x364981 x364982 x364983 fq364993 r365706 hx366143 hx366354 hx366419 fq366420 he366349 hf366424 n366423 he366426 fq366431 he366434 hz366436 bz366436 r366438 ez366439 (ht R c1 c2 c3))) (mz_up ez366439 (Int.le_trans bg364974'.2 (by decide)) hm10_364983)
                          · have r366440 : z366436.toInt ≠ 0 := gj_neq hc366437 (show Int32.toInt 0 = 0 by decide)
                            have bz366436' : gB z366436 1 1 := gB_t1 bz366436 r366440
                            refine G_iload_n 3 dr_cX17_share_136 rfl ?_
                            refine G_iload 1 dr_cX17_share_137 rfl ?_
                            refine G_iconst 1 dr_cX17_share_139 (by decide +kernel) ?_
                            refine G_iadd dr_cX17_share_140 (G_nam fun z366441 hz366441 => ?_)
                            have ez366441 : z366441.toInt = g366412.toInt + 1 := by rw [gI_add hz366441 bg366412 (gBl (show Int32.toInt 1 = 1 by decide)) (by decide) (by decide), show Int32.toInt 1 = 1 from by decide]
                            have bz366441 : gB z366441 1 100 := gB_add (gI_add hz366441 bg366412 (gBl (show Int32.toInt 1 = 1 by decide)) (by decide) (by decide)) bg366412 (gBl (show Int32.toInt 1 = 1 by decide)) (by decide) (by decide)
                            refine G_mmax dr_cX17_share_141 wr_11_21 wr_1_140 wr_1_6 wr_1_141 (Nat.le_of_ble_eq_true rfl) (Nat.le_of_ble_eq_true rfl) (show 0 ≤ 0 by first | omega | decide) (show 0 ≤ 0 by first | omega | decide) (G_nam fun z366442 hz366442 => ?_)
                            have ez366442 : g364975.toInt ≤ z366442.toInt ∧ z366441.toInt ≤ z366442.toInt ∧ (z366442.toInt = g364975.toInt ∨ z366442.toInt = z366441.toInt) := by have := gI_max hz366442; omega
                            have bz366442 : gB z366442 1 1999 := ⟨by omega, by omega⟩
                            have bz366442' : gB z366442 1 100 := ⟨by omega, by omega⟩
                            refine G_istore_n (L' := [(2, .int z366442), (5, .int g366335), (4, .int g366412), (3, .int g364974), (0, .ref q344910), (1, .ref q344911)]) dr_cX17_share_144 (Nat.le_of_ble_eq_true rfl) rfl ?_
                            obtain ⟨z366443, hz366443⟩ : ∃ z : Int32, z = g364974 + Int32.ofInt 1 := ⟨_, rfl⟩
                            have ez366443 : z366443.toInt = g364974.toInt + 1 := gI_inc hz366443 (by decide) bg364974' (by decide) (by decide)
                            have bz366443 : gB z366443 1 100 := ⟨by omega, by omega⟩
                            refine G_iinc (L' := [(3, .int z366443), (2, .int z366442), (5, .int g366335), (4, .int g366412), (0, .ref q344910), (1, .ref q344911)]) z366443 3 dr_cX17_share_145 rfl hz366443.symm (Nat.le_of_ble_eq_true rfl) rfl ?_
                            refine G_goto 10 dr_cX17_share_148 (by decide +kernel) ?_
                            refine G_lv (L' := [(3, .int z366443), (2, .int z366442), (0, .ref q344910), (1, .ref q344911)]) [0, 1, 4, 5] rfl ?_
                            exact ih10_364983 F366421 z366443 z366442 (gB_w bz366443 (by decide) (by decide)) (gB_w bz366442' (by decide) (by decide)) hT366432 hs366428 (by rw [ez366443]; rw [cB_of he366426]; exact sl_u hf366424 (by omega) (by omega) (by omega) cq366416) (by omega) kp366429 fs366430 mk366427 (fun k e1 e2 ht => kt10_364984 k e1 e2 (fun R c1 c2 c3 => c3 F364976 g364974 g364975 p344921 F366125 F366336 g366412 f366350 f366424 F366421 f366435 z366436 z366441 z366442 z366443 k e1 e2 bg364974 bg364975 hT364977 hs364978 x364979 x364980 x364981 x364982 x364983 fq364993 r365706 hx366143 hx366354 hx366419 fq366420 he366349 hf366424 n366423 he366426 fq366431 he366434 hz366436 bz366436 r366440 ez366441 ez366442 ez366443 (ht R c1 c2 c3))) (mz_up ez366443 (Int.le_trans bg364974'.2 (by decide)) hm10_364983)
                        · have r366444 : g366412.toInt < g364974.toInt := gC_nle hc366417
                          have bg366412' : gB g366412 0 98 := ⟨by omega, by omega⟩
                          have bg364974'' : gB g364974 1 99 := ⟨by omega, by omega⟩
                          refine G_aload_n 4 dr_cX17_share_102 rfl ?_
                          have fq366445 : fR (F366336 q344910) 16 = (γ 9 16) := by rw [he366346]; rfl
                          refine Gp_get 16 hm366347 he366346 dr_cX17_share_103 (gk_X17 D I) (Nat.le_of_ble_eq_true rfl) wr_7_90 rfl ?_
                          refine G_iload 1 dr_cX17_share_106 rfl ?_
                          have hm366446 : (γ 9 16) ∈ P344908 := RS_m hT366337 ht344946 (by decide)
                          obtain ⟨f366448, he366447⟩ := show rk_19 I (F366336 (γ 9 16)) from RS_o hT366337 ht344946
                          refine Gp_iald 0 hm366446 he366447 dr_cX17_share_108 rfl (gB_in bg366412' (by decide) (by decide)) (G_nam fun z366449 hz366449 => ?_)
                          have bz366449 : gB z366449 (-2147483648) 2147483647 := gB_any z366449
                          refine G_iconst 1 dr_cX17_share_109 (by decide +kernel) ?_
                          refine G_icmp_ne 119 dr_cX17_share_110 (by decide +kernel) (fun hc366450 => ?_) (fun hc366450 => ?_)
                          · have r366451 : z366449.toInt ≠ 1 := gj_neq hc366450 (show Int32.toInt 1 = 1 by decide)
                            have hx366452 : tl_RModel_share_96 D I γ el g364974 F366336 q344910 (0 : Int32) 119 g366412 := kt96_366415 119 g366412 (fun R c1 c2 c3 => c2 g366412 f366448 z366449 bg366412 x366413 x366414 r366444 fq366445 he366447 hz366449 r366451)
                            refine G_aload_n 4 dr_cX17_share_119 rfl ?_
                            have fq366453 : fR (F366336 q344910) 19 = (γ 9 19) := by rw [he366346]; rfl
                            refine Gp_get 19 hm366347 he366346 dr_cX17_share_120 (gk_X17 D I) (Nat.le_of_ble_eq_true rfl) wr_7_93 rfl ?_
                            refine G_iload_n 2 dr_cX17_share_123 rfl ?_
                            refine G_iload 1 dr_cX17_share_124 rfl ?_
                            refine Gp_iast 0 hm366348 he366349 dr_cX17_share_126 rfl (gB_in bg364974'' (by decide) (by decide)) (fun F366454 e366455 n366456 => ?_)
                            obtain ⟨f366457, hf366457⟩ : ∃ z, z = upd f366350 g364974.toNatClampNeg g366412 := ⟨_, rfl⟩
                            rw [← hf366457] at e366455
                            have he366458 : F366454 q344910 = .inr (22, [.ref (γ 9 0), .ref (γ 9 1), .ref (γ 9 2), .ref (γ 9 3), .ref (γ 9 4), .ref (γ 9 5), .ref (γ 9 6), .ref (γ 9 7), .ref (γ 9 8), .int p344919, .int p344920, .int p344921, .int p344922, .int p344923, .int p344924, .ref (γ 9 15), .ref (γ 9 16), .ref (γ 9 17), .ref (γ 9 18), .ref (γ 9 19), .ref (γ 9 20), .ref (γ 9 21), .ref (γ 9 22), .int p344925, .int p344926, .int p344927, .int p344928, .int p344929, .ref q344917, .ref (γ 9 29), .int p344930, .ref (γ 9 31), .int p344931, .int p344932, .int p344933, .ref q344918]) := (n366456 q344910 (rn_oa he366346 he366349)).trans he366346
                            have he366459 : F366454 (γ 9 16) = .inl (I .int, 2000, .inl f366448) := (n366456 (γ 9 16) (rn_ty ht344946 ht344949 (by decide))).trans he366447
                            have he366460 : F366454 (γ 9 19) = .inl (I .int, 2000, .inl f366457) := e366455
                            have mk366461 : mKp (F344909 q344910) (F366454 q344910) := mKp_tr x366342 (mKp_eq (n366456 q344910 (rn_ty htq344910 ht344949 (by decide))))
                            have hs366462 : rStr γ [1] F344909 F366454 := rStr_put hs366338 n366456 ht344949 (by decide)
                            have kp366463 : F366454 q344910 = F344909 q344910 := (n366456 q344910 (rn_ty htq344910 ht344949 (by decide))).trans x366340
                            have fs366464 : rFs γ (γ 1 q344911) F344909 F366454 := rFs_pn x366341 n366456 ht344949 (by decide)
                            have bf366457 : gF f366457 (-1) 1999 := gF_upd hf366457 bf366350 (gB_w bg366412' (by decide) (by decide))
                            refine G_aload_n 4 dr_cX17_share_127 rfl ?_
                            have fq366465 : fR (F366454 q344910) 3 = (γ 9 3) := by rw [he366458]; rfl
                            refine Gp_get 3 hm366347 he366458 dr_cX17_share_128 (gk_X17 D I) (Nat.le_of_ble_eq_true rfl) wr_7_77 rfl ?_
                            refine G_iload_n 2 dr_cX17_share_131 rfl ?_
                            have hT366466 : RS D I P344908 F366454 γ el := RS_set hT366337 n366456 ht344949 (by decide) ⟨f366457, he366460, bf366457⟩
                            have hm366467 : (γ 9 3) ∈ P344908 := RS_m hT366466 ht344939 (by decide)
                            obtain ⟨f366469, he366468, bf366469⟩ := show rk_14 I (F366454 (γ 9 3)) from RS_o hT366466 ht344939
                            refine Gp_zald 3 hm366467 he366468 dr_cX17_share_132 rfl (gB_in bg364974'' (by decide) (by decide)) (G_nam fun z366470 hz366470 => ?_)
                            have bz366470 : gB z366470 0 1 := by rw [hz366470]; exact bf366469 _
                            refine G_if_eq 145 dr_cX17_share_133 (by decide +kernel) (fun hc366471 => ?_) (fun hc366471 => ?_)
                            · have r366472 : z366470.toInt = 0 := gj_eq hc366471 (show Int32.toInt 0 = 0 by decide)
                              have bz366470' : gB z366470 0 0 := gB_t0 r366472
                              obtain ⟨z366473, hz366473⟩ : ∃ z : Int32, z = g364974 + Int32.ofInt 1 := ⟨_, rfl⟩
                              have ez366473 : z366473.toInt = g364974.toInt + 1 := gI_inc hz366473 (by decide) bg364974'' (by decide) (by decide)
                              have bz366473 : gB z366473 2 100 := ⟨by omega, by omega⟩
                              refine G_iinc (L' := [(3, .int z366473), (5, .int g366335), (4, .int g366412), (2, .int g364975), (0, .ref q344910), (1, .ref q344911)]) z366473 2 dr_cX17_share_145 rfl hz366473.symm (Nat.le_of_ble_eq_true rfl) rfl ?_
                              refine G_goto 10 dr_cX17_share_148 (by decide +kernel) ?_
                              refine G_lv (L' := [(3, .int z366473), (2, .int g364975), (0, .ref q344910), (1, .ref q344911)]) [0, 3, 4, 5] rfl ?_
                              exact ih10_364983 F366454 z366473 g364975 (gB_w bz366473 (by decide) (by decide)) bg364975 hT366466 hs366462 (by rw [ez366473]; rw [cB_of he366460]; exact sl_u hf366457 (by omega) (by omega) (by omega) cq366416) (by omega) kp366463 fs366464 mk366461 (fun k e1 e2 ht => kt10_364984 k e1 e2 (fun R c1 c2 c3 => c2 F364976 g364974 g364975 p344921 F366125 F366336 g366412 f366350 f366457 F366454 f366469 z366470 z366473 k e1 e2 bg364974 bg364975 hT364977 hs364978 x364979 x364980 x364981 x364982 x364983 fq364993 r365706 hx366143 hx366354 hx366452 fq366453 he366349 hf366457 n366456 he366460 fq366465 he366468 hz366470 bz366470 r366472 ez366473 (ht R c1 c2 c3))) (mz_up ez366473 (Int.le_trans bg364974''.2 (by decide)) hm10_364983)
                            · have r366474 : z366470.toInt ≠ 0 := gj_neq hc366471 (show Int32.toInt 0 = 0 by decide)
                              have bz366470' : gB z366470 1 1 := gB_t1 bz366470 r366474
                              refine G_iload_n 3 dr_cX17_share_136 rfl ?_
                              refine G_iload 1 dr_cX17_share_137 rfl ?_
                              refine G_iconst 1 dr_cX17_share_139 (by decide +kernel) ?_
                              refine G_iadd dr_cX17_share_140 (G_nam fun z366475 hz366475 => ?_)
                              have ez366475 : z366475.toInt = g366412.toInt + 1 := by rw [gI_add hz366475 bg366412' (gBl (show Int32.toInt 1 = 1 by decide)) (by decide) (by decide), show Int32.toInt 1 = 1 from by decide]
                              have bz366475 : gB z366475 1 99 := gB_add (gI_add hz366475 bg366412' (gBl (show Int32.toInt 1 = 1 by decide)) (by decide) (by decide)) bg366412' (gBl (show Int32.toInt 1 = 1 by decide)) (by decide) (by decide)
                              refine G_mmax dr_cX17_share_141 wr_11_21 wr_1_140 wr_1_6 wr_1_141 (Nat.le_of_ble_eq_true rfl) (Nat.le_of_ble_eq_true rfl) (show 0 ≤ 0 by first | omega | decide) (show 0 ≤ 0 by first | omega | decide) (G_nam fun z366476 hz366476 => ?_)
                              have ez366476 : g364975.toInt ≤ z366476.toInt ∧ z366475.toInt ≤ z366476.toInt ∧ (z366476.toInt = g364975.toInt ∨ z366476.toInt = z366475.toInt) := by have := gI_max hz366476; omega
                              have bz366476 : gB z366476 1 1999 := ⟨by omega, by omega⟩
                              have bz366476' : gB z366476 1 100 := ⟨by omega, by omega⟩
                              refine G_istore_n (L' := [(2, .int z366476), (5, .int g366335), (4, .int g366412), (3, .int g364974), (0, .ref q344910), (1, .ref q344911)]) dr_cX17_share_144 (Nat.le_of_ble_eq_true rfl) rfl ?_
                              obtain ⟨z366477, hz366477⟩ : ∃ z : Int32, z = g364974 + Int32.ofInt 1 := ⟨_, rfl⟩
                              have ez366477 : z366477.toInt = g364974.toInt + 1 := gI_inc hz366477 (by decide) bg364974'' (by decide) (by decide)
                              have bz366477 : gB z366477 2 100 := ⟨by omega, by omega⟩
                              refine G_iinc (L' := [(3, .int z366477), (2, .int z366476), (5, .int g366335), (4, .int g366412), (0, .ref q344910), (1, .ref q344911)]) z366477 3 dr_cX17_share_145 rfl hz366477.symm (Nat.le_of_ble_eq_true rfl) rfl ?_
                              refine G_goto 10 dr_cX17_share_148 (by decide +kernel) ?_
                              refine G_lv (L' := [(3, .int z366477), (2, .int z366476), (0, .ref q344910), (1, .ref q344911)]) [0, 1, 4, 5] rfl ?_
                              exact ih10_364983 F366454 z366477 z366476 (gB_w bz366477 (by decide) (by decide)) (gB_w bz366476' (by decide) (by decide)) hT366466 hs366462 (by rw [ez366477]; rw [cB_of he366460]; exact sl_u hf366457 (by omega) (by omega) (by omega) cq366416) (by omega) kp366463 fs366464 mk366461 (fun k e1 e2 ht => kt10_364984 k e1 e2 (fun R c1 c2 c3 => c3 F364976 g364974 g364975 p344921 F366125 F366336 g366412 f366350 f366457 F366454 f366469 z366470 z366475 z366476 z366477 k e1 e2 bg364974 bg364975 hT364977 hs364978 x364979 x364980 x364981 x364982 x364983 fq364993 r365706 hx366143 hx366354 hx366452 fq366453 he366349 hf366457 n366456 he366460 fq366465 he366468 hz366470 bz366470 r366474 ez366475 ez366476 ez366477 (ht R c1 c2 c3))) (mz_up ez366477 (Int.le_trans bg364974''.2 (by decide)) hm10_364983)
                          · have r366478 : z366449.toInt = 1 := gj_eq hc366450 (show Int32.toInt 1 = 1 by decide)
                            have bz366449' : gB z366449 1 1 := ⟨by omega, by omega⟩
                            obtain ⟨z366479, hz366479⟩ : ∃ z : Int32, z = g366412 + Int32.ofInt 1 := ⟨_, rfl⟩
                            have ez366479 : z366479.toInt = g366412.toInt + 1 := gI_inc hz366479 (by decide) bg366412' (by decide) (by decide)
                            have bz366479 : gB z366479 1 99 := ⟨by omega, by omega⟩
                            refine G_iinc (L' := [(4, .int z366479), (5, .int g366335), (3, .int g364974), (2, .int g364975), (0, .ref q344910), (1, .ref q344911)]) z366479 1 dr_cX17_share_113 rfl hz366479.symm (Nat.le_of_ble_eq_true rfl) rfl ?_
                            refine G_goto 96 dr_cX17_share_116 (by decide +kernel) ?_
                            refine G_lv (L' := [(5, .int g366335), (4, .int z366479), (3, .int g364974), (2, .int g364975), (0, .ref q344910), (1, .ref q344911)]) [1, 0, 2, 3, 4, 5] rfl ?_
                            exact ih96_366414 z366479 (gB_w bz366479 (by decide) (by decide)) (by rw [cB_of he366349]; exact cq366416) (by omega) (fun k e1 ht => kt96_366415 k e1 (fun R c1 c2 c3 => c3 g366412 f366448 z366449 z366479 k e1 bg366412 x366413 x366414 r366444 fq366445 he366447 hz366449 r366478 ez366479 (ht R c1 c2 c3))) (mz_up ez366479 (Int.le_trans bg366412'.2 (by decide)) hm96_366414)
                    exact hlp96_366414 (((100 : Int) - 0).toNat + 1) 0 (gB_w (gBl (show Int32.toInt 0 = 0 by decide)) (by decide) (by decide)) (by rw [cB_of he366349]; exact cq366351) (by have qa0 : Int32.toInt 0 = 0 := (by decide); omega) (fun k e1 ht => ht) (Nat.lt_succ_self _)
                  · have r366480 : g366335.toInt < g364974.toInt := gC_nle hc366352
                    have bg366335' : gB g366335 0 98 := ⟨by omega, by omega⟩
                    have bg364974'' : gB g364974 1 99 := ⟨by omega, by omega⟩
                    refine G_aload_n 4 dr_cX17_share_53 rfl ?_
                    have fq366481 : fR (F366336 q344910) 3 = (γ 9 3) := by rw [he366346]; rfl
                    refine Gp_get 3 hm366347 he366346 dr_cX17_share_54 (gk_X17 D I) (Nat.le_of_ble_eq_true rfl) wr_7_77 rfl ?_
                    refine G_iload 0 dr_cX17_share_57 rfl ?_
                    have hm366482 : (γ 9 3) ∈ P344908 := RS_m hT366337 ht344939 (by decide)
                    obtain ⟨f366484, he366483, bf366484⟩ := show rk_14 I (F366336 (γ 9 3)) from RS_o hT366337 ht344939
                    refine Gp_zald 3 hm366482 he366483 dr_cX17_share_59 rfl (gB_in bg366335' (by decide) (by decide)) (G_nam fun z366485 hz366485 => ?_)
                    have bz366485 : gB z366485 0 1 := by rw [hz366485]; exact bf366484 _
                    refine G_if_eq 90 dr_cX17_share_60 (by decide +kernel) (fun hc366486 => ?_) (fun hc366486 => ?_)
                    · have r366487 : z366485.toInt = 0 := gj_eq hc366486 (show Int32.toInt 0 = 0 by decide)
                      have bz366485' : gB z366485 0 0 := gB_t0 r366487
                      obtain ⟨z366488, hz366488⟩ : ∃ z : Int32, z = g366335 + Int32.ofInt 1 := ⟨_, rfl⟩
                      have ez366488 : z366488.toInt = g366335.toInt + 1 := gI_inc hz366488 (by decide) bg366335' (by decide) (by decide)
                      have bz366488 : gB z366488 1 99 := ⟨by omega, by omega⟩
                      refine G_iinc (L' := [(5, .int z366488), (4, .int 0), (3, .int g364974), (2, .int g364975), (0, .ref q344910), (1, .ref q344911)]) z366488 0 dr_cX17_share_90 rfl hz366488.symm (Nat.le_of_ble_eq_true rfl) rfl ?_
                      refine G_goto 47 dr_cX17_share_93 (by decide +kernel) ?_
                      exact ih47_366342 F366336 z366488 (gB_w bz366488 (by decide) (by decide)) hT366337 hs366338 (by rw [cB_of he366349]; exact cq366351) x366340 x366341 x366342 (fun k e1 ht => kt47_366343 k e1 (fun R c1 c2 c3 c4 => c2 F366336 g366335 f366484 z366485 z366488 k e1 bg366335 hT366337 hs366338 x366339 x366340 x366341 x366342 r366480 fq366481 he366483 hz366485 bz366485 r366487 ez366488 (ht R c1 c2 c3 c4))) (mz_up ez366488 (Int.le_trans bg366335'.2 (by decide)) hm47_366342)
                    · have r366489 : z366485.toInt ≠ 0 := gj_neq hc366486 (show Int32.toInt 0 = 0 by decide)
                      have bz366485' : gB z366485 1 1 := gB_t1 bz366485 r366489
                      refine G_aload_n 4 dr_cX17_share_63 rfl ?_
                      have fq366490 : fR (F366336 q344910) 1 = (γ 9 1) := by rw [he366346]; rfl
                      refine Gp_get 1 hm366347 he366346 dr_cX17_share_64 (gk_X17 D I) (Nat.le_of_ble_eq_true rfl) wr_7_75 rfl ?_
                      refine G_iload_n 2 dr_cX17_share_67 rfl ?_
                      have hm366491 : (γ 9 1) ∈ P344908 := RS_m hT366337 ht344937 (by decide)
                      obtain ⟨f366493, he366492, hg366494⟩ := show rk_13 I γ (F366336 (γ 9 1)) from RS_o hT366337 ht344937
                      obtain ⟨q366495, hx366497⟩ : ∃ x, x = γ 11 g364974.toInt.toNat := ⟨_, rfl⟩
                      have ht366496 : rKd γ q366495 36 := by rw [hx366497]; exact (hg366494 _ (show g364974.toInt.toNat < 2000 by omega)).2.1
                      refine Gp_aald 5 hm366491 he366492 dr_cX17_share_68 rfl rfl (gB_in bg364974'' (by decide) (by decide)) ?_
                      rw [show f366493 g364974.toNatClampNeg = some q366495 from (hg366494 _ (show g364974.toInt.toNat < 2000 by omega)).1.trans (by rw [hx366497])]
                      change G _ _ _ _ _ _ _ (.ref q366495 :: _) _ _ _
                      refine G_iload 0 dr_cX17_share_69 rfl ?_
                      have hm366498 : q366495 ∈ P344908 := RS_m hT366337 ht366496 (by decide)
                      obtain ⟨f366500, he366499, wf366500⟩ := show rk_36 I (F366336 q366495) from RS_o hT366337 ht366496
                      refine Gw_callS (As := [.ref q366495, .int g366335]) (gV_ok D I) (cp_1845_SpillForgeModel_has l hl0 D I P344908 F366336 q366495 g366335 f366500 hm366498 he366499 (gB_w bg366335' (by decide) (by decide))) dr_cX17_share_71 ⟨wr_10_203, wr_1_14, wr_10_205, by decide, rfl, (Nat.le_of_ble_eq_true rfl), (Nat.le_of_ble_eq_true rfl)⟩ wr_10_204 (show 0 + 0 ≤ 0 by first | omega | decide) (show 0 + 0 ≤ 0 by first | omega | decide) (Nat.le_of_ble_eq_true rfl) (fun r366504 w366505 dc366501 ds366502 hp366503 => ?_) (fun _ _ _ _ _ z => z.elim)
                      rcases hp366503 with ⟨z366506, z366507, rfl, rfl, hdc, hds, r366508, r366509, r366510, r366511, r366512⟩ | ⟨z366513, z366514, rfl, rfl, hdc, hds, r366515, r366516, r366517, r366518, r366519⟩
                      · change G _ _ _ _ _ _ _ (.int 0 :: _) _ _ _
                        refine G_widen (cs' := 0) (sl' := 0) (by omega) (by omega) ?_
                        refine G_if_eq 90 dr_cX17_share_74 (by decide +kernel) (fun _ => ?_) (fun hc => absurd hc (by decide))
                        obtain ⟨z366521, hz366521⟩ : ∃ z : Int32, z = g366335 + Int32.ofInt 1 := ⟨_, rfl⟩
                        have ez366521 : z366521.toInt = g366335.toInt + 1 := gI_inc hz366521 (by decide) bg366335' (by decide) (by decide)
                        have bz366521 : gB z366521 1 99 := ⟨by omega, by omega⟩
                        refine G_iinc (L' := [(5, .int z366521), (4, .int 0), (3, .int g364974), (2, .int g364975), (0, .ref q344910), (1, .ref q344911)]) z366521 0 dr_cX17_share_90 rfl hz366521.symm (Nat.le_of_ble_eq_true rfl) rfl ?_
                        refine G_goto 47 dr_cX17_share_93 (by decide +kernel) ?_
                        exact ih47_366342 F366336 z366521 (gB_w bz366521 (by decide) (by decide)) hT366337 hs366338 (by rw [cB_of he366349]; exact cq366351) x366340 x366341 x366342 (fun k e1 ht => kt47_366343 k e1 (fun R c1 c2 c3 c4 => c3 F366336 g366335 f366484 z366485 q366495 f366500 z366521 k e1 bg366335 hT366337 hs366338 x366339 x366340 x366341 x366342 r366480 fq366481 he366483 hz366485 bz366485 r366489 fq366490 hx366497 he366499 r366512 ez366521 (ht R c1 c2 c3 c4))) (mz_up ez366521 (Int.le_trans bg366335'.2 (by decide)) hm47_366342)
                      · change G _ _ _ _ _ _ _ (.int 1 :: _) _ _ _
                        refine G_widen (cs' := 0) (sl' := 0) (by omega) (by omega) ?_
                        refine G_if_eq 90 dr_cX17_share_74 (by decide +kernel) (fun hc => absurd hc (by decide)) (fun _ => ?_)
                        refine G_aload_n 4 dr_cX17_share_77 rfl ?_
                        have fq366522 : fR (F366336 q344910) 16 = (γ 9 16) := by rw [he366346]; rfl
                        refine Gp_get 16 hm366347 he366346 dr_cX17_share_78 (gk_X17 D I) (Nat.le_of_ble_eq_true rfl) wr_7_90 rfl ?_
                        refine G_aload_n 4 dr_cX17_share_81 rfl ?_
                        have fq366523 : fR (F366336 q344910) 19 = (γ 9 19) := by rw [he366346]; rfl
                        refine Gp_get 19 hm366347 he366346 dr_cX17_share_82 (gk_X17 D I) (Nat.le_of_ble_eq_true rfl) wr_7_93 rfl ?_
                        refine G_iload 0 dr_cX17_share_85 rfl ?_
                        refine Gp_iald 0 hm366348 he366349 dr_cX17_share_87 rfl (gB_in bg366335' (by decide) (by decide)) (G_nam fun z366524 hz366524 => ?_)
                        have bz366524 : gB z366524 (-1) 1999 := by rw [hz366524]; exact bf366350 _
                        have r366525 : 0 ≤ z366524.toInt := by rw [hz366524]; exact (cq366351 g366335.toInt.toNat (by omega)).1
                        have bz366524' : gB z366524 0 1999 := ⟨by omega, by omega⟩
                        refine G_iconst 1 dr_cX17_share_88 (by decide +kernel) ?_
                        have hm366526 : (γ 9 16) ∈ P344908 := RS_m hT366337 ht344946 (by decide)
                        obtain ⟨f366528, he366527⟩ := show rk_19 I (F366336 (γ 9 16)) from RS_o hT366337 ht344946
                        refine Gp_iast 0 hm366526 he366527 dr_cX17_share_89 rfl (gB_in bz366524' (by decide) (by decide)) (fun F366529 e366530 n366531 => ?_)
                        obtain ⟨f366532, hf366532⟩ : ∃ z, z = upd f366528 z366524.toNatClampNeg 1 := ⟨_, rfl⟩
                        rw [← hf366532] at e366530
                        have he366533 : F366529 q344910 = .inr (22, [.ref (γ 9 0), .ref (γ 9 1), .ref (γ 9 2), .ref (γ 9 3), .ref (γ 9 4), .ref (γ 9 5), .ref (γ 9 6), .ref (γ 9 7), .ref (γ 9 8), .int p344919, .int p344920, .int p344921, .int p344922, .int p344923, .int p344924, .ref (γ 9 15), .ref (γ 9 16), .ref (γ 9 17), .ref (γ 9 18), .ref (γ 9 19), .ref (γ 9 20), .ref (γ 9 21), .ref (γ 9 22), .int p344925, .int p344926, .int p344927, .int p344928, .int p344929, .ref q344917, .ref (γ 9 29), .int p344930, .ref (γ 9 31), .int p344931, .int p344932, .int p344933, .ref q344918]) := (n366531 q344910 (rn_oa he366346 he366527)).trans he366346
                        have he366534 : F366529 (γ 9 19) = .inl (I .int, 2000, .inl f366350) := (n366531 (γ 9 19) (rn_ty ht344949 ht344946 (by decide))).trans he366349
                        have he366535 : F366529 (γ 9 3) = .inl (I .boolean, 2000, .inl f366484) := (n366531 (γ 9 3) (rn_ty ht344939 ht344946 (by decide))).trans he366483
                        have he366536 : F366529 (γ 9 1) = .inl (I (.array .long), 2000, .inr (.inr (.inr (.inr f366493)))) := (n366531 (γ 9 1) (rn_ref_num he366492 he366527)).trans he366492
                        have he366537 : F366529 q366495 = .inl (I .long, 32, .inr (.inl f366500)) := (n366531 q366495 (rn_long_num he366499 he366527)).trans he366499
                        have he366538 : F366529 (γ 9 16) = .inl (I .int, 2000, .inl f366532) := e366530
                        have mk366539 : mKp (F344909 q344910) (F366529 q344910) := mKp_tr x366342 (mKp_eq (n366531 q344910 (rn_ty htq344910 ht344946 (by decide))))
                        have hs366540 : rStr γ [1] F344909 F366529 := rStr_put hs366338 n366531 ht344946 (by decide)
                        have kp366541 : F366529 q344910 = F344909 q344910 := (n366531 q344910 (rn_ty htq344910 ht344946 (by decide))).trans x366340
                        have fs366542 : rFs γ (γ 1 q344911) F344909 F366529 := rFs_pn x366341 n366531 ht344946 (by decide)
                        obtain ⟨z366543, hz366543⟩ : ∃ z : Int32, z = g366335 + Int32.ofInt 1 := ⟨_, rfl⟩
                        have ez366543 : z366543.toInt = g366335.toInt + 1 := gI_inc hz366543 (by decide) bg366335' (by decide) (by decide)
                        have bz366543 : gB z366543 1 99 := ⟨by omega, by omega⟩
                        refine G_iinc (L' := [(5, .int z366543), (4, .int 0), (3, .int g364974), (2, .int g364975), (0, .ref q344910), (1, .ref q344911)]) z366543 0 dr_cX17_share_90 rfl hz366543.symm (Nat.le_of_ble_eq_true rfl) rfl ?_
                        refine G_goto 47 dr_cX17_share_93 (by decide +kernel) ?_
                        have hT366544 : RS D I P344908 F366529 γ el := RS_set hT366337 n366531 ht344946 (by decide) ⟨f366532, he366538⟩
                        exact ih47_366342 F366529 z366543 (gB_w bz366543 (by decide) (by decide)) hT366544 hs366540 (by rw [cB_of he366534]; exact cq366351) kp366541 fs366542 mk366539 (fun k e1 ht => kt47_366343 k e1 (fun R c1 c2 c3 c4 => c4 F366336 g366335 f366484 z366485 q366495 f366500 f366350 z366524 f366528 f366532 F366529 z366543 k e1 bg366335 hT366337 hs366338 x366339 x366340 x366341 x366342 r366480 fq366481 he366483 hz366485 bz366485 r366489 fq366490 hx366497 he366499 r366519 fq366522 fq366523 he366349 hz366524 bz366524 he366527 hf366532 n366531 he366538 ez366543 (ht R c1 c2 c3 c4))) (mz_up ez366543 (Int.le_trans bg366335'.2 (by decide)) hm47_366342)
              exact hlp47_366342 (((100 : Int) - 0).toNat + 1) F366125 0 (gB_w (gBl (show Int32.toInt 0 = 0 by decide)) (by decide) (by decide)) hT366126 hs366127 (by rw [cB_of he366138]; exact cq366140) x366129 x366130 x366131 (fun k e1 ht => ht) (Nat.lt_succ_self _)
            · have r366545 : g366124.toInt < g364974.toInt := gC_nle hc366141
              have bg366124' : gB g366124 0 98 := ⟨by omega, by omega⟩
              have bg364974'' : gB g364974 1 99 := ⟨by omega, by omega⟩
              refine G_aload_n 4 dr_cX17_share_30 rfl ?_
              have fq366546 : fR (F366125 q344910) 16 = (γ 9 16) := by rw [he366135]; rfl
              refine Gp_get 16 hm366136 he366135 dr_cX17_share_31 (gk_X17 D I) (Nat.le_of_ble_eq_true rfl) wr_7_90 rfl ?_
              refine G_iload 0 dr_cX17_share_34 rfl ?_
              refine G_iconst 0 dr_cX17_share_36 (by decide +kernel) ?_
              have hm366547 : (γ 9 16) ∈ P344908 := RS_m hT366126 ht344946 (by decide)
              obtain ⟨f366549, he366548⟩ := show rk_19 I (F366125 (γ 9 16)) from RS_o hT366126 ht344946
              refine Gp_iast 0 hm366547 he366548 dr_cX17_share_37 rfl (gB_in bg366124' (by decide) (by decide)) (fun F366550 e366551 n366552 => ?_)
              obtain ⟨f366553, hf366553⟩ : ∃ z, z = upd f366549 g366124.toNatClampNeg 0 := ⟨_, rfl⟩
              rw [← hf366553] at e366551
              have he366554 : F366550 q344910 = .inr (22, [.ref (γ 9 0), .ref (γ 9 1), .ref (γ 9 2), .ref (γ 9 3), .ref (γ 9 4), .ref (γ 9 5), .ref (γ 9 6), .ref (γ 9 7), .ref (γ 9 8), .int p344919, .int p344920, .int p344921, .int p344922, .int p344923, .int p344924, .ref (γ 9 15), .ref (γ 9 16), .ref (γ 9 17), .ref (γ 9 18), .ref (γ 9 19), .ref (γ 9 20), .ref (γ 9 21), .ref (γ 9 22), .int p344925, .int p344926, .int p344927, .int p344928, .int p344929, .ref q344917, .ref (γ 9 29), .int p344930, .ref (γ 9 31), .int p344931, .int p344932, .int p344933, .ref q344918]) := (n366552 q344910 (rn_oa he366135 he366548)).trans he366135
              have he366555 : F366550 (γ 9 19) = .inl (I .int, 2000, .inl f366139) := (n366552 (γ 9 19) (rn_ty ht344949 ht344946 (by decide))).trans he366138
              have he366556 : F366550 (γ 9 16) = .inl (I .int, 2000, .inl f366553) := e366551
              have mk366557 : mKp (F344909 q344910) (F366550 q344910) := mKp_tr x366131 (mKp_eq (n366552 q344910 (rn_ty htq344910 ht344946 (by decide))))
              have hs366558 : rStr γ [1] F344909 F366550 := rStr_put hs366127 n366552 ht344946 (by decide)
              have kp366559 : F366550 q344910 = F344909 q344910 := (n366552 q344910 (rn_ty htq344910 ht344946 (by decide))).trans x366129
              have fs366560 : rFs γ (γ 1 q344911) F344909 F366550 := rFs_pn x366130 n366552 ht344946 (by decide)
              obtain ⟨z366561, hz366561⟩ : ∃ z : Int32, z = g366124 + Int32.ofInt 1 := ⟨_, rfl⟩
              have ez366561 : z366561.toInt = g366124.toInt + 1 := gI_inc hz366561 (by decide) bg366124' (by decide) (by decide)
              have bz366561 : gB z366561 1 99 := ⟨by omega, by omega⟩
              refine G_iinc (L' := [(5, .int z366561), (4, .int 0), (3, .int g364974), (2, .int g364975), (0, .ref q344910), (1, .ref q344911)]) z366561 0 dr_cX17_share_38 rfl hz366561.symm (Nat.le_of_ble_eq_true rfl) rfl ?_
              refine G_goto 24 dr_cX17_share_41 (by decide +kernel) ?_
              have hT366562 : RS D I P344908 F366550 γ el := RS_set hT366126 n366552 ht344946 (by decide) ⟨f366553, he366556⟩
              exact ih24_366131 F366550 z366561 (gB_w bz366561 (by decide) (by decide)) hT366562 hs366558 (by rw [cB_of he366555]; exact cq366140) kp366559 fs366560 mk366557 (fun k e1 ht => kt24_366132 k e1 (fun R c1 c2 => c2 F366125 g366124 f366549 f366553 F366550 z366561 k e1 bg366124 hT366126 hs366127 x366128 x366129 x366130 x366131 r366545 fq366546 he366548 hf366553 n366552 he366556 ez366561 (ht R c1 c2))) (mz_up ez366561 (Int.le_trans bg366124'.2 (by decide)) hm24_366131)
        exact hlp24_366131 (((2000 : Int) - 0).toNat + 1) F364976 0 (gB_w (gBl (show Int32.toInt 0 = 0 by decide)) (by decide) (by decide)) hT364977 hs364978 (by rw [cB_of he364990]; exact cq364992) x364981 x364982 x364983 (fun k e1 ht => ht) (Nat.lt_succ_self _)
  exact hlp10_364983 (((101 : Int) - 0).toNat + 1) F344974 0 0 (gB_w (gBl (show Int32.toInt 0 = 0 by decide)) (by decide) (by decide)) (gB_w (gBl (show Int32.toInt 0 = 0 by decide)) (by decide) (by decide)) hT344975 hs344977 (fun q hq => absurd hq (by have qa : Int32.toInt 0 = 0 := (by decide); omega)) (by have qa0 : Int32.toInt 0 = 0 := (by decide); omega) kp344979 fs344978 mk344980 (fun k e1 e2 ht => ht) (Nat.lt_succ_self _)
/- tl_RModel_zeros_10: P, F, gm, el, l3, l2; out: F, P, gm, el -/
def tl_RModel_zeros_10 (D : va_G) (I : FieldType → ClassId) (γ0 el0 : Nat → Nat → Nat) (f : Nat) (P : List Nat) (F : Nat → va_E) (q1 : Nat) (q0 : Nat) (s1 : List Nat) (s2 : Nat → va_E) (s3 : Nat → Nat → Nat) (s4 : Nat → Nat → Nat) (s5 : Int32) (s6 : Int32) (k : Nat) (e1 : Nat → va_E) (e2 : List Nat) (e3 : Nat → Nat → Nat) (e4 : Nat → Nat → Nat) : Prop := ∀ R : (List Nat) → (Nat → va_E) → (Nat → Nat → Nat) → (Nat → Nat → Nat) → (Int32) → (Int32) → Nat → (Nat → va_E) → (List Nat) → (Nat → Nat → Nat) → (Nat → Nat → Nat) → Prop,
  (∀ (P_1 : List Nat) (F_1 : Nat → va_E) (gm_1 : Nat → Nat → Nat) (el_1 : Nat → Nat → Nat) (l3_1 : Int32) (l2_1 : Int32), gB l3_1 0 2000 → gB l2_1 0 2000 → RS D I P_1 F_1 gm_1 el_1 → rSk f [101] ([1, 3, 5, 6, 8, 9, 101] ++ npk) D I P F γ0 el0 P_1 F_1 gm_1 el_1 → gm_1 6 f = γ0 6 f → gm_1 7 f = γ0 7 f → gm_1 18 f = γ0 18 f → gm_1 16 f ≤ γ0 16 f + (l2_1.toInt : Int).toNat → l2_1.toInt ≤ l3_1.toInt → (l2_1.toInt : Int) ≤ gm_1 2 (gm_1 14 (el_1 (gm_1 14 q1) (0 : Int32).toInt.toNat)) → (F_1 q0 = F q0) → 2000 ≤ l3_1.toInt → R P_1 F_1 gm_1 el_1 l3_1 l2_1 74 F_1 P_1 gm_1 el_1) →
  (∀ (P_1 : List Nat) (F_1 : Nat → va_E) (gm_1 : Nat → Nat → Nat) (el_1 : Nat → Nat → Nat) (l3_1 : Int32) (l2_1 : Int32) (x1 : Nat) (x2 : Nat → Int64) (x3 : Int32) (k : Nat) (e1 : Nat → va_E) (e2 : List Nat) (e3 : Nat → Nat → Nat) (e4 : Nat → Nat → Nat), gB l3_1 0 2000 → gB l2_1 0 2000 → RS D I P_1 F_1 gm_1 el_1 → rSk f [101] ([1, 3, 5, 6, 8, 9, 101] ++ npk) D I P F γ0 el0 P_1 F_1 gm_1 el_1 → gm_1 6 f = γ0 6 f → gm_1 7 f = γ0 7 f → gm_1 18 f = γ0 18 f → gm_1 16 f ≤ γ0 16 f + (l2_1.toInt : Int).toNat → l2_1.toInt ≤ l3_1.toInt → (l2_1.toInt : Int) ≤ gm_1 2 (gm_1 14 (el_1 (gm_1 14 q1) (0 : Int32).toInt.toNat)) → (F_1 q0 = F q0) → l3_1.toInt < 2000 → fR (F_1 q0) 0 = (gm_1 9 0) → x1 = gm_1 10 (0 : Int32).toInt.toNat → F_1 x1 = .inl (I .long, 32, .inr (.inl x2)) → tr_RModel_has l3_1 x2 (0 : Int32) → x3.toInt = l3_1.toInt + 1 → R P_1 F_1 gm_1 el_1 x3 l2_1 k e1 e2 e3 e4 → R P_1 F_1 gm_1 el_1 l3_1 l2_1 k e1 e2 e3 e4) →
  (∀ (P_1 : List Nat) (F_1 : Nat → va_E) (gm_1 : Nat → Nat → Nat) (el_1 : Nat → Nat → Nat) (l3_1 : Int32) (l2_1 : Int32) (x1 : Nat) (x2 : Nat → Int64) (x3 : Nat) (x4 : Nat) (x5 : List Nat) (x6 : Nat → va_E) (x7 : Nat → Nat → Nat) (x8 : Nat → Nat → Nat) (x9 : Nat) (x10 : Nat) (x11 : Nat) (x12 : Nat → va_E) (x13 : Nat → va_E) (x14 : Nat) (x15 : Nat) (x16 : Int32) (x17 : Nat) (x18 : List Nat) (x19 : Nat → va_E) (x20 : Nat → Nat → Nat) (x21 : Nat → Nat → Nat) (x22 : Nat) (x23 : Nat) (x24 : Int32) (x25 : Int32) (k : Nat) (e1 : Nat → va_E) (e2 : List Nat) (e3 : Nat → Nat → Nat) (e4 : Nat → Nat → Nat), gB l3_1 0 2000 → gB l2_1 0 2000 → RS D I P_1 F_1 gm_1 el_1 → rSk f [101] ([1, 3, 5, 6, 8, 9, 101] ++ npk) D I P F γ0 el0 P_1 F_1 gm_1 el_1 → gm_1 6 f = γ0 6 f → gm_1 7 f = γ0 7 f → gm_1 18 f = γ0 18 f → gm_1 16 f ≤ γ0 16 f + (l2_1.toInt : Int).toNat → l2_1.toInt ≤ l3_1.toInt → (l2_1.toInt : Int) ≤ gm_1 2 (gm_1 14 (el_1 (gm_1 14 q1) (0 : Int32).toInt.toNat)) → (F_1 q0 = F q0) → l3_1.toInt < 2000 → fR (F_1 q0) 0 = (gm_1 9 0) → x1 = gm_1 10 (0 : Int32).toInt.toNat → F_1 x1 = .inl (I .long, 32, .inr (.inl x2)) → tr_RModel_has l3_1 x2 (1 : Int32) → fR (F_1 q1) 0 = x3 → x4 = el_1 x3 (0 : Int32).toInt.toNat → rRq D I P_1 F_1 gm_1 el_1 f q1 x5 x6 x7 x8 x9 x10 x11 → (∀ b, b ≠ x9 → x12 b = x6 b) → x12 x9 = cF (x6 x9) 0 (.int 0) → (∀ b, b ≠ x9 → x13 b = x12 b) → x13 x9 = cF (x12 x9) 1 (.int l3_1) → fR (x13 q1) 0 = x14 → x15 = x8 x14 (0 : Int32).toInt.toNat → fI (x13 x14) 2 = x16 → tr_RCode_get (0 : Int32) x16 → fR (x13 x15) 0 = x17 → rIq D I x5 x13 x7 x8 f x17 l2_1.toInt.toNat x9 x18 x19 x20 x21 x22 x23 → x24.toInt = l2_1.toInt + 1 → x25.toInt = l3_1.toInt + 1 → R x18 x19 x20 x21 x25 x24 k e1 e2 e3 e4 → R P_1 F_1 gm_1 el_1 l3_1 l2_1 k e1 e2 e3 e4) →
  R s1 s2 s3 s4 s5 s6 k e1 e2 e3 e4
/- tr_RModel_zeros: P, F, gm, el -/
def tr_RModel_zeros (D : va_G) (I : FieldType → ClassId) (γ0 el0 : Nat → Nat → Nat) (f : Nat) (P : List Nat) (F : Nat → va_E) (q0 : Nat) (q1 : Nat) (o1 : List Nat) (o2 : Nat → va_E) (o3 : Nat → Nat → Nat) (o4 : Nat → Nat → Nat) : Prop := ∀ R : (List Nat) → (Nat → va_E) → (Nat → Nat → Nat) → (Nat → Nat → Nat) → Prop,
  (∀ (x1 : Nat → Nat → Nat) (x2 : Nat → Nat → Nat) (x3 : Nat → va_E) (x4 : Nat → va_E) (x5 : List Nat) (x6 : Nat → Nat → Nat) (x7 : Nat → Nat → Nat), x1 = γ0 → x2 = el0 → RS D I P x3 x1 x2 → rStr x1 [] F x3 → (x3 q0 = F q0) → tr_RModel_findLive D I x1 x2 P F q0 q1 (0 : Int32) x3 → tl_RModel_zeros_10 D I γ0 el0 f P F q1 q0 P x3 x1 x2 (0 : Int32) (0 : Int32) 74 x4 x5 x6 x7 → R x5 x4 x6 x7) →
  R o1 o2 o3 o4
