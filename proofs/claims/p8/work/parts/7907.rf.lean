theorem dr_cX17_coloured_0 : decode cX17_coloured 0 = .ok (.aload_n 1, 1) := by decide +kernel
theorem dr_cX17_coloured_1 : decode cX17_coloured 1 = .ok (.invokevirtual 70, 3) := by decide +kernel
theorem dr_cX17_coloured_4 : decode cX17_coloured 4 = .ok (.ifCond .eq 16, 3) := by decide +kernel
theorem dr_cX17_coloured_20 : decode cX17_coloured 20 = .ok (.aload_n 1, 1) := by decide +kernel
theorem dr_cX17_coloured_21 : decode cX17_coloured 21 = .ok (.invokevirtual 76, 3) := by decide +kernel
theorem dr_cX17_coloured_24 : decode cX17_coloured 24 = .ok (.ifCond .eq 16, 3) := by decide +kernel
theorem dr_cX17_coloured_40 : decode cX17_coloured 40 = .ok (.aload_n 1, 1) := by decide +kernel
theorem dr_cX17_coloured_41 : decode cX17_coloured 41 = .ok (.invokevirtual 48, 3) := by decide +kernel
theorem dr_cX17_coloured_44 : decode cX17_coloured 44 = .ok (.ifCond .eq 16, 3) := by decide +kernel
theorem dr_cX17_coloured_60 : decode cX17_coloured 60 = .ok (.return_, 1) := by decide +kernel
theorem dr_cX17_coloured_47 : decode cX17_coloured 47 = .ok (.aload_n 1, 1) := by decide +kernel
theorem dr_cX17_coloured_48 : decode cX17_coloured 48 = .ok (.aload_n 0, 1) := by decide +kernel
theorem dr_cX17_coloured_49 : decode cX17_coloured 49 = .ok (.getfield 212, 3) := by decide +kernel
theorem dr_cX17_coloured_52 : decode cX17_coloured 52 = .ok (.aload_n 1, 1) := by decide +kernel
theorem dr_cX17_coloured_53 : decode cX17_coloured 53 = .ok (.getfield 52, 3) := by decide +kernel
theorem dr_cX17_coloured_56 : decode cX17_coloured 56 = .ok (.iaload, 1) := by decide +kernel
theorem dr_cX17_coloured_57 : decode cX17_coloured 57 = .ok (.putfield 52, 3) := by decide +kernel
theorem dr_cX17_coloured_27 : decode cX17_coloured 27 = .ok (.aload_n 1, 1) := by decide +kernel
theorem dr_cX17_coloured_28 : decode cX17_coloured 28 = .ok (.aload_n 0, 1) := by decide +kernel
theorem dr_cX17_coloured_29 : decode cX17_coloured 29 = .ok (.getfield 212, 3) := by decide +kernel
theorem dr_cX17_coloured_32 : decode cX17_coloured 32 = .ok (.aload_n 1, 1) := by decide +kernel
theorem dr_cX17_coloured_33 : decode cX17_coloured 33 = .ok (.getfield 79, 3) := by decide +kernel
theorem dr_cX17_coloured_36 : decode cX17_coloured 36 = .ok (.iaload, 1) := by decide +kernel
theorem dr_cX17_coloured_37 : decode cX17_coloured 37 = .ok (.putfield 79, 3) := by decide +kernel
theorem dr_cX17_coloured_7 : decode cX17_coloured 7 = .ok (.aload_n 1, 1) := by decide +kernel
theorem dr_cX17_coloured_8 : decode cX17_coloured 8 = .ok (.aload_n 0, 1) := by decide +kernel
theorem dr_cX17_coloured_9 : decode cX17_coloured 9 = .ok (.getfield 212, 3) := by decide +kernel
theorem dr_cX17_coloured_12 : decode cX17_coloured 12 = .ok (.aload_n 1, 1) := by decide +kernel
theorem dr_cX17_coloured_13 : decode cX17_coloured 13 = .ok (.getfield 73, 3) := by decide +kernel
theorem dr_cX17_coloured_16 : decode cX17_coloured 16 = .ok (.iaload, 1) := by decide +kernel
theorem dr_cX17_coloured_17 : decode cX17_coloured 17 = .ok (.putfield 73, 3) := by decide +kernel
theorem dr_cX17_share_0 : decode cX17_share 0 = .ok (.aload_n 0, 1) := by decide +kernel
theorem dr_cX17_share_1 : decode cX17_share 1 = .ok (.aload_n 1, 1) := by decide +kernel
theorem dr_cX17_share_2 : decode cX17_share 2 = .ok (.iconst 1, 1) := by decide +kernel
theorem dr_cX17_share_3 : decode cX17_share 3 = .ok (.invokevirtual 243, 3) := by decide +kernel
theorem wr_10_233 : (Jvm.Cond.methodLink "SpillForgeModel" (243 : Nat) ({ cls := "SpillForgeModel", name := "graph", desc := "(LSpillForgeModel$Code;Z)V" } : Jvm.MethodName)) ∈ gw := gw_10 233 rfl rfl
theorem wr_10_236 : (Jvm.Cond.code ({ cls := "SpillForgeModel", name := "graph", desc := "(LSpillForgeModel$Code;Z)V" } : Jvm.MethodName) prog_14_method_10_code (11 : Nat) (Option.none : Option Jvm.ClassFile.FieldType)) ∈ gw := gw_10 236 rfl rfl
theorem wr_10_235 : (Jvm.Cond.instanceMethod ({ cls := "SpillForgeModel", name := "graph", desc := "(LSpillForgeModel$Code;Z)V" } : Jvm.MethodName)) ∈ gw := gw_10 235 rfl rfl
theorem wr_p_99 : Cond.selects "SpillForgeModel" ⟨"SpillForgeModel", "graph", "(LSpillForgeModel$Code;Z)V"⟩ ⟨"SpillForgeModel", "graph", "(LSpillForgeModel$Code;Z)V"⟩ ∈ gw := gw_p _ 99 rfl rfl rfl
theorem dr_cX17_share_6 : decode cX17_share 6 = .ok (.iconst 0, 1) := by decide +kernel
theorem dr_cX17_share_7 : decode cX17_share 7 = .ok (.istore_n 2, 1) := by decide +kernel
theorem dr_cX17_share_8 : decode cX17_share 8 = .ok (.iconst 0, 1) := by decide +kernel
theorem dr_cX17_share_9 : decode cX17_share 9 = .ok (.istore_n 3, 1) := by decide +kernel
theorem dr_cX17_share_10 : decode cX17_share 10 = .ok (.iload_n 3, 1) := by decide +kernel
theorem dr_cX17_share_11 : decode cX17_share 11 = .ok (.aload_n 0, 1) := by decide +kernel
theorem dr_cX17_share_12 : decode cX17_share 12 = .ok (.getfield 224, 3) := by decide +kernel
theorem wr_7_85 : (Jvm.Cond.fieldLink "SpillForgeModel" (224 : Nat) "SpillForgeModel" "slots" "I") ∈ gw := gw_7 85 rfl rfl
theorem dr_cX17_share_15 : decode cX17_share 15 = .ok (.if_icmp .ge 136, 3) := by decide +kernel
theorem dr_cX17_share_151 : decode cX17_share 151 = .ok (.iconst 0, 1) := by decide +kernel
theorem dr_cX17_share_152 : decode cX17_share 152 = .ok (.istore_n 3, 1) := by decide +kernel
theorem dr_cX17_share_153 : decode cX17_share 153 = .ok (.iload_n 3, 1) := by decide +kernel
theorem dr_cX17_share_154 : decode cX17_share 154 = .ok (.aload_n 1, 1) := by decide +kernel
theorem dr_cX17_share_155 : decode cX17_share 155 = .ok (.invokevirtual 96, 3) := by decide +kernel
theorem dr_cX17_share_158 : decode cX17_share 158 = .ok (.if_icmp .ge 88, 3) := by decide +kernel
theorem dr_cX17_share_246 : decode cX17_share 246 = .ok (.aload_n 0, 1) := by decide +kernel
theorem dr_cX17_share_247 : decode cX17_share 247 = .ok (.iload_n 2, 1) := by decide +kernel
theorem dr_cX17_share_248 : decode cX17_share 248 = .ok (.putfield 224, 3) := by decide +kernel
theorem dr_cX17_share_251 : decode cX17_share 251 = .ok (.return_, 1) := by decide +kernel
theorem dr_cX17_share_161 : decode cX17_share 161 = .ok (.aload_n 1, 1) := by decide +kernel
theorem dr_cX17_share_162 : decode cX17_share 162 = .ok (.iload_n 3, 1) := by decide +kernel
theorem dr_cX17_share_163 : decode cX17_share 163 = .ok (.invokevirtual 101, 3) := by decide +kernel
theorem dr_cX17_share_166 : decode cX17_share 166 = .ok (.astore 4, 2) := by decide +kernel
theorem dr_cX17_share_168 : decode cX17_share 168 = .ok (.iconst 0, 1) := by decide +kernel
theorem dr_cX17_share_169 : decode cX17_share 169 = .ok (.istore 5, 2) := by decide +kernel
theorem dr_cX17_share_171 : decode cX17_share 171 = .ok (.iload 5, 2) := by decide +kernel
theorem dr_cX17_share_173 : decode cX17_share 173 = .ok (.aload 4, 2) := by decide +kernel
theorem dr_cX17_share_175 : decode cX17_share 175 = .ok (.getfield 117, 3) := by decide +kernel
theorem dr_cX17_share_178 : decode cX17_share 178 = .ok (.invokevirtual 121, 3) := by decide +kernel
theorem dr_cX17_share_181 : decode cX17_share 181 = .ok (.if_icmp .ge 59, 3) := by decide +kernel
theorem dr_cX17_share_240 : decode cX17_share 240 = .ok (.iinc 3 1, 3) := by decide +kernel
theorem dr_cX17_share_243 : decode cX17_share 243 = .ok (.goto (-90), 3) := by decide +kernel
theorem dr_cX17_share_184 : decode cX17_share 184 = .ok (.aload 4, 2) := by decide +kernel
theorem dr_cX17_share_186 : decode cX17_share 186 = .ok (.getfield 117, 3) := by decide +kernel
theorem dr_cX17_share_189 : decode cX17_share 189 = .ok (.iload 5, 2) := by decide +kernel
theorem dr_cX17_share_191 : decode cX17_share 191 = .ok (.invokevirtual 124, 3) := by decide +kernel
theorem dr_cX17_share_194 : decode cX17_share 194 = .ok (.checkcast 40, 3) := by decide +kernel
theorem dr_cX17_share_197 : decode cX17_share 197 = .ok (.astore 6, 2) := by decide +kernel
theorem dr_cX17_share_199 : decode cX17_share 199 = .ok (.aload 6, 2) := by decide +kernel
theorem dr_cX17_share_201 : decode cX17_share 201 = .ok (.getfield 39, 3) := by decide +kernel
theorem dr_cX17_share_204 : decode cX17_share 204 = .ok (.bipush 21, 2) := by decide +kernel
theorem dr_cX17_share_206 : decode cX17_share 206 = .ok (.if_icmp .eq 13, 3) := by decide +kernel
theorem dr_cX17_share_219 : decode cX17_share 219 = .ok (.aload 6, 2) := by decide +kernel
theorem dr_cX17_share_221 : decode cX17_share 221 = .ok (.aload_n 0, 1) := by decide +kernel
theorem dr_cX17_share_222 : decode cX17_share 222 = .ok (.getfield 221, 3) := by decide +kernel
theorem wr_7_93 : (Jvm.Cond.fieldLink "SpillForgeModel" (221 : Nat) "SpillForgeModel" "slotOf" "[I") ∈ gw := gw_7 93 rfl rfl
theorem dr_cX17_share_225 : decode cX17_share 225 = .ok (.aload 6, 2) := by decide +kernel
theorem dr_cX17_share_227 : decode cX17_share 227 = .ok (.getfield 45, 3) := by decide +kernel
theorem dr_cX17_share_230 : decode cX17_share 230 = .ok (.iaload, 1) := by decide +kernel
theorem dr_cX17_share_231 : decode cX17_share 231 = .ok (.putfield 45, 3) := by decide +kernel
theorem dr_cX17_share_234 : decode cX17_share 234 = .ok (.iinc 5 1, 3) := by decide +kernel
theorem dr_cX17_share_237 : decode cX17_share 237 = .ok (.goto (-66), 3) := by decide +kernel
theorem dr_cX17_share_209 : decode cX17_share 209 = .ok (.aload 6, 2) := by decide +kernel
theorem dr_cX17_share_211 : decode cX17_share 211 = .ok (.getfield 39, 3) := by decide +kernel
theorem dr_cX17_share_214 : decode cX17_share 214 = .ok (.bipush 23, 2) := by decide +kernel
theorem dr_cX17_share_216 : decode cX17_share 216 = .ok (.if_icmp .ne 18, 3) := by decide +kernel
theorem dr_cX17_share_18 : decode cX17_share 18 = .ok (.iconst 0, 1) := by decide +kernel
theorem dr_cX17_share_19 : decode cX17_share 19 = .ok (.istore 4, 2) := by decide +kernel
theorem dr_cX17_share_21 : decode cX17_share 21 = .ok (.iconst 0, 1) := by decide +kernel
theorem dr_cX17_share_22 : decode cX17_share 22 = .ok (.istore 5, 2) := by decide +kernel
theorem dr_cX17_share_24 : decode cX17_share 24 = .ok (.iload 5, 2) := by decide +kernel
theorem dr_cX17_share_26 : decode cX17_share 26 = .ok (.iload_n 3, 1) := by decide +kernel
theorem dr_cX17_share_27 : decode cX17_share 27 = .ok (.if_icmp .ge 17, 3) := by decide +kernel
theorem dr_cX17_share_44 : decode cX17_share 44 = .ok (.iconst 0, 1) := by decide +kernel
theorem dr_cX17_share_45 : decode cX17_share 45 = .ok (.istore 5, 2) := by decide +kernel
theorem dr_cX17_share_47 : decode cX17_share 47 = .ok (.iload 5, 2) := by decide +kernel
theorem dr_cX17_share_49 : decode cX17_share 49 = .ok (.iload_n 3, 1) := by decide +kernel
theorem dr_cX17_share_50 : decode cX17_share 50 = .ok (.if_icmp .ge 46, 3) := by decide +kernel
theorem dr_cX17_share_96 : decode cX17_share 96 = .ok (.iload 4, 2) := by decide +kernel
theorem dr_cX17_share_98 : decode cX17_share 98 = .ok (.iload_n 3, 1) := by decide +kernel
theorem dr_cX17_share_99 : decode cX17_share 99 = .ok (.if_icmp .ge 20, 3) := by decide +kernel
theorem dr_cX17_share_119 : decode cX17_share 119 = .ok (.aload_n 0, 1) := by decide +kernel
theorem dr_cX17_share_120 : decode cX17_share 120 = .ok (.getfield 221, 3) := by decide +kernel
theorem dr_cX17_share_123 : decode cX17_share 123 = .ok (.iload_n 3, 1) := by decide +kernel
theorem dr_cX17_share_124 : decode cX17_share 124 = .ok (.iload 4, 2) := by decide +kernel
theorem dr_cX17_share_126 : decode cX17_share 126 = .ok (.iastore, 1) := by decide +kernel
theorem dr_cX17_share_127 : decode cX17_share 127 = .ok (.aload_n 0, 1) := by decide +kernel
theorem dr_cX17_share_128 : decode cX17_share 128 = .ok (.getfield 131, 3) := by decide +kernel
theorem dr_cX17_share_131 : decode cX17_share 131 = .ok (.iload_n 3, 1) := by decide +kernel
theorem dr_cX17_share_132 : decode cX17_share 132 = .ok (.baload, 1) := by decide +kernel
theorem dr_cX17_share_133 : decode cX17_share 133 = .ok (.ifCond .eq 12, 3) := by decide +kernel
theorem dr_cX17_share_145 : decode cX17_share 145 = .ok (.iinc 3 1, 3) := by decide +kernel
theorem dr_cX17_share_148 : decode cX17_share 148 = .ok (.goto (-138), 3) := by decide +kernel
theorem dr_cX17_share_136 : decode cX17_share 136 = .ok (.iload_n 2, 1) := by decide +kernel
theorem dr_cX17_share_137 : decode cX17_share 137 = .ok (.iload 4, 2) := by decide +kernel
theorem dr_cX17_share_139 : decode cX17_share 139 = .ok (.iconst 1, 1) := by decide +kernel
theorem dr_cX17_share_140 : decode cX17_share 140 = .ok (.iadd, 1) := by decide +kernel
theorem dr_cX17_share_141 : decode cX17_share 141 = .ok (.invokestatic 189, 3) := by decide +kernel
theorem dr_cX17_share_144 : decode cX17_share 144 = .ok (.istore_n 2, 1) := by decide +kernel
theorem dr_cX17_share_102 : decode cX17_share 102 = .ok (.aload_n 0, 1) := by decide +kernel
theorem dr_cX17_share_103 : decode cX17_share 103 = .ok (.getfield 209, 3) := by decide +kernel
theorem dr_cX17_share_106 : decode cX17_share 106 = .ok (.iload 4, 2) := by decide +kernel
theorem dr_cX17_share_108 : decode cX17_share 108 = .ok (.iaload, 1) := by decide +kernel
theorem dr_cX17_share_109 : decode cX17_share 109 = .ok (.iconst 1, 1) := by decide +kernel
theorem dr_cX17_share_110 : decode cX17_share 110 = .ok (.if_icmp .ne 9, 3) := by decide +kernel
theorem dr_cX17_share_113 : decode cX17_share 113 = .ok (.iinc 4 1, 3) := by decide +kernel
theorem dr_cX17_share_116 : decode cX17_share 116 = .ok (.goto (-20), 3) := by decide +kernel
theorem dr_cX17_share_53 : decode cX17_share 53 = .ok (.aload_n 0, 1) := by decide +kernel
theorem dr_cX17_share_54 : decode cX17_share 54 = .ok (.getfield 131, 3) := by decide +kernel
theorem dr_cX17_share_57 : decode cX17_share 57 = .ok (.iload 5, 2) := by decide +kernel
theorem dr_cX17_share_59 : decode cX17_share 59 = .ok (.baload, 1) := by decide +kernel
theorem dr_cX17_share_60 : decode cX17_share 60 = .ok (.ifCond .eq 30, 3) := by decide +kernel
theorem dr_cX17_share_90 : decode cX17_share 90 = .ok (.iinc 5 1, 3) := by decide +kernel
theorem dr_cX17_share_93 : decode cX17_share 93 = .ok (.goto (-46), 3) := by decide +kernel
theorem dr_cX17_share_63 : decode cX17_share 63 = .ok (.aload_n 0, 1) := by decide +kernel
theorem dr_cX17_share_64 : decode cX17_share 64 = .ok (.getfield 135, 3) := by decide +kernel
theorem dr_cX17_share_67 : decode cX17_share 67 = .ok (.iload_n 3, 1) := by decide +kernel
theorem dr_cX17_share_68 : decode cX17_share 68 = .ok (.aaload, 1) := by decide +kernel
theorem dr_cX17_share_69 : decode cX17_share 69 = .ok (.iload 5, 2) := by decide +kernel
theorem dr_cX17_share_71 : decode cX17_share 71 = .ok (.invokestatic 145, 3) := by decide +kernel
theorem dr_cX17_share_74 : decode cX17_share 74 = .ok (.ifCond .eq 16, 3) := by decide +kernel
theorem dr_cX17_share_77 : decode cX17_share 77 = .ok (.aload_n 0, 1) := by decide +kernel
theorem dr_cX17_share_78 : decode cX17_share 78 = .ok (.getfield 209, 3) := by decide +kernel
theorem dr_cX17_share_81 : decode cX17_share 81 = .ok (.aload_n 0, 1) := by decide +kernel
theorem dr_cX17_share_82 : decode cX17_share 82 = .ok (.getfield 221, 3) := by decide +kernel
theorem dr_cX17_share_85 : decode cX17_share 85 = .ok (.iload 5, 2) := by decide +kernel
theorem dr_cX17_share_87 : decode cX17_share 87 = .ok (.iaload, 1) := by decide +kernel
theorem dr_cX17_share_88 : decode cX17_share 88 = .ok (.iconst 1, 1) := by decide +kernel
theorem dr_cX17_share_89 : decode cX17_share 89 = .ok (.iastore, 1) := by decide +kernel
theorem dr_cX17_share_30 : decode cX17_share 30 = .ok (.aload_n 0, 1) := by decide +kernel
theorem dr_cX17_share_31 : decode cX17_share 31 = .ok (.getfield 209, 3) := by decide +kernel
theorem dr_cX17_share_34 : decode cX17_share 34 = .ok (.iload 5, 2) := by decide +kernel
theorem dr_cX17_share_36 : decode cX17_share 36 = .ok (.iconst 0, 1) := by decide +kernel
theorem dr_cX17_share_37 : decode cX17_share 37 = .ok (.iastore, 1) := by decide +kernel
theorem dr_cX17_share_38 : decode cX17_share 38 = .ok (.iinc 5 1, 3) := by decide +kernel
theorem dr_cX17_share_41 : decode cX17_share 41 = .ok (.goto (-17), 3) := by decide +kernel
abbrev ky_344584_SpillForgeModel_coloured : gKey := (cX17_coloured, 2, "SpillForgeModel", none, [], "coloured", fun _ _ => True)
def pt_344584_SpillForgeModel_coloured (D : va_G) (I : FieldType → ClassId) (γ el : Nat → Nat → Nat) (P344579 : List Nat) (F344580 : Nat → va_E) (q344581 : Nat) (q344582 : Nat) : Option Value → va_W → Nat → Nat → Prop := fun r w dc ds => ∃ (F344825 : Nat → va_E), r = none ∧ w = va_pl P344579 F344825 ∧ RS D I P344579 F344825 γ el ∧ rStr γ [1] F344580 F344825 ∧ dc ≤ 0 ∧ ds ≤ 0 ∧ (∀ b, b ≠ q344582 → F344825 b = F344580 b) ∧ (F344825 q344581 = F344580 q344581) ∧ (F344825 (γ 9 3) = F344580 (γ 9 3)) ∧ (F344825 (γ 9 17) = F344580 (γ 9 17))
set_option maxRecDepth 100000 in
set_option maxHeartbeats 4000000 in
theorem ct_344584_SpillForgeModel_coloured (l : Launch) (hl0 : l.stackTraces = false) (D : va_G) (I : FieldType → ClassId) (γ el : Nat → Nat → Nat) (P344579 : List Nat) (F344580 : Nat → va_E) (q344581 : Nat) (q344582 : Nat) (hT : RS D I P344579 F344580 γ el) (htq344581 : rKd γ q344581 10) (htq344582 : rKd γ q344582 1) (x344583 : (rNm (fun n => 0 ≤ (cB (F344580 (γ 9 17)) n).toInt) (F344580 q344582))) : CtA (gV D I) l yX17_coloured cX17_coloured 2 none 1 20 0 0 [.ref q344581, .ref q344582] (va_pl P344579 F344580) (pt_344584_SpillForgeModel_coloured D I γ el P344579 F344580 q344581 q344582) gNA := by
  refine CtA_of hl0 (by decide) (Nat.le_of_ble_eq_true rfl) ?_
  have hm344585 : q344581 ∈ P344579 := RS_m hT htq344581 (by decide)
  obtain ⟨q344587, q344588, p344589, p344590, p344591, p344592, p344593, p344594, p344595, p344596, p344597, p344598, p344599, p344600, p344601, p344602, p344603, he344586, hB344630, ht344604, ht344605, ht344606, ht344607, ht344608, ht344609, ht344610, ht344611, ht344612, ht344613, ht344614, ht344615, ht344616, ht344617, ht344618, ht344619, ht344620, ht344621, ht344622, ht344623, ht344624, ht344625, ht344626, ht344627, hB344631⟩ := show rk_10 γ (F344580 q344581) from RS_o hT htq344581
  have hm344632 : (γ 9 17) ∈ P344579 := RS_m hT ht344617 (by decide)
  obtain ⟨f344634, he344633, bf344634⟩ := show rk_20 I (F344580 (γ 9 17)) from RS_o hT ht344617
  have hm344635 : q344582 ∈ P344579 := RS_m hT htq344582 (by decide)
  obtain ⟨p344637, p344638, p344639, p344640, p344641, p344642, p344643, he344636, bp344637, bp344638, bp344641, bp344642, bp344643, r344644, r344645, r344646, r344647, r344648⟩ := show rk_1 γ q344582 (F344580 q344582) from RS_o hT htq344582
  have bp344639 := gB_any p344639
  have bp344640 := gB_any p344640
  have cq344649 : ∀ n, nmV p344637.toInt p344638.toInt p344639.toInt p344640.toInt p344642.toInt p344643.toInt n → 0 ≤ (f344634 n).toInt := by have z := x344583; unfold rNm at z; rw [nmS_of he344636, cB_of he344633] at z; exact z
  refine G_aload_n 1 dr_cX17_coloured_0 rfl ?_
  refine Gw_callV (As := []) (gV_ok D I) (cp_222403_Row_usesA l hl0 D I P344579 F344580 q344582 p344637 p344638 p344639 p344640 p344641 p344642 p344643 hm344635 he344636 bp344637 bp344638 bp344641 bp344642 bp344643) dr_cX17_coloured_1 ⟨wr_10_192, wr_1_39, wr_10_195, by decide, rfl, (Nat.le_of_ble_eq_true rfl), (Nat.le_of_ble_eq_true rfl)⟩ wr_10_193 wr_10_194 hm344635 he344636 rfl (show 0 + 0 ≤ 0 by first | omega | decide) (show 0 + 0 ≤ 0 by first | omega | decide) (Nat.le_of_ble_eq_true rfl) (fun r344653 w344654 dc344650 ds344651 hp344652 => ?_) (fun _ _ _ _ _ z => z.elim)
  obtain ⟨o344655, rfl, rfl, hdc, hds, bo344655, x344656, ht344657⟩ := hp344652
  change G _ _ _ _ _ _ _ (.int o344655 :: _) _ _ _
  refine G_widen (cs' := 0) (sl' := 0) (by omega) (by omega) ?_
  refine G_if_eq 20 dr_cX17_coloured_4 (by decide +kernel) (fun hc344658 => ?_) (fun hc344658 => ?_)
  · have r344659 : o344655.toInt = 0 := gj_eq hc344658 (show Int32.toInt 0 = 0 by decide)
    have bo344655' : gB o344655 0 0 := ⟨by omega, by omega⟩
    refine G_aload_n 1 dr_cX17_coloured_20 rfl ?_
    refine Gw_callV (As := []) (gV_ok D I) (cp_222427_Row_usesB l hl0 D I P344579 F344580 q344582 p344637 p344638 p344639 p344640 p344641 p344642 p344643 hm344635 he344636 bp344637 bp344638 bp344641 bp344642 bp344643) dr_cX17_coloured_21 ⟨wr_10_196, wr_1_39, wr_10_199, by decide, rfl, (Nat.le_of_ble_eq_true rfl), (Nat.le_of_ble_eq_true rfl)⟩ wr_10_197 wr_10_198 hm344635 he344636 rfl (show 0 + 0 ≤ 0 by first | omega | decide) (show 0 + 0 ≤ 0 by first | omega | decide) (Nat.le_of_ble_eq_true rfl) (fun r344663 w344664 dc344660 ds344661 hp344662 => ?_) (fun _ _ _ _ _ z => z.elim)
    obtain ⟨o344665, rfl, rfl, hdc, hds, bo344665, x344666, ht344667⟩ := hp344662
    change G _ _ _ _ _ _ _ (.int o344665 :: _) _ _ _
    refine G_widen (cs' := 0) (sl' := 0) (by omega) (by omega) ?_
    refine G_if_eq 40 dr_cX17_coloured_24 (by decide +kernel) (fun hc344668 => ?_) (fun hc344668 => ?_)
    · have r344669 : o344665.toInt = 0 := gj_eq hc344668 (show Int32.toInt 0 = 0 by decide)
      have bo344665' : gB o344665 0 0 := ⟨by omega, by omega⟩
      refine G_aload_n 1 dr_cX17_coloured_40 rfl ?_
      refine Gw_callV (As := []) (gV_ok D I) (cp_222448_Row_sets l hl0 D I P344579 F344580 q344582 p344637 p344638 p344639 p344640 p344641 p344642 p344643 hm344635 he344636 bp344637 bp344638 bp344641 bp344642 bp344643) dr_cX17_coloured_41 ⟨wr_10_181, wr_1_39, wr_10_184, by decide, rfl, (Nat.le_of_ble_eq_true rfl), (Nat.le_of_ble_eq_true rfl)⟩ wr_10_182 wr_10_183 hm344635 he344636 rfl (show 0 + 0 ≤ 0 by first | omega | decide) (show 0 + 0 ≤ 0 by first | omega | decide) (Nat.le_of_ble_eq_true rfl) (fun r344673 w344674 dc344670 ds344671 hp344672 => ?_) (fun _ _ _ _ _ z => z.elim)
      obtain ⟨o344675, rfl, rfl, hdc, hds, bo344675, x344676, ht344677⟩ := hp344672
      change G _ _ _ _ _ _ _ (.int o344675 :: _) _ _ _
      refine G_widen (cs' := 0) (sl' := 0) (by omega) (by omega) ?_
      refine G_if_eq 60 dr_cX17_coloured_44 (by decide +kernel) (fun hc344678 => ?_) (fun hc344678 => ?_)
      · have r344679 : o344675.toInt = 0 := gj_eq hc344678 (show Int32.toInt 0 = 0 by decide)
        have bo344675' : gB o344675 0 0 := ⟨by omega, by omega⟩
        exact G_vretA dr_cX17_coloured_60 rfl (Nat.le_of_ble_eq_true rfl) (Nat.le_of_ble_eq_true rfl) ⟨F344580, rfl, rfl, hT, (rStr_rf (γ := γ) (W := [1]) (F := F344580)), (Nat.le_of_ble_eq_true rfl), (Nat.le_of_ble_eq_true rfl), (fun _ _ => rfl), rfl, rfl, rfl⟩
      · have r344680 : o344675.toInt ≠ 0 := gj_neq hc344678 (show Int32.toInt 0 = 0 by decide)
        have bo344675' : gB o344675 1 1 := ⟨by omega, by omega⟩
        refine G_aload_n 1 dr_cX17_coloured_47 rfl ?_
        refine G_aload_n 0 dr_cX17_coloured_48 rfl ?_
        refine Gp_get 17 hm344585 he344586 dr_cX17_coloured_49 (gk_X17 D I) (Nat.le_of_ble_eq_true rfl) wr_7_91 rfl ?_
        refine G_aload_n 1 dr_cX17_coloured_52 rfl ?_
        refine Gp_get 1 hm344635 he344636 dr_cX17_coloured_53 (gk_X15 D I) (Nat.le_of_ble_eq_true rfl) wr_9_182 rfl ?_
        refine Gp_iald 0 hm344632 he344633 dr_cX17_coloured_56 rfl (gB_in bp344638 (by decide) (by decide)) (G_nam fun z344681 hz344681 => ?_)
        have bz344681 : gB z344681 (-1) 31 := by rw [hz344681]; exact bf344634 _
        have r344682 : 0 ≤ z344681.toInt := by rw [hz344681]; exact cq344649 _ (Or.inl ⟨by omega, rfl⟩)
        have bz344681' : gB z344681 0 31 := ⟨by omega, by omega⟩
        refine Gp_put 1 hm344635 he344636 dr_cX17_coloured_57 (gk_X15 D I) (Nat.le_of_ble_eq_true rfl) wr_9_182 rfl rfl rfl (Nat.le_of_ble_eq_true rfl) (fun F344683 e344684 n344685 => ?_)
        have he344686 : F344683 q344581 = .inr (22, [.ref (γ 9 0), .ref (γ 9 1), .ref (γ 9 2), .ref (γ 9 3), .ref (γ 9 4), .ref (γ 9 5), .ref (γ 9 6), .ref (γ 9 7), .ref (γ 9 8), .int p344589, .int p344590, .int p344591, .int p344592, .int p344593, .int p344594, .ref (γ 9 15), .ref (γ 9 16), .ref (γ 9 17), .ref (γ 9 18), .ref (γ 9 19), .ref (γ 9 20), .ref (γ 9 21), .ref (γ 9 22), .int p344595, .int p344596, .int p344597, .int p344598, .int p344599, .ref q344587, .ref (γ 9 29), .int p344600, .ref (γ 9 31), .int p344601, .int p344602, .int p344603, .ref q344588]) := (n344685 q344581 (rn_oo he344586 he344636 (by decide))).trans he344586
        have he344687 : F344683 (γ 9 17) = .inl (I .int, 2000, .inl f344634) := (n344685 (γ 9 17) (rn_ao he344633 he344636)).trans he344633
        have he344688 : F344683 q344582 = .inr (20, [.int p344637, .int z344681, .int p344639, .int p344640, .int p344641, .int p344642, .int p344643]) := e344684
        have hs344689 : rStr γ [1] F344580 F344683 := rStr_pu2 (rStr_rf (γ := γ) (W := [1]) (F := F344580)) n344685 htq344582 (by decide)
        have kp344690 : F344683 q344581 = F344580 q344581 := n344685 q344581 (rn_ty htq344581 htq344582 (by decide))
        have kp344691 : F344683 (γ 9 3) = F344580 (γ 9 3) := n344685 (γ 9 3) (rn_ty ht344609 htq344582 (by decide))
        have kp344692 : F344683 (γ 9 17) = F344580 (γ 9 17) := n344685 (γ 9 17) (rn_ty ht344617 htq344582 (by decide))
        have hT344693 : RS D I P344579 F344683 γ el := RS_set hT n344685 htq344582 (by decide) ⟨p344637, z344681, p344639, p344640, p344641, p344642, p344643, he344688, bp344637, (gB_w bz344681' (by decide) (by decide)), bp344641, bp344642, bp344643, (by omega), (by omega), (by omega), (by omega), (by omega)⟩
        have of344694 : ∀ b, b ≠ q344582 → F344683 b = F344580 b := fun b hb => n344685 b hb
        exact G_vretA dr_cX17_coloured_60 rfl (Nat.le_of_ble_eq_true rfl) (Nat.le_of_ble_eq_true rfl) ⟨F344683, rfl, rfl, hT344693, hs344689, (Nat.le_of_ble_eq_true rfl), (Nat.le_of_ble_eq_true rfl), of344694, kp344690, kp344691, kp344692⟩
    · have r344695 : o344665.toInt ≠ 0 := gj_neq hc344668 (show Int32.toInt 0 = 0 by decide)
      have bo344665' : gB o344665 1 1 := ⟨by omega, by omega⟩
      refine G_aload_n 1 dr_cX17_coloured_27 rfl ?_
      refine G_aload_n 0 dr_cX17_coloured_28 rfl ?_
      refine Gp_get 17 hm344585 he344586 dr_cX17_coloured_29 (gk_X17 D I) (Nat.le_of_ble_eq_true rfl) wr_7_91 rfl ?_
      refine G_aload_n 1 dr_cX17_coloured_32 rfl ?_
      refine Gp_get 3 hm344635 he344636 dr_cX17_coloured_33 (gk_X15 D I) (Nat.le_of_ble_eq_true rfl) wr_9_190 rfl ?_
      refine Gp_iald 0 hm344632 he344633 dr_cX17_coloured_36 rfl (gB_inr (by omega) (by omega)) (G_nam fun z344696 hz344696 => ?_)
      have bz344696 : gB z344696 (-1) 31 := by rw [hz344696]; exact bf344634 _
      have r344697 : 0 ≤ z344696.toInt := by rw [hz344696]; exact cq344649 _ (Or.inr (Or.inr ⟨by omega, rfl⟩))
      have bz344696' : gB z344696 0 31 := ⟨by omega, by omega⟩
      refine Gp_put 3 hm344635 he344636 dr_cX17_coloured_37 (gk_X15 D I) (Nat.le_of_ble_eq_true rfl) wr_9_190 rfl rfl rfl (Nat.le_of_ble_eq_true rfl) (fun F344698 e344699 n344700 => ?_)
      have he344701 : F344698 q344581 = .inr (22, [.ref (γ 9 0), .ref (γ 9 1), .ref (γ 9 2), .ref (γ 9 3), .ref (γ 9 4), .ref (γ 9 5), .ref (γ 9 6), .ref (γ 9 7), .ref (γ 9 8), .int p344589, .int p344590, .int p344591, .int p344592, .int p344593, .int p344594, .ref (γ 9 15), .ref (γ 9 16), .ref (γ 9 17), .ref (γ 9 18), .ref (γ 9 19), .ref (γ 9 20), .ref (γ 9 21), .ref (γ 9 22), .int p344595, .int p344596, .int p344597, .int p344598, .int p344599, .ref q344587, .ref (γ 9 29), .int p344600, .ref (γ 9 31), .int p344601, .int p344602, .int p344603, .ref q344588]) := (n344700 q344581 (rn_oo he344586 he344636 (by decide))).trans he344586
      have he344702 : F344698 (γ 9 17) = .inl (I .int, 2000, .inl f344634) := (n344700 (γ 9 17) (rn_ao he344633 he344636)).trans he344633
      have he344703 : F344698 q344582 = .inr (20, [.int p344637, .int p344638, .int p344639, .int z344696, .int p344641, .int p344642, .int p344643]) := e344699
      have hs344704 : rStr γ [1] F344580 F344698 := rStr_pu2 (rStr_rf (γ := γ) (W := [1]) (F := F344580)) n344700 htq344582 (by decide)
      have kp344705 : F344698 q344581 = F344580 q344581 := n344700 q344581 (rn_ty htq344581 htq344582 (by decide))
      have kp344706 : F344698 (γ 9 3) = F344580 (γ 9 3) := n344700 (γ 9 3) (rn_ty ht344609 htq344582 (by decide))
      have kp344707 : F344698 (γ 9 17) = F344580 (γ 9 17) := n344700 (γ 9 17) (rn_ty ht344617 htq344582 (by decide))
      refine G_aload_n 1 dr_cX17_coloured_40 rfl ?_
      have hT344708 : RS D I P344579 F344698 γ el := RS_set hT n344700 htq344582 (by decide) ⟨p344637, p344638, p344639, z344696, p344641, p344642, p344643, he344703, bp344637, bp344638, bp344641, bp344642, bp344643, (by omega), (by omega), (by omega), (by omega), (by omega)⟩
      have of344709 : ∀ b, b ≠ q344582 → F344698 b = F344580 b := fun b hb => n344700 b hb
      refine Gw_callV (As := []) (gV_ok D I) (cp_222448_Row_sets l hl0 D I P344579 F344698 q344582 p344637 p344638 p344639 z344696 p344641 p344642 p344643 hm344635 he344703 bp344637 bp344638 bp344641 bp344642 bp344643) dr_cX17_coloured_41 ⟨wr_10_181, wr_1_39, wr_10_184, by decide, rfl, (Nat.le_of_ble_eq_true rfl), (Nat.le_of_ble_eq_true rfl)⟩ wr_10_182 wr_10_183 hm344635 he344703 rfl (show 0 + 0 ≤ 0 by first | omega | decide) (show 0 + 0 ≤ 0 by first | omega | decide) (Nat.le_of_ble_eq_true rfl) (fun r344713 w344714 dc344710 ds344711 hp344712 => ?_) (fun _ _ _ _ _ z => z.elim)
      obtain ⟨o344715, rfl, rfl, hdc, hds, bo344715, x344716, ht344717⟩ := hp344712
      change G _ _ _ _ _ _ _ (.int o344715 :: _) _ _ _
      refine G_widen (cs' := 0) (sl' := 0) (by omega) (by omega) ?_
      refine G_if_eq 60 dr_cX17_coloured_44 (by decide +kernel) (fun hc344718 => ?_) (fun hc344718 => ?_)
      · have r344719 : o344715.toInt = 0 := gj_eq hc344718 (show Int32.toInt 0 = 0 by decide)
        have bo344715' : gB o344715 0 0 := ⟨by omega, by omega⟩
        exact G_vretA dr_cX17_coloured_60 rfl (Nat.le_of_ble_eq_true rfl) (Nat.le_of_ble_eq_true rfl) ⟨F344698, rfl, rfl, hT344708, hs344704, (Nat.le_of_ble_eq_true rfl), (Nat.le_of_ble_eq_true rfl), of344709, kp344705, kp344706, kp344707⟩
      · have r344720 : o344715.toInt ≠ 0 := gj_neq hc344718 (show Int32.toInt 0 = 0 by decide)
        have bo344715' : gB o344715 1 1 := ⟨by omega, by omega⟩
        refine G_aload_n 1 dr_cX17_coloured_47 rfl ?_
        refine G_aload_n 0 dr_cX17_coloured_48 rfl ?_
        refine Gp_get 17 hm344585 he344701 dr_cX17_coloured_49 (gk_X17 D I) (Nat.le_of_ble_eq_true rfl) wr_7_91 rfl ?_
        refine G_aload_n 1 dr_cX17_coloured_52 rfl ?_
        refine Gp_get 1 hm344635 he344703 dr_cX17_coloured_53 (gk_X15 D I) (Nat.le_of_ble_eq_true rfl) wr_9_182 rfl ?_
        refine Gp_iald 0 hm344632 he344702 dr_cX17_coloured_56 rfl (gB_in bp344638 (by decide) (by decide)) (G_nam fun z344721 hz344721 => ?_)
        have bz344721 : gB z344721 (-1) 31 := by rw [hz344721]; exact bf344634 _
        have r344722 : 0 ≤ z344721.toInt := by rw [hz344721]; exact cq344649 _ (Or.inl ⟨by omega, rfl⟩)
        have bz344721' : gB z344721 0 31 := ⟨by omega, by omega⟩
        refine Gp_put 1 hm344635 he344703 dr_cX17_coloured_57 (gk_X15 D I) (Nat.le_of_ble_eq_true rfl) wr_9_182 rfl rfl rfl (Nat.le_of_ble_eq_true rfl) (fun F344723 e344724 n344725 => ?_)
        have he344726 : F344723 q344581 = .inr (22, [.ref (γ 9 0), .ref (γ 9 1), .ref (γ 9 2), .ref (γ 9 3), .ref (γ 9 4), .ref (γ 9 5), .ref (γ 9 6), .ref (γ 9 7), .ref (γ 9 8), .int p344589, .int p344590, .int p344591, .int p344592, .int p344593, .int p344594, .ref (γ 9 15), .ref (γ 9 16), .ref (γ 9 17), .ref (γ 9 18), .ref (γ 9 19), .ref (γ 9 20), .ref (γ 9 21), .ref (γ 9 22), .int p344595, .int p344596, .int p344597, .int p344598, .int p344599, .ref q344587, .ref (γ 9 29), .int p344600, .ref (γ 9 31), .int p344601, .int p344602, .int p344603, .ref q344588]) := (n344725 q344581 (rn_oo he344701 he344703 (by decide))).trans he344701
        have he344727 : F344723 (γ 9 17) = .inl (I .int, 2000, .inl f344634) := (n344725 (γ 9 17) (rn_ao he344702 he344703)).trans he344702
        have he344728 : F344723 q344582 = .inr (20, [.int p344637, .int z344721, .int p344639, .int z344696, .int p344641, .int p344642, .int p344643]) := e344724
        have hs344729 : rStr γ [1] F344580 F344723 := rStr_pu2 hs344704 n344725 htq344582 (by decide)
        have kp344730 : F344723 q344581 = F344580 q344581 := (n344725 q344581 (rn_ty htq344581 htq344582 (by decide))).trans kp344705
        have kp344731 : F344723 (γ 9 3) = F344580 (γ 9 3) := (n344725 (γ 9 3) (rn_ty ht344609 htq344582 (by decide))).trans kp344706
        have kp344732 : F344723 (γ 9 17) = F344580 (γ 9 17) := (n344725 (γ 9 17) (rn_ty ht344617 htq344582 (by decide))).trans kp344707
        have hT344733 : RS D I P344579 F344723 γ el := RS_set hT344708 n344725 htq344582 (by decide) ⟨p344637, z344721, p344639, z344696, p344641, p344642, p344643, he344728, bp344637, (gB_w bz344721' (by decide) (by decide)), bp344641, bp344642, bp344643, (by omega), (by omega), (by omega), (by omega), (by omega)⟩
        have of344734 : ∀ b, b ≠ q344582 → F344723 b = F344580 b := fun b hb => (n344725 b hb).trans (of344709 b hb)
        exact G_vretA dr_cX17_coloured_60 rfl (Nat.le_of_ble_eq_true rfl) (Nat.le_of_ble_eq_true rfl) ⟨F344723, rfl, rfl, hT344733, hs344729, (Nat.le_of_ble_eq_true rfl), (Nat.le_of_ble_eq_true rfl), of344734, kp344730, kp344731, kp344732⟩
  · have r344735 : o344655.toInt ≠ 0 := gj_neq hc344658 (show Int32.toInt 0 = 0 by decide)
    have bo344655' : gB o344655 1 1 := ⟨by omega, by omega⟩
    refine G_aload_n 1 dr_cX17_coloured_7 rfl ?_
    refine G_aload_n 0 dr_cX17_coloured_8 rfl ?_
    refine Gp_get 17 hm344585 he344586 dr_cX17_coloured_9 (gk_X17 D I) (Nat.le_of_ble_eq_true rfl) wr_7_91 rfl ?_
    refine G_aload_n 1 dr_cX17_coloured_12 rfl ?_
    refine Gp_get 2 hm344635 he344636 dr_cX17_coloured_13 (gk_X15 D I) (Nat.le_of_ble_eq_true rfl) wr_9_186 rfl ?_
    refine Gp_iald 0 hm344632 he344633 dr_cX17_coloured_16 rfl (gB_inr (by omega) (by omega)) (G_nam fun z344736 hz344736 => ?_)
    have bz344736 : gB z344736 (-1) 31 := by rw [hz344736]; exact bf344634 _
    have r344737 : 0 ≤ z344736.toInt := by rw [hz344736]; exact cq344649 _ (Or.inr (Or.inl ⟨by omega, rfl⟩))
    have bz344736' : gB z344736 0 31 := ⟨by omega, by omega⟩
    refine Gp_put 2 hm344635 he344636 dr_cX17_coloured_17 (gk_X15 D I) (Nat.le_of_ble_eq_true rfl) wr_9_186 rfl rfl rfl (Nat.le_of_ble_eq_true rfl) (fun F344738 e344739 n344740 => ?_)
    have he344741 : F344738 q344581 = .inr (22, [.ref (γ 9 0), .ref (γ 9 1), .ref (γ 9 2), .ref (γ 9 3), .ref (γ 9 4), .ref (γ 9 5), .ref (γ 9 6), .ref (γ 9 7), .ref (γ 9 8), .int p344589, .int p344590, .int p344591, .int p344592, .int p344593, .int p344594, .ref (γ 9 15), .ref (γ 9 16), .ref (γ 9 17), .ref (γ 9 18), .ref (γ 9 19), .ref (γ 9 20), .ref (γ 9 21), .ref (γ 9 22), .int p344595, .int p344596, .int p344597, .int p344598, .int p344599, .ref q344587, .ref (γ 9 29), .int p344600, .ref (γ 9 31), .int p344601, .int p344602, .int p344603, .ref q344588]) := (n344740 q344581 (rn_oo he344586 he344636 (by decide))).trans he344586
    have he344742 : F344738 (γ 9 17) = .inl (I .int, 2000, .inl f344634) := (n344740 (γ 9 17) (rn_ao he344633 he344636)).trans he344633
    have he344743 : F344738 q344582 = .inr (20, [.int p344637, .int p344638, .int z344736, .int p344640, .int p344641, .int p344642, .int p344643]) := e344739
    have hs344744 : rStr γ [1] F344580 F344738 := rStr_pu2 (rStr_rf (γ := γ) (W := [1]) (F := F344580)) n344740 htq344582 (by decide)
    have kp344745 : F344738 q344581 = F344580 q344581 := n344740 q344581 (rn_ty htq344581 htq344582 (by decide))
    have kp344746 : F344738 (γ 9 3) = F344580 (γ 9 3) := n344740 (γ 9 3) (rn_ty ht344609 htq344582 (by decide))
    have kp344747 : F344738 (γ 9 17) = F344580 (γ 9 17) := n344740 (γ 9 17) (rn_ty ht344617 htq344582 (by decide))
    refine G_aload_n 1 dr_cX17_coloured_20 rfl ?_
    have hT344748 : RS D I P344579 F344738 γ el := RS_set hT n344740 htq344582 (by decide) ⟨p344637, p344638, z344736, p344640, p344641, p344642, p344643, he344743, bp344637, bp344638, bp344641, bp344642, bp344643, (by omega), (by omega), (by omega), (by omega), (by omega)⟩
    have of344749 : ∀ b, b ≠ q344582 → F344738 b = F344580 b := fun b hb => n344740 b hb
    refine Gw_callV (As := []) (gV_ok D I) (cp_222427_Row_usesB l hl0 D I P344579 F344738 q344582 p344637 p344638 z344736 p344640 p344641 p344642 p344643 hm344635 he344743 bp344637 bp344638 bp344641 bp344642 bp344643) dr_cX17_coloured_21 ⟨wr_10_196, wr_1_39, wr_10_199, by decide, rfl, (Nat.le_of_ble_eq_true rfl), (Nat.le_of_ble_eq_true rfl)⟩ wr_10_197 wr_10_198 hm344635 he344743 rfl (show 0 + 0 ≤ 0 by first | omega | decide) (show 0 + 0 ≤ 0 by first | omega | decide) (Nat.le_of_ble_eq_true rfl) (fun r344753 w344754 dc344750 ds344751 hp344752 => ?_) (fun _ _ _ _ _ z => z.elim)
    obtain ⟨o344755, rfl, rfl, hdc, hds, bo344755, x344756, ht344757⟩ := hp344752
    change G _ _ _ _ _ _ _ (.int o344755 :: _) _ _ _
    refine G_widen (cs' := 0) (sl' := 0) (by omega) (by omega) ?_
    refine G_if_eq 40 dr_cX17_coloured_24 (by decide +kernel) (fun hc344758 => ?_) (fun hc344758 => ?_)
    · have r344759 : o344755.toInt = 0 := gj_eq hc344758 (show Int32.toInt 0 = 0 by decide)
      have bo344755' : gB o344755 0 0 := ⟨by omega, by omega⟩
      refine G_aload_n 1 dr_cX17_coloured_40 rfl ?_
      refine Gw_callV (As := []) (gV_ok D I) (cp_222448_Row_sets l hl0 D I P344579 F344738 q344582 p344637 p344638 z344736 p344640 p344641 p344642 p344643 hm344635 he344743 bp344637 bp344638 bp344641 bp344642 bp344643) dr_cX17_coloured_41 ⟨wr_10_181, wr_1_39, wr_10_184, by decide, rfl, (Nat.le_of_ble_eq_true rfl), (Nat.le_of_ble_eq_true rfl)⟩ wr_10_182 wr_10_183 hm344635 he344743 rfl (show 0 + 0 ≤ 0 by first | omega | decide) (show 0 + 0 ≤ 0 by first | omega | decide) (Nat.le_of_ble_eq_true rfl) (fun r344763 w344764 dc344760 ds344761 hp344762 => ?_) (fun _ _ _ _ _ z => z.elim)
      obtain ⟨o344765, rfl, rfl, hdc, hds, bo344765, x344766, ht344767⟩ := hp344762
      change G _ _ _ _ _ _ _ (.int o344765 :: _) _ _ _
      refine G_widen (cs' := 0) (sl' := 0) (by omega) (by omega) ?_
      refine G_if_eq 60 dr_cX17_coloured_44 (by decide +kernel) (fun hc344768 => ?_) (fun hc344768 => ?_)
      · have r344769 : o344765.toInt = 0 := gj_eq hc344768 (show Int32.toInt 0 = 0 by decide)
        have bo344765' : gB o344765 0 0 := ⟨by omega, by omega⟩
        exact G_vretA dr_cX17_coloured_60 rfl (Nat.le_of_ble_eq_true rfl) (Nat.le_of_ble_eq_true rfl) ⟨F344738, rfl, rfl, hT344748, hs344744, (Nat.le_of_ble_eq_true rfl), (Nat.le_of_ble_eq_true rfl), of344749, kp344745, kp344746, kp344747⟩
      · have r344770 : o344765.toInt ≠ 0 := gj_neq hc344768 (show Int32.toInt 0 = 0 by decide)
        have bo344765' : gB o344765 1 1 := ⟨by omega, by omega⟩
        refine G_aload_n 1 dr_cX17_coloured_47 rfl ?_
        refine G_aload_n 0 dr_cX17_coloured_48 rfl ?_
        refine Gp_get 17 hm344585 he344741 dr_cX17_coloured_49 (gk_X17 D I) (Nat.le_of_ble_eq_true rfl) wr_7_91 rfl ?_
        refine G_aload_n 1 dr_cX17_coloured_52 rfl ?_
        refine Gp_get 1 hm344635 he344743 dr_cX17_coloured_53 (gk_X15 D I) (Nat.le_of_ble_eq_true rfl) wr_9_182 rfl ?_
        refine Gp_iald 0 hm344632 he344742 dr_cX17_coloured_56 rfl (gB_in bp344638 (by decide) (by decide)) (G_nam fun z344771 hz344771 => ?_)
        have bz344771 : gB z344771 (-1) 31 := by rw [hz344771]; exact bf344634 _
        have r344772 : 0 ≤ z344771.toInt := by rw [hz344771]; exact cq344649 _ (Or.inl ⟨by omega, rfl⟩)
        have bz344771' : gB z344771 0 31 := ⟨by omega, by omega⟩
        refine Gp_put 1 hm344635 he344743 dr_cX17_coloured_57 (gk_X15 D I) (Nat.le_of_ble_eq_true rfl) wr_9_182 rfl rfl rfl (Nat.le_of_ble_eq_true rfl) (fun F344773 e344774 n344775 => ?_)
        have he344776 : F344773 q344581 = .inr (22, [.ref (γ 9 0), .ref (γ 9 1), .ref (γ 9 2), .ref (γ 9 3), .ref (γ 9 4), .ref (γ 9 5), .ref (γ 9 6), .ref (γ 9 7), .ref (γ 9 8), .int p344589, .int p344590, .int p344591, .int p344592, .int p344593, .int p344594, .ref (γ 9 15), .ref (γ 9 16), .ref (γ 9 17), .ref (γ 9 18), .ref (γ 9 19), .ref (γ 9 20), .ref (γ 9 21), .ref (γ 9 22), .int p344595, .int p344596, .int p344597, .int p344598, .int p344599, .ref q344587, .ref (γ 9 29), .int p344600, .ref (γ 9 31), .int p344601, .int p344602, .int p344603, .ref q344588]) := (n344775 q344581 (rn_oo he344741 he344743 (by decide))).trans he344741
        have he344777 : F344773 (γ 9 17) = .inl (I .int, 2000, .inl f344634) := (n344775 (γ 9 17) (rn_ao he344742 he344743)).trans he344742
        have he344778 : F344773 q344582 = .inr (20, [.int p344637, .int z344771, .int z344736, .int p344640, .int p344641, .int p344642, .int p344643]) := e344774
        have hs344779 : rStr γ [1] F344580 F344773 := rStr_pu2 hs344744 n344775 htq344582 (by decide)
        have kp344780 : F344773 q344581 = F344580 q344581 := (n344775 q344581 (rn_ty htq344581 htq344582 (by decide))).trans kp344745
        have kp344781 : F344773 (γ 9 3) = F344580 (γ 9 3) := (n344775 (γ 9 3) (rn_ty ht344609 htq344582 (by decide))).trans kp344746
        have kp344782 : F344773 (γ 9 17) = F344580 (γ 9 17) := (n344775 (γ 9 17) (rn_ty ht344617 htq344582 (by decide))).trans kp344747
        have hT344783 : RS D I P344579 F344773 γ el := RS_set hT344748 n344775 htq344582 (by decide) ⟨p344637, z344771, z344736, p344640, p344641, p344642, p344643, he344778, bp344637, (gB_w bz344771' (by decide) (by decide)), bp344641, bp344642, bp344643, (by omega), (by omega), (by omega), (by omega), (by omega)⟩
        have of344784 : ∀ b, b ≠ q344582 → F344773 b = F344580 b := fun b hb => (n344775 b hb).trans (of344749 b hb)
        exact G_vretA dr_cX17_coloured_60 rfl (Nat.le_of_ble_eq_true rfl) (Nat.le_of_ble_eq_true rfl) ⟨F344773, rfl, rfl, hT344783, hs344779, (Nat.le_of_ble_eq_true rfl), (Nat.le_of_ble_eq_true rfl), of344784, kp344780, kp344781, kp344782⟩
    · have r344785 : o344755.toInt ≠ 0 := gj_neq hc344758 (show Int32.toInt 0 = 0 by decide)
      have bo344755' : gB o344755 1 1 := ⟨by omega, by omega⟩
      refine G_aload_n 1 dr_cX17_coloured_27 rfl ?_
      refine G_aload_n 0 dr_cX17_coloured_28 rfl ?_
      refine Gp_get 17 hm344585 he344741 dr_cX17_coloured_29 (gk_X17 D I) (Nat.le_of_ble_eq_true rfl) wr_7_91 rfl ?_
      refine G_aload_n 1 dr_cX17_coloured_32 rfl ?_
      refine Gp_get 3 hm344635 he344743 dr_cX17_coloured_33 (gk_X15 D I) (Nat.le_of_ble_eq_true rfl) wr_9_190 rfl ?_
      refine Gp_iald 0 hm344632 he344742 dr_cX17_coloured_36 rfl (gB_inr (by omega) (by omega)) (G_nam fun z344786 hz344786 => ?_)
      have bz344786 : gB z344786 (-1) 31 := by rw [hz344786]; exact bf344634 _
      have r344787 : 0 ≤ z344786.toInt := by rw [hz344786]; exact cq344649 _ (Or.inr (Or.inr ⟨by omega, rfl⟩))
      have bz344786' : gB z344786 0 31 := ⟨by omega, by omega⟩
      refine Gp_put 3 hm344635 he344743 dr_cX17_coloured_37 (gk_X15 D I) (Nat.le_of_ble_eq_true rfl) wr_9_190 rfl rfl rfl (Nat.le_of_ble_eq_true rfl) (fun F344788 e344789 n344790 => ?_)
      have he344791 : F344788 q344581 = .inr (22, [.ref (γ 9 0), .ref (γ 9 1), .ref (γ 9 2), .ref (γ 9 3), .ref (γ 9 4), .ref (γ 9 5), .ref (γ 9 6), .ref (γ 9 7), .ref (γ 9 8), .int p344589, .int p344590, .int p344591, .int p344592, .int p344593, .int p344594, .ref (γ 9 15), .ref (γ 9 16), .ref (γ 9 17), .ref (γ 9 18), .ref (γ 9 19), .ref (γ 9 20), .ref (γ 9 21), .ref (γ 9 22), .int p344595, .int p344596, .int p344597, .int p344598, .int p344599, .ref q344587, .ref (γ 9 29), .int p344600, .ref (γ 9 31), .int p344601, .int p344602, .int p344603, .ref q344588]) := (n344790 q344581 (rn_oo he344741 he344743 (by decide))).trans he344741
      have he344792 : F344788 (γ 9 17) = .inl (I .int, 2000, .inl f344634) := (n344790 (γ 9 17) (rn_ao he344742 he344743)).trans he344742
      have he344793 : F344788 q344582 = .inr (20, [.int p344637, .int p344638, .int z344736, .int z344786, .int p344641, .int p344642, .int p344643]) := e344789
      have hs344794 : rStr γ [1] F344580 F344788 := rStr_pu2 hs344744 n344790 htq344582 (by decide)
      have kp344795 : F344788 q344581 = F344580 q344581 := (n344790 q344581 (rn_ty htq344581 htq344582 (by decide))).trans kp344745
      have kp344796 : F344788 (γ 9 3) = F344580 (γ 9 3) := (n344790 (γ 9 3) (rn_ty ht344609 htq344582 (by decide))).trans kp344746
      have kp344797 : F344788 (γ 9 17) = F344580 (γ 9 17) := (n344790 (γ 9 17) (rn_ty ht344617 htq344582 (by decide))).trans kp344747
      refine G_aload_n 1 dr_cX17_coloured_40 rfl ?_
      have hT344798 : RS D I P344579 F344788 γ el := RS_set hT344748 n344790 htq344582 (by decide) ⟨p344637, p344638, z344736, z344786, p344641, p344642, p344643, he344793, bp344637, bp344638, bp344641, bp344642, bp344643, (by omega), (by omega), (by omega), (by omega), (by omega)⟩
      have of344799 : ∀ b, b ≠ q344582 → F344788 b = F344580 b := fun b hb => (n344790 b hb).trans (of344749 b hb)
      refine Gw_callV (As := []) (gV_ok D I) (cp_222448_Row_sets l hl0 D I P344579 F344788 q344582 p344637 p344638 z344736 z344786 p344641 p344642 p344643 hm344635 he344793 bp344637 bp344638 bp344641 bp344642 bp344643) dr_cX17_coloured_41 ⟨wr_10_181, wr_1_39, wr_10_184, by decide, rfl, (Nat.le_of_ble_eq_true rfl), (Nat.le_of_ble_eq_true rfl)⟩ wr_10_182 wr_10_183 hm344635 he344793 rfl (show 0 + 0 ≤ 0 by first | omega | decide) (show 0 + 0 ≤ 0 by first | omega | decide) (Nat.le_of_ble_eq_true rfl) (fun r344803 w344804 dc344800 ds344801 hp344802 => ?_) (fun _ _ _ _ _ z => z.elim)
      obtain ⟨o344805, rfl, rfl, hdc, hds, bo344805, x344806, ht344807⟩ := hp344802
      change G _ _ _ _ _ _ _ (.int o344805 :: _) _ _ _
      refine G_widen (cs' := 0) (sl' := 0) (by omega) (by omega) ?_
      refine G_if_eq 60 dr_cX17_coloured_44 (by decide +kernel) (fun hc344808 => ?_) (fun hc344808 => ?_)
      · have r344809 : o344805.toInt = 0 := gj_eq hc344808 (show Int32.toInt 0 = 0 by decide)
        have bo344805' : gB o344805 0 0 := ⟨by omega, by omega⟩
        exact G_vretA dr_cX17_coloured_60 rfl (Nat.le_of_ble_eq_true rfl) (Nat.le_of_ble_eq_true rfl) ⟨F344788, rfl, rfl, hT344798, hs344794, (Nat.le_of_ble_eq_true rfl), (Nat.le_of_ble_eq_true rfl), of344799, kp344795, kp344796, kp344797⟩
      · have r344810 : o344805.toInt ≠ 0 := gj_neq hc344808 (show Int32.toInt 0 = 0 by decide)
        have bo344805' : gB o344805 1 1 := ⟨by omega, by omega⟩
        refine G_aload_n 1 dr_cX17_coloured_47 rfl ?_
        refine G_aload_n 0 dr_cX17_coloured_48 rfl ?_
        refine Gp_get 17 hm344585 he344791 dr_cX17_coloured_49 (gk_X17 D I) (Nat.le_of_ble_eq_true rfl) wr_7_91 rfl ?_
        refine G_aload_n 1 dr_cX17_coloured_52 rfl ?_
        refine Gp_get 1 hm344635 he344793 dr_cX17_coloured_53 (gk_X15 D I) (Nat.le_of_ble_eq_true rfl) wr_9_182 rfl ?_
        refine Gp_iald 0 hm344632 he344792 dr_cX17_coloured_56 rfl (gB_in bp344638 (by decide) (by decide)) (G_nam fun z344811 hz344811 => ?_)
        have bz344811 : gB z344811 (-1) 31 := by rw [hz344811]; exact bf344634 _
        have r344812 : 0 ≤ z344811.toInt := by rw [hz344811]; exact cq344649 _ (Or.inl ⟨by omega, rfl⟩)
        have bz344811' : gB z344811 0 31 := ⟨by omega, by omega⟩
        refine Gp_put 1 hm344635 he344793 dr_cX17_coloured_57 (gk_X15 D I) (Nat.le_of_ble_eq_true rfl) wr_9_182 rfl rfl rfl (Nat.le_of_ble_eq_true rfl) (fun F344813 e344814 n344815 => ?_)
        have he344816 : F344813 q344581 = .inr (22, [.ref (γ 9 0), .ref (γ 9 1), .ref (γ 9 2), .ref (γ 9 3), .ref (γ 9 4), .ref (γ 9 5), .ref (γ 9 6), .ref (γ 9 7), .ref (γ 9 8), .int p344589, .int p344590, .int p344591, .int p344592, .int p344593, .int p344594, .ref (γ 9 15), .ref (γ 9 16), .ref (γ 9 17), .ref (γ 9 18), .ref (γ 9 19), .ref (γ 9 20), .ref (γ 9 21), .ref (γ 9 22), .int p344595, .int p344596, .int p344597, .int p344598, .int p344599, .ref q344587, .ref (γ 9 29), .int p344600, .ref (γ 9 31), .int p344601, .int p344602, .int p344603, .ref q344588]) := (n344815 q344581 (rn_oo he344791 he344793 (by decide))).trans he344791
        have he344817 : F344813 (γ 9 17) = .inl (I .int, 2000, .inl f344634) := (n344815 (γ 9 17) (rn_ao he344792 he344793)).trans he344792
        have he344818 : F344813 q344582 = .inr (20, [.int p344637, .int z344811, .int z344736, .int z344786, .int p344641, .int p344642, .int p344643]) := e344814
        have hs344819 : rStr γ [1] F344580 F344813 := rStr_pu2 hs344794 n344815 htq344582 (by decide)
        have kp344820 : F344813 q344581 = F344580 q344581 := (n344815 q344581 (rn_ty htq344581 htq344582 (by decide))).trans kp344795
        have kp344821 : F344813 (γ 9 3) = F344580 (γ 9 3) := (n344815 (γ 9 3) (rn_ty ht344609 htq344582 (by decide))).trans kp344796
        have kp344822 : F344813 (γ 9 17) = F344580 (γ 9 17) := (n344815 (γ 9 17) (rn_ty ht344617 htq344582 (by decide))).trans kp344797
        have hT344823 : RS D I P344579 F344813 γ el := RS_set hT344798 n344815 htq344582 (by decide) ⟨p344637, z344811, z344736, z344786, p344641, p344642, p344643, he344818, bp344637, (gB_w bz344811' (by decide) (by decide)), bp344641, bp344642, bp344643, (by omega), (by omega), (by omega), (by omega), (by omega)⟩
        have of344824 : ∀ b, b ≠ q344582 → F344813 b = F344580 b := fun b hb => (n344815 b hb).trans (of344799 b hb)
        exact G_vretA dr_cX17_coloured_60 rfl (Nat.le_of_ble_eq_true rfl) (Nat.le_of_ble_eq_true rfl) ⟨F344813, rfl, rfl, hT344823, hs344819, (Nat.le_of_ble_eq_true rfl), (Nat.le_of_ble_eq_true rfl), of344824, kp344820, kp344821, kp344822⟩
abbrev ky_344832_SpillForgeModel_share : gKey := (cX17_share, 7, "SpillForgeModel", none, [], "share", fun _ _ => True)
def pt_344832_SpillForgeModel_share (D : va_G) (I : FieldType → ClassId) (γ el : Nat → Nat → Nat) (P344826 : List Nat) (F344827 : Nat → va_E) (q344828 : Nat) (q344829 : Nat) : Option Value → va_W → Nat → Nat → Prop := fun r w dc ds => ∃ (F366449 : Nat → va_E), r = none ∧ w = va_pl P344826 F366449 ∧ RS D I P344826 F366449 γ el ∧ rStr γ [1] F344827 F366449 ∧ dc ≤ 0 ∧ ds ≤ 0 ∧ rFs γ (γ 1 q344829) F344827 F366449 ∧ mKp (F344827 q344828) (F366449 q344828)
set_option maxRecDepth 100000 in
set_option maxHeartbeats 4000000 in
theorem ct_344832_SpillForgeModel_share (l : Launch) (hl0 : l.stackTraces = false) (D : va_G) (I : FieldType → ClassId) (γ el : Nat → Nat → Nat) (P344826 : List Nat) (F344827 : Nat → va_E) (q344828 : Nat) (q344829 : Nat) (hT : RS D I P344826 F344827 γ el) (htq344828 : rKd γ q344828 10) (htq344829 : rKd γ q344829 9) (x344830 : 0 < γ 6 (γ 1 q344829)) (x344831 : (((γ 7 (γ 1 q344829) : Nat) : Int) ≤ (fI (F344827 q344828) 11).toInt)) : CtA (gV D I) l yX17_share cX17_share 7 none 6 141 0 0 [.ref q344828, .ref q344829] (va_pl P344826 F344827) (pt_344832_SpillForgeModel_share D I γ el P344826 F344827 q344828 q344829) gNA := by
  refine CtA_of hl0 (by decide) (Nat.le_of_ble_eq_true rfl) ?_
  have hm344833 : q344828 ∈ P344826 := RS_m hT htq344828 (by decide)
  refine rk10_e (show rk_10 γ (F344827 q344828) from RS_o hT htq344828) (fun q344835 q344836 p344837 p344838 p344839 p344840 p344841 p344842 p344843 p344844 p344845 p344846 p344847 p344848 p344849 p344850 p344851 he344834 hB344878 ht344852 ht344853 ht344854 ht344855 ht344856 ht344857 ht344858 ht344859 ht344860 ht344861 ht344862 ht344863 ht344864 ht344865 ht344866 ht344867 ht344868 ht344869 ht344870 ht344871 ht344872 ht344873 ht344874 ht344875 hB344879 => ?_)
  have hm344880 : (γ 9 19) ∈ P344826 := RS_m hT ht344867 (by decide)
  obtain ⟨f344882, he344881, bf344882⟩ := show rk_21 I (F344827 (γ 9 19)) from RS_o hT ht344867
  have r344883 : (γ 7 (γ 1 q344829) : Int) ≤ p344839.toInt := by have z := x344831; rw [he344834] at z; exact z
  have bp344839 : gB p344839 0 100 := (hB344878.2.2.1)
  refine G_aload_n 0 dr_cX17_share_0 rfl ?_
  refine G_aload_n 1 dr_cX17_share_1 rfl ?_
  refine G_iconst 1 dr_cX17_share_2 (by decide +kernel) ?_
  refine Gw_callV (As := [.ref q344829, .int 1]) (gV_ok D I) (ct_277516_SpillForgeModel_graph l hl0 D I γ el P344826 F344827 q344828 q344829 1 hT htq344828 htq344829 (gB_w (gBl (show Int32.toInt 1 = 1 by decide)) (by decide) (by decide)) (by omega)) dr_cX17_share_3 ⟨wr_10_233, wr_1_14, wr_10_236, by decide, rfl, (Nat.le_of_ble_eq_true rfl), (Nat.le_of_ble_eq_true rfl)⟩ wr_10_235 wr_p_99 hm344833 he344834 rfl (show 0 + 0 ≤ 0 by first | omega | decide) (show 0 + 0 ≤ 0 by first | omega | decide) (Nat.le_of_ble_eq_true rfl) (fun r344887 w344888 dc344884 ds344885 hp344886 => ?_) (fun _ _ _ _ _ z => z.elim)
  obtain ⟨F344892, rfl, rfl, hT344893, hs344894, hdc, hds, x344889, x344890, ht344891⟩ := hp344886
  have hs344895 : rStr γ [1] F344827 F344892 := rStr_tr (rStr_rf (γ := γ) (W := [1]) (F := F344827)) (rStr_w hs344894 (by decide))
  have fs344896 : rFs γ (γ 1 q344829) F344827 F344892 := rFs_tr (rFs_rf) (rFs_0 hs344894)
  have kp344897 : F344892 q344828 = F344827 q344828 := x344890
  have mk344898 : mKp (F344827 q344828) (F344892 q344828) := mKp_tr mKp_rf (mKp_eq x344890)
  have he344899 : F344892 q344828 = .inr (22, [.ref (γ 9 0), .ref (γ 9 1), .ref (γ 9 2), .ref (γ 9 3), .ref (γ 9 4), .ref (γ 9 5), .ref (γ 9 6), .ref (γ 9 7), .ref (γ 9 8), .int p344837, .int p344838, .int p344839, .int p344840, .int p344841, .int p344842, .ref (γ 9 15), .ref (γ 9 16), .ref (γ 9 17), .ref (γ 9 18), .ref (γ 9 19), .ref (γ 9 20), .ref (γ 9 21), .ref (γ 9 22), .int p344843, .int p344844, .int p344845, .int p344846, .int p344847, .ref q344835, .ref (γ 9 29), .int p344848, .ref (γ 9 31), .int p344849, .int p344850, .int p344851, .ref q344836]) := (x344890).trans he344834
  rw [show Int32.toInt 1 = 1 from by decide] at x344889
  change G _ _ _ _ _ _ _ _ _ _ _
  refine G_widen (cs' := 0) (sl' := 0) (by omega) (by omega) ?_
  refine G_iconst 0 dr_cX17_share_6 (by decide +kernel) ?_
  refine G_istore_n (L' := [(2, .int 0), (0, .ref q344828), (1, .ref q344829)]) dr_cX17_share_7 (Nat.le_of_ble_eq_true rfl) rfl ?_
  refine G_iconst 0 dr_cX17_share_8 (by decide +kernel) ?_
  refine G_istore_n (L' := [(3, .int 0), (2, .int 0), (0, .ref q344828), (1, .ref q344829)]) dr_cX17_share_9 (Nat.le_of_ble_eq_true rfl) rfl ?_
  have hlp10_364901 : ∀ (n10_364901 : Nat) (F364894 : Nat → va_E) (g364892 : Int32) (g364893 : Int32), gB g364892 0 100 → gB g364893 0 1999 → RS D I P344826 F364894 γ el → rStr γ [1] F344827 F364894 → (∀ q : Nat, (q : Int) < g364892.toInt → 0 ≤ (cB (F364894 (γ 9 19)) q).toInt ∧ (cB (F364894 (γ 9 19)) q).toInt ≤ q) → (g364893.toInt ≤ 100) → (F364894 q344828 = F344827 q344828) → rFs γ (γ 1 q344829) F344827 F364894 → mKp (F344827 q344828) (F364894 q344828) → ((101 : Int) - g364892.toInt).toNat < n10_364901 → G (gV D I) l (gRm 6 141 0 0) (gMA (gV D I) (pt_344832_SpillForgeModel_share D I γ el P344826 F344827 q344828 q344829) gNA 0 0) ky_344832_SpillForgeModel_share 10 [(3, .int g364892), (2, .int g364893), (0, .ref q344828), (1, .ref q344829)] [] (va_pl P344826 F364894) 0 0 := by
    intro n10_364901
    induction n10_364901 with
    | zero => intro F364894 g364892 g364893 bg364892 bg364893 hT364895 hs364896 x364897 x364898 x364899 x364900 x364901 hm10_364901; exact absurd hm10_364901 (Nat.not_lt_zero _)
    | succ n10_364901 ih10_364901 =>
      intro F364894 g364892 g364893 bg364892 bg364893 hT364895 hs364896 x364897 x364898 x364899 x364900 x364901 hm10_364901
      have hs364903 : rStr γ [1] F344892 F364894 := fun b h0 hb hw => (hs364896 b h0 hb hw).trans (hs344895 b h0 hb hw).symm
      have hs364904 : rStr γ [1] F344827 F364894 := rStr_tr hs344895 hs364903
      have he364905 : F364894 q344828 = .inr (22, [.ref (γ 9 0), .ref (γ 9 1), .ref (γ 9 2), .ref (γ 9 3), .ref (γ 9 4), .ref (γ 9 5), .ref (γ 9 6), .ref (γ 9 7), .ref (γ 9 8), .int p344837, .int p344838, .int p344839, .int p344840, .int p344841, .int p344842, .ref (γ 9 15), .ref (γ 9 16), .ref (γ 9 17), .ref (γ 9 18), .ref (γ 9 19), .ref (γ 9 20), .ref (γ 9 21), .ref (γ 9 22), .int p344843, .int p344844, .int p344845, .int p344846, .int p344847, .ref q344835, .ref (γ 9 29), .int p344848, .ref (γ 9 31), .int p344849, .int p344850, .int p344851, .ref q344836]) := x364899.trans he344834
      have hm364906 : q344828 ∈ P344826 := RS_m hT364895 htq344828 (by decide)
      have hm364907 : (γ 9 19) ∈ P344826 := RS_m hT364895 ht344867 (by decide)
      obtain ⟨f364909, he364908, bf364909⟩ := show rk_21 I (F364894 (γ 9 19)) from RS_o hT364895 ht344867
      have cq364910 := x364897
      rw [cB_of he364908] at cq364910
      refine G_iload_n 0 dr_cX17_share_10 rfl ?_
      refine G_aload_n 2 dr_cX17_share_11 rfl ?_
      refine Gp_get 11 hm364906 he364905 dr_cX17_share_12 (gk_X17 D I) (Nat.le_of_ble_eq_true rfl) wr_7_85 rfl ?_
      refine G_icmp_ge 151 dr_cX17_share_15 (by decide +kernel) (fun hc364911 => ?_) (fun hc364911 => ?_)
      · have r364912 : p344839.toInt ≤ g364892.toInt := gC_le hc364911
        refine G_iconst 0 dr_cX17_share_151 (by decide +kernel) ?_
        refine G_istore_n (L' := [(3, .int 0), (2, .int g364893), (0, .ref q344828), (1, .ref q344829)]) dr_cX17_share_152 (Nat.le_of_ble_eq_true rfl) rfl ?_
        have hlp153_365263 : ∀ (n153_365263 : Nat) (F365257 : Nat → va_E) (g365256 : Int32), gB g365256 0 1000000 → RS D I P344826 F365257 γ el → rStr γ [1] F344827 F365257 → (∀ q : Nat, (q : Int) < ((γ 7 (γ 1 q344829) : Nat) : Int) → 0 ≤ (cB (F365257 (γ 9 19)) q).toInt ∧ (cB (F365257 (γ 9 19)) q).toInt ≤ q) → (F365257 q344828 = F344827 q344828) → rFs γ (γ 1 q344829) F344827 F365257 → mKp (F344827 q344828) (F365257 q344828) → ((1000001 : Int) - g365256.toInt).toNat < n153_365263 → G (gV D I) l (gRm 6 141 0 0) (gMA (gV D I) (pt_344832_SpillForgeModel_share D I γ el P344826 F344827 q344828 q344829) gNA 0 0) ky_344832_SpillForgeModel_share 153 [(3, .int g365256), (2, .int g364893), (0, .ref q344828), (1, .ref q344829)] [] (va_pl P344826 F365257) 0 0 := by
          intro n153_365263
          induction n153_365263 with
          | zero => intro F365257 g365256 bg365256 hT365258 hs365259 x365260 x365261 x365262 x365263 hm153_365263; exact absurd hm153_365263 (Nat.not_lt_zero _)
          | succ n153_365263 ih153_365263 =>
            intro F365257 g365256 bg365256 hT365258 hs365259 x365260 x365261 x365262 x365263 hm153_365263
            have hs365265 : rStr γ [1] F364894 F365257 := fun b h0 hb hw => (hs365259 b h0 hb hw).trans (hs364896 b h0 hb hw).symm
            have hs365266 : rStr γ [1] F344827 F365257 := rStr_tr hs364896 hs365265
            have he365267 : F365257 q344828 = .inr (22, [.ref (γ 9 0), .ref (γ 9 1), .ref (γ 9 2), .ref (γ 9 3), .ref (γ 9 4), .ref (γ 9 5), .ref (γ 9 6), .ref (γ 9 7), .ref (γ 9 8), .int p344837, .int p344838, .int p344839, .int p344840, .int p344841, .int p344842, .ref (γ 9 15), .ref (γ 9 16), .ref (γ 9 17), .ref (γ 9 18), .ref (γ 9 19), .ref (γ 9 20), .ref (γ 9 21), .ref (γ 9 22), .int p344843, .int p344844, .int p344845, .int p344846, .int p344847, .ref q344835, .ref (γ 9 29), .int p344848, .ref (γ 9 31), .int p344849, .int p344850, .int p344851, .ref q344836]) := x365261.trans he344834
            have hm365268 : q344828 ∈ P344826 := RS_m hT365258 htq344828 (by decide)
            have hm365269 : (γ 9 19) ∈ P344826 := RS_m hT365258 ht344867 (by decide)
            obtain ⟨f365271, he365270, bf365271⟩ := show rk_21 I (F365257 (γ 9 19)) from RS_o hT365258 ht344867
            have cq365272 := x365260
            rw [cB_of he365270] at cq365272
            refine G_iload_n 0 dr_cX17_share_153 rfl ?_
            refine G_aload_n 3 dr_cX17_share_154 rfl ?_
            have hm365273 : q344829 ∈ P344826 := RS_m hT365258 htq344829 (by decide)
            obtain ⟨q365275, q365276, p365277, p365278, he365274, ht365294, ht365279, ht365280, ht365281, ht365282, r365283, r365284, r365285, r365286, r365287, r365288, r365289, r365290, r365291, r365292, r365293⟩ := show rk_9 γ el q344829 (F365257 q344829) from RS_o hT365258 htq344829
            have bp365277 : gB p365277 0 1000000 := ⟨by omega, by omega⟩
            have bp365278 : gB p365278 0 1000000 := ⟨by omega, by omega⟩
            refine Gw_callV (As := []) (gV_ok D I) (cp_12780_Code_size l hl0 D I P344826 F365257 q344829 q365275 q365276 p365277 p365278 hm365273 he365274) dr_cX17_share_155 ⟨wr_10_160, wr_1_15, wr_9_131, by decide, rfl, (Nat.le_of_ble_eq_true rfl), (Nat.le_of_ble_eq_true rfl)⟩ wr_9_129 wr_9_130 hm365273 he365274 rfl (show 0 + 0 ≤ 0 by first | omega | decide) (show 0 + 0 ≤ 0 by first | omega | decide) (Nat.le_of_ble_eq_true rfl) (fun r365298 w365299 dc365295 ds365296 hp365297 => ?_) (fun _ _ _ _ _ z => z.elim)
            obtain ⟨rfl, rfl, hdc, hds⟩ := hp365297
            change G _ _ _ _ _ _ _ (.int p365278 :: _) _ _ _
            refine G_widen (cs' := 0) (sl' := 0) (by omega) (by omega) ?_
            refine G_icmp_ge 246 dr_cX17_share_158 (by decide +kernel) (fun hc365300 => ?_) (fun hc365300 => ?_)
            · have r365301 : p365278.toInt ≤ g365256.toInt := gC_le hc365300
              refine G_aload_n 2 dr_cX17_share_246 rfl ?_
              refine G_iload_n 1 dr_cX17_share_247 rfl ?_
              refine Gp_put 11 hm365268 he365267 dr_cX17_share_248 (gk_X17 D I) (Nat.le_of_ble_eq_true rfl) wr_7_85 rfl rfl rfl (Nat.le_of_ble_eq_true rfl) (fun F365302 e365303 n365304 => ?_)
              have he365305 : F365302 (γ 9 19) = .inl (I .int, 2000, .inl f365271) := (n365304 (γ 9 19) (rn_ao he365270 he365267)).trans he365270
              have he365306 : F365302 q344829 = .inr (18, [.ref q365275, .ref q365276, .int p365277, .int p365278]) := (n365304 q344829 (rn_oo he365274 he365267 (by decide))).trans he365274
              have he365307 : F365302 q344828 = .inr (22, [.ref (γ 9 0), .ref (γ 9 1), .ref (γ 9 2), .ref (γ 9 3), .ref (γ 9 4), .ref (γ 9 5), .ref (γ 9 6), .ref (γ 9 7), .ref (γ 9 8), .int p344837, .int p344838, .int g364893, .int p344840, .int p344841, .int p344842, .ref (γ 9 15), .ref (γ 9 16), .ref (γ 9 17), .ref (γ 9 18), .ref (γ 9 19), .ref (γ 9 20), .ref (γ 9 21), .ref (γ 9 22), .int p344843, .int p344844, .int p344845, .int p344846, .int p344847, .ref q344835, .ref (γ 9 29), .int p344848, .ref (γ 9 31), .int p344849, .int p344850, .int p344851, .ref q344836]) := e365303
              have mk365308 : mKp (F344827 q344828) (F365302 q344828) := mKp_tr x365263 (by rw [he365267, he365307]; exact ⟨rfl, rfl⟩)
              have hs365309 : rStr γ [1] F344827 F365302 := rStr_put hs365259 n365304 htq344828 (by decide)
              have fs365310 : rFs γ (γ 1 q344829) F344827 F365302 := rFs_pn x365262 n365304 htq344828 (by decide)
              have hT365311 : RS D I P344826 F365302 γ el := RS_set hT365258 n365304 htq344828 (by decide) ⟨q344835, q344836, p344837, p344838, g364893, p344840, p344841, p344842, p344843, p344844, p344845, p344846, p344847, p344848, p344849, p344850, p344851, he365307, ⟨(hB344878.1), (hB344878.2.1), ⟨by omega, by omega⟩, (hB344878.2.2.2.1), (hB344878.2.2.2.2.1), (hB344878.2.2.2.2.2.1), (hB344878.2.2.2.2.2.2.1), (hB344878.2.2.2.2.2.2.2.1), (hB344878.2.2.2.2.2.2.2.2)⟩, ht344852, ht344853, ht344854, ht344855, ht344856, ht344857, ht344858, ht344859, ht344860, ht344861, ht344862, ht344863, ht344864, ht344865, ht344866, ht344867, ht344868, ht344869, ht344870, ht344871, ht344872, ht344873, ht344874, ht344875, hB344879⟩
              exact G_vretA dr_cX17_share_251 rfl (Nat.le_of_ble_eq_true rfl) (Nat.le_of_ble_eq_true rfl) ⟨F365302, rfl, rfl, hT365311, hs365309, (Nat.le_of_ble_eq_true rfl), (Nat.le_of_ble_eq_true rfl), fs365310, mk365308⟩
            · have r365312 : g365256.toInt < p365278.toInt := gC_nle hc365300
              have bg365256' : gB g365256 0 999999 := ⟨by omega, by omega⟩
              have bp365278' : gB p365278 1 1000000 := ⟨by omega, by omega⟩
              refine G_aload_n 3 dr_cX17_share_161 rfl ?_
              refine G_iload_n 0 dr_cX17_share_162 rfl ?_
              have hm365313 : q365275 ∈ P344826 := RS_m hT365258 ht365279 (by decide)
              obtain ⟨⟨p365315, p365316, q365317, he365314, r365318, r365319, r365320, r365322⟩, r365321⟩ := show rk_4 D I γ el F365257 q365275 from RS_o hT365258 ht365279
              have bp365315 := gB_any p365315
              have bp365316 : gB p365316 0 1000000 := ⟨by omega, by omega⟩
              obtain ⟨r365323, r365324, n365331, f365332, r365325, r365326, r365327, r365328, r365329, r365330⟩ := rLC_n r365320 (by omega)
              have hm365333 : q365317 ∈ P344826 := RS_m hT365258 r365323 (by decide)
              obtain ⟨q365334, hx365335⟩ : ∃ x, x = el q365275 g365256.toInt.toNat := ⟨_, rfl⟩
              have hx365336 : f365332 g365256.toNatClampNeg = some q365334 := (r365329 _ (show g365256.toInt.toNat < γ 2 q365275 by omega)).trans (by rw [hx365335])
              have ht365339 : rKd γ q365334 2 := by rw [hx365335]; exact (r365290 _ (by omega)).resolve_right (fun z => absurd z.1 (by omega))
              have ht365340 : rFm γ q365334 q365275 := by rw [hx365335]; exact (r365321 _ (show g365256.toInt.toNat < γ 2 q365275 by omega)).2.1
              have hm365341 : q365334 ∈ P344826 := RS_m hT365258 ht365339 (by decide)
              obtain ⟨q365343, q365344, p365345, p365346, he365342, ht365353, ht365347, ht365348, ht365349, ht365350, ht365351, bp365345, bp365346, r365352, r365354, r365355⟩ := show rk_2 γ q365334 (F365257 q365334) from RS_o hT365258 ht365339
              refine Gw_callV (As := [.int g365256]) (gV_ok D I) (cp_7901_Code_get l hl0 D I P344826 F365257 q344829 q365275 q365317 g365256 q365276 p365277 p365278 p365315 p365316 f365332 n365331 q365334 q365343 q365344 p365345 p365346 hm365273 hm365313 hm365333 hm365341 he365274 he365314 r365325 he365342 (gB_w bg365256' (by decide) (by decide)) (gB_w bp365316 (by decide) (by decide)) (by omega) (by omega) (by assumption) (by omega)) dr_cX17_share_163 ⟨wr_10_161, wr_1_15, wr_10_141, by decide, rfl, (Nat.le_of_ble_eq_true rfl), (Nat.le_of_ble_eq_true rfl)⟩ wr_10_139 wr_10_140 hm365273 he365274 rfl (show 0 + 0 ≤ 0 by first | omega | decide) (show 0 + 0 ≤ 0 by first | omega | decide) (Nat.le_of_ble_eq_true rfl) (fun r365359 w365360 dc365356 ds365357 hp365358 => ?_) (fun _ _ _ _ _ z => z.elim)
              obtain ⟨rfl, rfl, hdc, hds, ht365361⟩ := hp365358
              change G _ _ _ _ _ _ _ (.ref q365334 :: _) _ _ _
              refine G_widen (cs' := 0) (sl' := 0) (by omega) (by omega) ?_
              refine G_astore (L' := [(4, .ref q365334), (3, .int g365256), (2, .int g364893), (0, .ref q344828), (1, .ref q344829)]) dr_cX17_share_166 (Nat.le_of_ble_eq_true rfl) rfl ?_
              refine G_iconst 0 dr_cX17_share_168 (by decide +kernel) ?_
              refine G_istore (L' := [(5, .int 0), (4, .ref q365334), (3, .int g365256), (2, .int g364893), (0, .ref q344828), (1, .ref q344829)]) dr_cX17_share_169 (Nat.le_of_ble_eq_true rfl) rfl ?_
              have hlp171_365488 : ∀ (n171_365488 : Nat) (F365482 : Nat → va_E) (g365481 : Int32), gB g365481 0 1000000 → RS D I P344826 F365482 γ el → rStr γ [1] F344827 F365482 → (∀ q : Nat, (q : Int) < ((γ 7 (γ 1 q344829) : Nat) : Int) → 0 ≤ (cB (F365482 (γ 9 19)) q).toInt ∧ (cB (F365482 (γ 9 19)) q).toInt ≤ q) → (F365482 q344828 = F344827 q344828) → rFs γ (γ 1 q344829) F344827 F365482 → mKp (F344827 q344828) (F365482 q344828) → ((1000001 : Int) - g365481.toInt).toNat < n171_365488 → G (gV D I) l (gRm 6 141 0 0) (gMA (gV D I) (pt_344832_SpillForgeModel_share D I γ el P344826 F344827 q344828 q344829) gNA 0 0) ky_344832_SpillForgeModel_share 171 [(5, .int g365481), (4, .ref q365334), (3, .int g365256), (2, .int g364893), (0, .ref q344828), (1, .ref q344829)] [] (va_pl P344826 F365482) 0 0 := by
                intro n171_365488
                induction n171_365488 with
                | zero => intro F365482 g365481 bg365481 hT365483 hs365484 x365485 x365486 x365487 x365488 hm171_365488; exact absurd hm171_365488 (Nat.not_lt_zero _)
                | succ n171_365488 ih171_365488 =>
                  intro F365482 g365481 bg365481 hT365483 hs365484 x365485 x365486 x365487 x365488 hm171_365488
                  have hs365490 : rStr γ [1] F365257 F365482 := fun b h0 hb hw => (hs365484 b h0 hb hw).trans (hs365259 b h0 hb hw).symm
                  have he365491 : F365482 q344829 = .inr (18, [.ref q365275, .ref q365276, .int p365277, .int p365278]) := (hs365490 q344829 (rT0 htq344829 (by decide)) (rT1 htq344829 (by decide)) (rT2 htq344829 (by decide))).trans he365274
                  have he365492 : F365482 q365275 = .inr (4, [.int p365315, .ref q365317, .int p365316]) := (hs365490 q365275 (rT0 ht365279 (by decide)) (rT1 ht365279 (by decide)) (rT2 ht365279 (by decide))).trans he365314
                  have he365493 : F365482 q365317 = .inl (I (.object "java/lang/Object"), n365331, .inr (.inr (.inr (.inr f365332)))) := (hs365490 q365317 (rT0 r365323 (by decide)) (rT1 r365323 (by decide)) (rT2 r365323 (by decide))).trans r365325
                  have he365494 : F365482 q365334 = .inr (17, [.ref q365343, .ref q365344, .int p365345, .int p365346]) := (hs365490 q365334 (rT0 ht365339 (by decide)) (rT1 ht365339 (by decide)) (rT2 ht365339 (by decide))).trans he365342
                  have hs365495 : rStr γ [1] F344827 F365482 := rStr_tr hs365259 hs365490
                  have he365496 : F365482 q344828 = .inr (22, [.ref (γ 9 0), .ref (γ 9 1), .ref (γ 9 2), .ref (γ 9 3), .ref (γ 9 4), .ref (γ 9 5), .ref (γ 9 6), .ref (γ 9 7), .ref (γ 9 8), .int p344837, .int p344838, .int p344839, .int p344840, .int p344841, .int p344842, .ref (γ 9 15), .ref (γ 9 16), .ref (γ 9 17), .ref (γ 9 18), .ref (γ 9 19), .ref (γ 9 20), .ref (γ 9 21), .ref (γ 9 22), .int p344843, .int p344844, .int p344845, .int p344846, .int p344847, .ref q344835, .ref (γ 9 29), .int p344848, .ref (γ 9 31), .int p344849, .int p344850, .int p344851, .ref q344836]) := x365486.trans he344834
                  have hm365497 : q344828 ∈ P344826 := RS_m hT365483 htq344828 (by decide)
                  have hm365498 : (γ 9 19) ∈ P344826 := RS_m hT365483 ht344867 (by decide)
                  obtain ⟨f365500, he365499, bf365500⟩ := show rk_21 I (F365482 (γ 9 19)) from RS_o hT365483 ht344867
                  have cq365501 := x365485
                  rw [cB_of he365499] at cq365501
                  refine G_iload 0 dr_cX17_share_171 rfl ?_
                  refine G_aload 1 dr_cX17_share_173 rfl ?_
                  refine Gp_get 0 hm365341 he365494 dr_cX17_share_175 (gk_X12 D I) (Nat.le_of_ble_eq_true rfl) wr_9_220 rfl ?_
                  have hm365502 : q365343 ∈ P344826 := RS_m hT365483 ht365347 (by decide)
                  obtain ⟨⟨p365504, p365505, q365506, he365503, r365507, r365508, r365509, r365511⟩, r365510⟩ := show rk_3 D I γ el F365482 q365343 from RS_o hT365483 ht365347
                  have bp365504 := gB_any p365504
                  have bp365505 : gB p365505 0 1000000 := ⟨by omega, by omega⟩
                  refine Gw_callV (As := []) (gV_ok D I) (cp_7_ArrayList_size l hl0 D I P344826 F365482 q365343 p365504 q365506 p365505 hm365502 he365503 (gB_w bp365505 (by decide) (by decide))) dr_cX17_share_178 ⟨wr_10_200, wr_1_18, wr_9_160, by decide, rfl, (Nat.le_of_ble_eq_true rfl), (Nat.le_of_ble_eq_true rfl)⟩ wr_9_158 wr_9_159 hm365502 he365503 rfl (show 0 + 0 ≤ 0 by first | omega | decide) (show 0 + 0 ≤ 0 by first | omega | decide) (Nat.le_of_ble_eq_true rfl) (fun r365515 w365516 dc365512 ds365513 hp365514 => ?_) (fun _ _ _ _ _ z => z.elim)
                  obtain ⟨rfl, rfl, hdc, hds⟩ := hp365514
                  change G _ _ _ _ _ _ _ (.int p365505 :: _) _ _ _
                  refine G_widen (cs' := 0) (sl' := 0) (by omega) (by omega) ?_
                  refine G_icmp_ge 240 dr_cX17_share_181 (by decide +kernel) (fun hc365517 => ?_) (fun hc365517 => ?_)
                  · have r365518 : p365505.toInt ≤ g365481.toInt := gC_le hc365517
                    obtain ⟨z365519, hz365519⟩ : ∃ z : Int32, z = g365256 + Int32.ofInt 1 := ⟨_, rfl⟩
                    have ez365519 : z365519.toInt = g365256.toInt + 1 := gI_inc hz365519 (by decide) bg365256' (by decide) (by decide)
                    have bz365519 : gB z365519 1 1000000 := ⟨by omega, by omega⟩
                    refine G_iinc (L' := [(3, .int z365519), (5, .int g365481), (4, .ref q365334), (2, .int g364893), (0, .ref q344828), (1, .ref q344829)]) z365519 2 dr_cX17_share_240 rfl hz365519.symm (Nat.le_of_ble_eq_true rfl) rfl ?_
                    refine G_goto 153 dr_cX17_share_243 (by decide +kernel) ?_
                    refine G_lv (L' := [(3, .int z365519), (2, .int g364893), (0, .ref q344828), (1, .ref q344829)]) [0, 3, 4, 5] rfl ?_
                    exact ih153_365263 F365482 z365519 (gB_w bz365519 (by decide) (by decide)) hT365483 hs365484 (by rw [cB_of he365499]; exact cq365501) x365486 x365487 x365488 (mz_up ez365519 (Int.le_trans bg365256'.2 (by decide)) hm153_365263)
                  · have r365520 : g365481.toInt < p365505.toInt := gC_nle hc365517
                    have bg365481' : gB g365481 0 999999 := ⟨by omega, by omega⟩
                    have bp365505' : gB p365505 1 1000000 := ⟨by omega, by omega⟩
                    refine G_aload 1 dr_cX17_share_184 rfl ?_
                    refine Gp_get 0 hm365341 he365494 dr_cX17_share_186 (gk_X12 D I) (Nat.le_of_ble_eq_true rfl) wr_9_220 rfl ?_
                    refine G_iload 0 dr_cX17_share_189 rfl ?_
                    obtain ⟨r365521, r365522, n365529, f365530, r365523, r365524, r365525, r365526, r365527, r365528⟩ := rLC_n r365509 (by omega)
                    have hm365531 : q365506 ∈ P344826 := RS_m hT365483 r365521 (by decide)
                    obtain ⟨q365532, hx365533⟩ : ∃ x, x = el q365343 g365481.toInt.toNat := ⟨_, rfl⟩
                    have hx365534 : f365530 g365481.toNatClampNeg = some q365532 := (r365527 _ (show g365481.toInt.toNat < γ 2 q365343 by omega)).trans (by rw [hx365533])
                    have ht365535 : rKd γ q365532 1 := by rw [hx365533]; exact (r365510 _ (show g365481.toInt.toNat < γ 2 q365343 by omega)).1
                    have ht365536 : rFm γ q365532 q365343 := by rw [hx365533]; exact (r365510 _ (show g365481.toInt.toNat < γ 2 q365343 by omega)).2.1
                    refine Gw_callV (As := [.int g365481]) (gV_ok D I) (cp_22_ArrayList_get l hl0 D I P344826 F365482 q365343 q365506 g365481 p365504 p365505 f365530 n365529 q365532 hm365502 hm365531 he365503 r365523 (gB_w bg365481' (by decide) (by decide)) (gB_w bp365505' (by decide) (by decide)) (by omega) (by omega) (by assumption) (by omega)) dr_cX17_share_191 ⟨wr_10_201, wr_1_18, wr_10_65, by decide, rfl, (Nat.le_of_ble_eq_true rfl), (Nat.le_of_ble_eq_true rfl)⟩ wr_10_63 wr_10_64 hm365502 he365503 rfl (show 0 + 0 ≤ 0 by first | omega | decide) (show 0 + 0 ≤ 0 by first | omega | decide) (Nat.le_of_ble_eq_true rfl) (fun r365540 w365541 dc365537 ds365538 hp365539 => ?_) (fun _ _ _ _ _ z => z.elim)
                    obtain ⟨rfl, rfl, hdc, hds, ht365542⟩ := hp365539
                    change G _ _ _ _ _ _ _ (.ref q365532 :: _) _ _ _
                    refine G_widen (cs' := 0) (sl' := 0) (by omega) (by omega) ?_
                    have hm365543 : q365532 ∈ P344826 := RS_m hT365483 ht365535 (by decide)
                    obtain ⟨p365545, p365546, p365547, p365548, p365549, p365550, p365551, he365544, bp365545, bp365546, bp365549, bp365550, bp365551, r365552, r365553, r365554, r365555, r365556⟩ := show rk_1 γ q365532 (F365482 q365532) from RS_o hT365483 ht365535
                    have bp365547 := gB_any p365547
                    have bp365548 := gB_any p365548
                    refine Gp_cast hm365543 he365544 rfl dr_cX17_share_194 wr_10_202 (gr_cast 1 rfl) ?_
                    refine G_astore (L' := [(6, .ref q365532), (5, .int g365481), (4, .ref q365334), (3, .int g365256), (2, .int g364893), (0, .ref q344828), (1, .ref q344829)]) dr_cX17_share_197 (Nat.le_of_ble_eq_true rfl) rfl ?_
                    refine G_aload 0 dr_cX17_share_199 rfl ?_
                    refine Gp_get 0 hm365543 he365544 dr_cX17_share_201 (gk_X15 D I) (Nat.le_of_ble_eq_true rfl) wr_9_177 rfl ?_
                    refine G_bipush 21 dr_cX17_share_204 (by decide +kernel) ?_
                    refine G_icmp_eq 219 dr_cX17_share_206 (by decide +kernel) (fun hc365557 => ?_) (fun hc365557 => ?_)
                    · have r365558 : p365545.toInt = 21 := gj_eq hc365557 (show Int32.toInt 21 = 21 by decide)
                      have bp365545' : gB p365545 21 21 := ⟨by omega, by omega⟩
                      refine G_aload 0 dr_cX17_share_219 rfl ?_
                      refine G_aload_n 5 dr_cX17_share_221 rfl ?_
                      refine Gp_get 19 hm365497 he365496 dr_cX17_share_222 (gk_X17 D I) (Nat.le_of_ble_eq_true rfl) wr_7_93 rfl ?_
                      refine G_aload 0 dr_cX17_share_225 rfl ?_
                      refine Gp_get 4 hm365543 he365544 dr_cX17_share_227 (gk_X15 D I) (Nat.le_of_ble_eq_true rfl) wr_9_193 rfl ?_
                      refine Gp_iald 0 hm365498 he365499 dr_cX17_share_230 rfl (gB_in bp365549 (by decide) (by decide)) (G_nam fun z365559 hz365559 => ?_)
                      have bz365559 : gB z365559 (-1) 1999 := by rw [hz365559]; exact bf365500 _
                      have r365560 : γ 7 (γ 1 q365532) = γ 7 (γ 1 q344829) := by rw [show γ 1 q365532 = γ 1 q365343 from ht365536, show γ 1 q365343 = γ 1 q365334 from ht365348, show γ 1 q365334 = γ 1 q365275 from ht365340, show γ 1 q365275 = γ 1 q344829 from ht365280]
                      have r365561 : 0 ≤ z365559.toInt ∧ z365559.toInt ≤ (p365549.toInt.toNat : Int) := by rw [hz365559]; exact cq365501 p365549.toInt.toNat (by omega)
                      have bz365559' : gB z365559 0 1999 := ⟨by omega, by omega⟩
                      refine Gp_put 4 hm365543 he365544 dr_cX17_share_231 (gk_X15 D I) (Nat.le_of_ble_eq_true rfl) wr_9_193 rfl rfl rfl (Nat.le_of_ble_eq_true rfl) (fun F365562 e365563 n365564 => ?_)
                      have he365565 : F365562 q344829 = .inr (18, [.ref q365275, .ref q365276, .int p365277, .int p365278]) := (n365564 q344829 (rn_oo he365491 he365544 (by decide))).trans he365491
                      have he365566 : F365562 q365275 = .inr (4, [.int p365315, .ref q365317, .int p365316]) := (n365564 q365275 (rn_oo he365492 he365544 (by decide))).trans he365492
                      have he365567 : F365562 q365317 = .inl (I (.object "java/lang/Object"), n365331, .inr (.inr (.inr (.inr f365332)))) := (n365564 q365317 (rn_ao he365493 he365544)).trans he365493
                      have he365568 : F365562 q365334 = .inr (17, [.ref q365343, .ref q365344, .int p365345, .int p365346]) := (n365564 q365334 (rn_oo he365494 he365544 (by decide))).trans he365494
                      have he365569 : F365562 q344828 = .inr (22, [.ref (γ 9 0), .ref (γ 9 1), .ref (γ 9 2), .ref (γ 9 3), .ref (γ 9 4), .ref (γ 9 5), .ref (γ 9 6), .ref (γ 9 7), .ref (γ 9 8), .int p344837, .int p344838, .int p344839, .int p344840, .int p344841, .int p344842, .ref (γ 9 15), .ref (γ 9 16), .ref (γ 9 17), .ref (γ 9 18), .ref (γ 9 19), .ref (γ 9 20), .ref (γ 9 21), .ref (γ 9 22), .int p344843, .int p344844, .int p344845, .int p344846, .int p344847, .ref q344835, .ref (γ 9 29), .int p344848, .ref (γ 9 31), .int p344849, .int p344850, .int p344851, .ref q344836]) := (n365564 q344828 (rn_oo he365496 he365544 (by decide))).trans he365496
                      have he365570 : F365562 (γ 9 19) = .inl (I .int, 2000, .inl f365500) := (n365564 (γ 9 19) (rn_ao he365499 he365544)).trans he365499
                      have he365571 : F365562 q365343 = .inr (4, [.int p365504, .ref q365506, .int p365505]) := (n365564 q365343 (rn_oo he365503 he365544 (by decide))).trans he365503
                      have he365572 : F365562 q365506 = .inl (I (.object "java/lang/Object"), n365529, .inr (.inr (.inr (.inr f365530)))) := (n365564 q365506 (rn_ao r365523 he365544)).trans r365523
                      have he365573 : F365562 q365532 = .inr (20, [.int p365545, .int p365546, .int p365547, .int p365548, .int z365559, .int p365550, .int p365551]) := e365563
                      have mk365574 : mKp (F344827 q344828) (F365562 q344828) := mKp_tr x365488 (mKp_eq (n365564 q344828 (rn_ty htq344828 ht365535 (by decide))))
                      have hs365575 : rStr γ [1] F344827 F365562 := rStr_pu2 hs365484 n365564 ht365535 (by decide)
                      have kp365576 : F365562 q344828 = F344827 q344828 := (n365564 q344828 (rn_ty htq344828 ht365535 (by decide))).trans x365486
                      have fs365577 : rFs γ (γ 1 q344829) F344827 F365562 := rFs_put x365487 n365564 ((show γ 1 q365532 = γ 1 q365343 from ht365536).trans ((show γ 1 q365343 = γ 1 q365334 from ht365348).trans ((show γ 1 q365334 = γ 1 q365275 from ht365340).trans (show γ 1 q365275 = γ 1 q344829 from ht365280))))
                      obtain ⟨z365578, hz365578⟩ : ∃ z : Int32, z = g365481 + Int32.ofInt 1 := ⟨_, rfl⟩
                      have ez365578 : z365578.toInt = g365481.toInt + 1 := gI_inc hz365578 (by decide) bg365481' (by decide) (by decide)
                      have bz365578 : gB z365578 1 1000000 := ⟨by omega, by omega⟩
                      refine G_iinc (L' := [(5, .int z365578), (6, .ref q365532), (4, .ref q365334), (3, .int g365256), (2, .int g364893), (0, .ref q344828), (1, .ref q344829)]) z365578 1 dr_cX17_share_234 rfl hz365578.symm (Nat.le_of_ble_eq_true rfl) rfl ?_
                      refine G_goto 171 dr_cX17_share_237 (by decide +kernel) ?_
                      have hT365579 : RS D I P344826 F365562 γ el := RS_set hT365483 n365564 ht365535 (by decide) ⟨p365545, p365546, p365547, p365548, z365559, p365550, p365551, he365573, (gB_w bp365545' (by decide) (by decide)), bp365546, bz365559', bp365550, bp365551, (by omega), (by omega), (by omega), (by omega), (by omega)⟩
                      refine G_lv (L' := [(5, .int z365578), (4, .ref q365334), (3, .int g365256), (2, .int g364893), (0, .ref q344828), (1, .ref q344829)]) [0, 2, 3, 4, 5, 6] rfl ?_
                      exact ih171_365488 F365562 z365578 (gB_w bz365578 (by decide) (by decide)) hT365579 hs365575 (by rw [cB_of he365570]; exact cq365501) kp365576 fs365577 mk365574 (mz_up ez365578 (Int.le_trans bg365481'.2 (by decide)) hm171_365488)
                    · have r365580 : p365545.toInt ≠ 21 := gj_neq hc365557 (show Int32.toInt 21 = 21 by decide)
                      refine G_aload 0 dr_cX17_share_209 rfl ?_
                      refine Gp_get 0 hm365543 he365544 dr_cX17_share_211 (gk_X15 D I) (Nat.le_of_ble_eq_true rfl) wr_9_177 rfl ?_
                      refine G_bipush 23 dr_cX17_share_214 (by decide +kernel) ?_
                      refine G_icmp_ne 234 dr_cX17_share_216 (by decide +kernel) (fun hc365581 => ?_) (fun hc365581 => ?_)
                      · have r365582 : p365545.toInt ≠ 23 := gj_neq hc365581 (show Int32.toInt 23 = 23 by decide)
                        obtain ⟨z365583, hz365583⟩ : ∃ z : Int32, z = g365481 + Int32.ofInt 1 := ⟨_, rfl⟩
                        have ez365583 : z365583.toInt = g365481.toInt + 1 := gI_inc hz365583 (by decide) bg365481' (by decide) (by decide)
                        have bz365583 : gB z365583 1 1000000 := ⟨by omega, by omega⟩
                        refine G_iinc (L' := [(5, .int z365583), (6, .ref q365532), (4, .ref q365334), (3, .int g365256), (2, .int g364893), (0, .ref q344828), (1, .ref q344829)]) z365583 1 dr_cX17_share_234 rfl hz365583.symm (Nat.le_of_ble_eq_true rfl) rfl ?_
                        refine G_goto 171 dr_cX17_share_237 (by decide +kernel) ?_
                        refine G_lv (L' := [(5, .int z365583), (4, .ref q365334), (3, .int g365256), (2, .int g364893), (0, .ref q344828), (1, .ref q344829)]) [0, 2, 3, 4, 5, 6] rfl ?_
                        exact ih171_365488 F365482 z365583 (gB_w bz365583 (by decide) (by decide)) hT365483 hs365484 (by rw [cB_of he365499]; exact cq365501) x365486 x365487 x365488 (mz_up ez365583 (Int.le_trans bg365481'.2 (by decide)) hm171_365488)
                      · have r365584 : p365545.toInt = 23 := gj_eq hc365581 (show Int32.toInt 23 = 23 by decide)
                        have bp365545' : gB p365545 23 23 := ⟨by omega, by omega⟩
                        refine G_aload 0 dr_cX17_share_219 rfl ?_
                        refine G_aload_n 5 dr_cX17_share_221 rfl ?_
                        refine Gp_get 19 hm365497 he365496 dr_cX17_share_222 (gk_X17 D I) (Nat.le_of_ble_eq_true rfl) wr_7_93 rfl ?_
                        refine G_aload 0 dr_cX17_share_225 rfl ?_
                        refine Gp_get 4 hm365543 he365544 dr_cX17_share_227 (gk_X15 D I) (Nat.le_of_ble_eq_true rfl) wr_9_193 rfl ?_
                        refine Gp_iald 0 hm365498 he365499 dr_cX17_share_230 rfl (gB_in bp365549 (by decide) (by decide)) (G_nam fun z365585 hz365585 => ?_)
                        have bz365585 : gB z365585 (-1) 1999 := by rw [hz365585]; exact bf365500 _
                        have r365586 : γ 7 (γ 1 q365532) = γ 7 (γ 1 q344829) := by rw [show γ 1 q365532 = γ 1 q365343 from ht365536, show γ 1 q365343 = γ 1 q365334 from ht365348, show γ 1 q365334 = γ 1 q365275 from ht365340, show γ 1 q365275 = γ 1 q344829 from ht365280]
                        have r365587 : 0 ≤ z365585.toInt ∧ z365585.toInt ≤ (p365549.toInt.toNat : Int) := by rw [hz365585]; exact cq365501 p365549.toInt.toNat (by omega)
                        have bz365585' : gB z365585 0 1999 := ⟨by omega, by omega⟩
                        refine Gp_put 4 hm365543 he365544 dr_cX17_share_231 (gk_X15 D I) (Nat.le_of_ble_eq_true rfl) wr_9_193 rfl rfl rfl (Nat.le_of_ble_eq_true rfl) (fun F365588 e365589 n365590 => ?_)
                        have he365591 : F365588 q344829 = .inr (18, [.ref q365275, .ref q365276, .int p365277, .int p365278]) := (n365590 q344829 (rn_oo he365491 he365544 (by decide))).trans he365491
                        have he365592 : F365588 q365275 = .inr (4, [.int p365315, .ref q365317, .int p365316]) := (n365590 q365275 (rn_oo he365492 he365544 (by decide))).trans he365492
                        have he365593 : F365588 q365317 = .inl (I (.object "java/lang/Object"), n365331, .inr (.inr (.inr (.inr f365332)))) := (n365590 q365317 (rn_ao he365493 he365544)).trans he365493
                        have he365594 : F365588 q365334 = .inr (17, [.ref q365343, .ref q365344, .int p365345, .int p365346]) := (n365590 q365334 (rn_oo he365494 he365544 (by decide))).trans he365494
                        have he365595 : F365588 q344828 = .inr (22, [.ref (γ 9 0), .ref (γ 9 1), .ref (γ 9 2), .ref (γ 9 3), .ref (γ 9 4), .ref (γ 9 5), .ref (γ 9 6), .ref (γ 9 7), .ref (γ 9 8), .int p344837, .int p344838, .int p344839, .int p344840, .int p344841, .int p344842, .ref (γ 9 15), .ref (γ 9 16), .ref (γ 9 17), .ref (γ 9 18), .ref (γ 9 19), .ref (γ 9 20), .ref (γ 9 21), .ref (γ 9 22), .int p344843, .int p344844, .int p344845, .int p344846, .int p344847, .ref q344835, .ref (γ 9 29), .int p344848, .ref (γ 9 31), .int p344849, .int p344850, .int p344851, .ref q344836]) := (n365590 q344828 (rn_oo he365496 he365544 (by decide))).trans he365496
                        have he365596 : F365588 (γ 9 19) = .inl (I .int, 2000, .inl f365500) := (n365590 (γ 9 19) (rn_ao he365499 he365544)).trans he365499
                        have he365597 : F365588 q365343 = .inr (4, [.int p365504, .ref q365506, .int p365505]) := (n365590 q365343 (rn_oo he365503 he365544 (by decide))).trans he365503
                        have he365598 : F365588 q365506 = .inl (I (.object "java/lang/Object"), n365529, .inr (.inr (.inr (.inr f365530)))) := (n365590 q365506 (rn_ao r365523 he365544)).trans r365523
                        have he365599 : F365588 q365532 = .inr (20, [.int p365545, .int p365546, .int p365547, .int p365548, .int z365585, .int p365550, .int p365551]) := e365589
                        have mk365600 : mKp (F344827 q344828) (F365588 q344828) := mKp_tr x365488 (mKp_eq (n365590 q344828 (rn_ty htq344828 ht365535 (by decide))))
                        have hs365601 : rStr γ [1] F344827 F365588 := rStr_pu2 hs365484 n365590 ht365535 (by decide)
                        have kp365602 : F365588 q344828 = F344827 q344828 := (n365590 q344828 (rn_ty htq344828 ht365535 (by decide))).trans x365486
                        have fs365603 : rFs γ (γ 1 q344829) F344827 F365588 := rFs_put x365487 n365590 ((show γ 1 q365532 = γ 1 q365343 from ht365536).trans ((show γ 1 q365343 = γ 1 q365334 from ht365348).trans ((show γ 1 q365334 = γ 1 q365275 from ht365340).trans (show γ 1 q365275 = γ 1 q344829 from ht365280))))
                        obtain ⟨z365604, hz365604⟩ : ∃ z : Int32, z = g365481 + Int32.ofInt 1 := ⟨_, rfl⟩
                        have ez365604 : z365604.toInt = g365481.toInt + 1 := gI_inc hz365604 (by decide) bg365481' (by decide) (by decide)
                        have bz365604 : gB z365604 1 1000000 := ⟨by omega, by omega⟩
                        refine G_iinc (L' := [(5, .int z365604), (6, .ref q365532), (4, .ref q365334), (3, .int g365256), (2, .int g364893), (0, .ref q344828), (1, .ref q344829)]) z365604 1 dr_cX17_share_234 rfl hz365604.symm (Nat.le_of_ble_eq_true rfl) rfl ?_
                        refine G_goto 171 dr_cX17_share_237 (by decide +kernel) ?_
                        have hT365605 : RS D I P344826 F365588 γ el := RS_set hT365483 n365590 ht365535 (by decide) ⟨p365545, p365546, p365547, p365548, z365585, p365550, p365551, he365599, (gB_w bp365545' (by decide) (by decide)), bp365546, bz365585', bp365550, bp365551, (by omega), (by omega), (by omega), (by omega), (by omega)⟩
                        refine G_lv (L' := [(5, .int z365604), (4, .ref q365334), (3, .int g365256), (2, .int g364893), (0, .ref q344828), (1, .ref q344829)]) [0, 2, 3, 4, 5, 6] rfl ?_
                        exact ih171_365488 F365588 z365604 (gB_w bz365604 (by decide) (by decide)) hT365605 hs365601 (by rw [cB_of he365596]; exact cq365501) kp365602 fs365603 mk365600 (mz_up ez365604 (Int.le_trans bg365481'.2 (by decide)) hm171_365488)
              exact hlp171_365488 (((1000001 : Int) - 0).toNat + 1) F365257 0 (gB_w (gBl (show Int32.toInt 0 = 0 by decide)) (by decide) (by decide)) hT365258 hs365259 (by rw [cB_of he365270]; exact cq365272) x365261 x365262 x365263 (Nat.lt_succ_self _)
        exact hlp153_365263 (((1000001 : Int) - 0).toNat + 1) F364894 0 (gB_w (gBl (show Int32.toInt 0 = 0 by decide)) (by decide) (by decide)) hT364895 hs364896 (by rw [cB_of he364908]; exact fun q hq => cq364910 q (by omega)) x364899 x364900 x364901 (Nat.lt_succ_self _)
      · have r365606 : g364892.toInt < p344839.toInt := gC_nle hc364911
        have bg364892' : gB g364892 0 99 := ⟨by omega, by omega⟩
        have bp344839' : gB p344839 1 100 := ⟨by omega, by omega⟩
        refine G_iconst 0 dr_cX17_share_18 (by decide +kernel) ?_
        refine G_istore (L' := [(4, .int 0), (3, .int g364892), (2, .int g364893), (0, .ref q344828), (1, .ref q344829)]) dr_cX17_share_19 (Nat.le_of_ble_eq_true rfl) rfl ?_
        refine G_iconst 0 dr_cX17_share_21 (by decide +kernel) ?_
        refine G_istore (L' := [(5, .int 0), (4, .int 0), (3, .int g364892), (2, .int g364893), (0, .ref q344828), (1, .ref q344829)]) dr_cX17_share_22 (Nat.le_of_ble_eq_true rfl) rfl ?_
        have hlp24_366031 : ∀ (n24_366031 : Nat) (F366025 : Nat → va_E) (g366024 : Int32), gB g366024 0 1999 → RS D I P344826 F366025 γ el → rStr γ [1] F344827 F366025 → (∀ q : Nat, (q : Int) < g364892.toInt → 0 ≤ (cB (F366025 (γ 9 19)) q).toInt ∧ (cB (F366025 (γ 9 19)) q).toInt ≤ q) → (F366025 q344828 = F344827 q344828) → rFs γ (γ 1 q344829) F344827 F366025 → mKp (F344827 q344828) (F366025 q344828) → ((2000 : Int) - g366024.toInt).toNat < n24_366031 → G (gV D I) l (gRm 6 141 0 0) (gMA (gV D I) (pt_344832_SpillForgeModel_share D I γ el P344826 F344827 q344828 q344829) gNA 0 0) ky_344832_SpillForgeModel_share 24 [(5, .int g366024), (4, .int 0), (3, .int g364892), (2, .int g364893), (0, .ref q344828), (1, .ref q344829)] [] (va_pl P344826 F366025) 0 0 := by
          intro n24_366031
          induction n24_366031 with
          | zero => intro F366025 g366024 bg366024 hT366026 hs366027 x366028 x366029 x366030 x366031 hm24_366031; exact absurd hm24_366031 (Nat.not_lt_zero _)
          | succ n24_366031 ih24_366031 =>
            intro F366025 g366024 bg366024 hT366026 hs366027 x366028 x366029 x366030 x366031 hm24_366031
            have hs366033 : rStr γ [1] F364894 F366025 := fun b h0 hb hw => (hs366027 b h0 hb hw).trans (hs364896 b h0 hb hw).symm
            have hs366034 : rStr γ [1] F344827 F366025 := rStr_tr hs364896 hs366033
            have he366035 : F366025 q344828 = .inr (22, [.ref (γ 9 0), .ref (γ 9 1), .ref (γ 9 2), .ref (γ 9 3), .ref (γ 9 4), .ref (γ 9 5), .ref (γ 9 6), .ref (γ 9 7), .ref (γ 9 8), .int p344837, .int p344838, .int p344839, .int p344840, .int p344841, .int p344842, .ref (γ 9 15), .ref (γ 9 16), .ref (γ 9 17), .ref (γ 9 18), .ref (γ 9 19), .ref (γ 9 20), .ref (γ 9 21), .ref (γ 9 22), .int p344843, .int p344844, .int p344845, .int p344846, .int p344847, .ref q344835, .ref (γ 9 29), .int p344848, .ref (γ 9 31), .int p344849, .int p344850, .int p344851, .ref q344836]) := x366029.trans he344834
            have hm366036 : q344828 ∈ P344826 := RS_m hT366026 htq344828 (by decide)
            have hm366037 : (γ 9 19) ∈ P344826 := RS_m hT366026 ht344867 (by decide)
            obtain ⟨f366039, he366038, bf366039⟩ := show rk_21 I (F366025 (γ 9 19)) from RS_o hT366026 ht344867
            have cq366040 := x366028
            rw [cB_of he366038] at cq366040
            refine G_iload 0 dr_cX17_share_24 rfl ?_
            refine G_iload_n 2 dr_cX17_share_26 rfl ?_
            refine G_icmp_ge 44 dr_cX17_share_27 (by decide +kernel) (fun hc366041 => ?_) (fun hc366041 => ?_)
            · have r366042 : g364892.toInt ≤ g366024.toInt := gC_le hc366041
              refine G_iconst 0 dr_cX17_share_44 (by decide +kernel) ?_
              refine G_istore (L' := [(5, .int 0), (4, .int 0), (3, .int g364892), (2, .int g364893), (0, .ref q344828), (1, .ref q344829)]) dr_cX17_share_45 (Nat.le_of_ble_eq_true rfl) rfl ?_
              have hlp47_366241 : ∀ (n47_366241 : Nat) (F366235 : Nat → va_E) (g366234 : Int32), gB g366234 0 99 → RS D I P344826 F366235 γ el → rStr γ [1] F344827 F366235 → (∀ q : Nat, (q : Int) < g364892.toInt → 0 ≤ (cB (F366235 (γ 9 19)) q).toInt ∧ (cB (F366235 (γ 9 19)) q).toInt ≤ q) → (F366235 q344828 = F344827 q344828) → rFs γ (γ 1 q344829) F344827 F366235 → mKp (F344827 q344828) (F366235 q344828) → ((100 : Int) - g366234.toInt).toNat < n47_366241 → G (gV D I) l (gRm 6 141 0 0) (gMA (gV D I) (pt_344832_SpillForgeModel_share D I γ el P344826 F344827 q344828 q344829) gNA 0 0) ky_344832_SpillForgeModel_share 47 [(5, .int g366234), (4, .int 0), (3, .int g364892), (2, .int g364893), (0, .ref q344828), (1, .ref q344829)] [] (va_pl P344826 F366235) 0 0 := by
                intro n47_366241
                induction n47_366241 with
                | zero => intro F366235 g366234 bg366234 hT366236 hs366237 x366238 x366239 x366240 x366241 hm47_366241; exact absurd hm47_366241 (Nat.not_lt_zero _)
                | succ n47_366241 ih47_366241 =>
                  intro F366235 g366234 bg366234 hT366236 hs366237 x366238 x366239 x366240 x366241 hm47_366241
                  have hs366243 : rStr γ [1] F366025 F366235 := fun b h0 hb hw => (hs366237 b h0 hb hw).trans (hs366027 b h0 hb hw).symm
                  have hs366244 : rStr γ [1] F344827 F366235 := rStr_tr hs366027 hs366243
                  have he366245 : F366235 q344828 = .inr (22, [.ref (γ 9 0), .ref (γ 9 1), .ref (γ 9 2), .ref (γ 9 3), .ref (γ 9 4), .ref (γ 9 5), .ref (γ 9 6), .ref (γ 9 7), .ref (γ 9 8), .int p344837, .int p344838, .int p344839, .int p344840, .int p344841, .int p344842, .ref (γ 9 15), .ref (γ 9 16), .ref (γ 9 17), .ref (γ 9 18), .ref (γ 9 19), .ref (γ 9 20), .ref (γ 9 21), .ref (γ 9 22), .int p344843, .int p344844, .int p344845, .int p344846, .int p344847, .ref q344835, .ref (γ 9 29), .int p344848, .ref (γ 9 31), .int p344849, .int p344850, .int p344851, .ref q344836]) := x366239.trans he344834
                  have hm366246 : q344828 ∈ P344826 := RS_m hT366236 htq344828 (by decide)
                  have hm366247 : (γ 9 19) ∈ P344826 := RS_m hT366236 ht344867 (by decide)
                  obtain ⟨f366249, he366248, bf366249⟩ := show rk_21 I (F366235 (γ 9 19)) from RS_o hT366236 ht344867
                  have cq366250 := x366238
                  rw [cB_of he366248] at cq366250
                  refine G_iload 0 dr_cX17_share_47 rfl ?_
                  refine G_iload_n 2 dr_cX17_share_49 rfl ?_
                  refine G_icmp_ge 96 dr_cX17_share_50 (by decide +kernel) (fun hc366251 => ?_) (fun hc366251 => ?_)
                  · have r366252 : g364892.toInt ≤ g366234.toInt := gC_le hc366251
                    have hlp96_366312 : ∀ (n96_366312 : Nat) (g366310 : Int32), gB g366310 0 99 → (∀ q : Nat, (q : Int) < g364892.toInt → 0 ≤ (cB (F366235 (γ 9 19)) q).toInt ∧ (cB (F366235 (γ 9 19)) q).toInt ≤ q) → (g366310.toInt ≤ g364892.toInt) → ((100 : Int) - g366310.toInt).toNat < n96_366312 → G (gV D I) l (gRm 6 141 0 0) (gMA (gV D I) (pt_344832_SpillForgeModel_share D I γ el P344826 F344827 q344828 q344829) gNA 0 0) ky_344832_SpillForgeModel_share 96 [(5, .int g366234), (4, .int g366310), (3, .int g364892), (2, .int g364893), (0, .ref q344828), (1, .ref q344829)] [] (va_pl P344826 F366235) 0 0 := by
                      intro n96_366312
                      induction n96_366312 with
                      | zero => intro g366310 bg366310 x366311 x366312 hm96_366312; exact absurd hm96_366312 (Nat.not_lt_zero _)
                      | succ n96_366312 ih96_366312 =>
                        intro g366310 bg366310 x366311 x366312 hm96_366312
                        have cq366314 := x366311
                        rw [cB_of he366248] at cq366314
                        refine G_iload 1 dr_cX17_share_96 rfl ?_
                        refine G_iload_n 2 dr_cX17_share_98 rfl ?_
                        refine G_icmp_ge 119 dr_cX17_share_99 (by decide +kernel) (fun hc366315 => ?_) (fun hc366315 => ?_)
                        · have r366316 : g364892.toInt ≤ g366310.toInt := gC_le hc366315
                          refine G_aload_n 4 dr_cX17_share_119 rfl ?_
                          refine Gp_get 19 hm366246 he366245 dr_cX17_share_120 (gk_X17 D I) (Nat.le_of_ble_eq_true rfl) wr_7_93 rfl ?_
                          refine G_iload_n 2 dr_cX17_share_123 rfl ?_
                          refine G_iload 1 dr_cX17_share_124 rfl ?_
                          refine Gp_iast 0 hm366247 he366248 dr_cX17_share_126 rfl (gB_in bg364892' (by decide) (by decide)) (fun F366317 e366318 n366319 => ?_)
                          obtain ⟨f366320, hf366320⟩ : ∃ z, z = upd f366249 g364892.toNatClampNeg g366310 := ⟨_, rfl⟩
                          rw [← hf366320] at e366318
                          have he366321 : F366317 q344828 = .inr (22, [.ref (γ 9 0), .ref (γ 9 1), .ref (γ 9 2), .ref (γ 9 3), .ref (γ 9 4), .ref (γ 9 5), .ref (γ 9 6), .ref (γ 9 7), .ref (γ 9 8), .int p344837, .int p344838, .int p344839, .int p344840, .int p344841, .int p344842, .ref (γ 9 15), .ref (γ 9 16), .ref (γ 9 17), .ref (γ 9 18), .ref (γ 9 19), .ref (γ 9 20), .ref (γ 9 21), .ref (γ 9 22), .int p344843, .int p344844, .int p344845, .int p344846, .int p344847, .ref q344835, .ref (γ 9 29), .int p344848, .ref (γ 9 31), .int p344849, .int p344850, .int p344851, .ref q344836]) := (n366319 q344828 (rn_oa he366245 he366248)).trans he366245
                          have he366322 : F366317 (γ 9 19) = .inl (I .int, 2000, .inl f366320) := e366318
                          have mk366323 : mKp (F344827 q344828) (F366317 q344828) := mKp_tr x366241 (mKp_eq (n366319 q344828 (rn_ty htq344828 ht344867 (by decide))))
                          have hs366324 : rStr γ [1] F344827 F366317 := rStr_put hs366237 n366319 ht344867 (by decide)
                          have kp366325 : F366317 q344828 = F344827 q344828 := (n366319 q344828 (rn_ty htq344828 ht344867 (by decide))).trans x366239
                          have fs366326 : rFs γ (γ 1 q344829) F344827 F366317 := rFs_pn x366240 n366319 ht344867 (by decide)
                          have bf366320 : gF f366320 (-1) 1999 := gF_upd hf366320 bf366249 (gB_w bg366310 (by decide) (by decide))
                          refine G_aload_n 4 dr_cX17_share_127 rfl ?_
                          refine Gp_get 3 hm366246 he366321 dr_cX17_share_128 (gk_X17 D I) (Nat.le_of_ble_eq_true rfl) wr_7_77 rfl ?_
                          refine G_iload_n 2 dr_cX17_share_131 rfl ?_
                          have hT366327 : RS D I P344826 F366317 γ el := RS_set hT366236 n366319 ht344867 (by decide) ⟨f366320, he366322, bf366320⟩
                          have hm366328 : (γ 9 3) ∈ P344826 := RS_m hT366327 ht344857 (by decide)
                          obtain ⟨f366330, he366329, bf366330⟩ := show rk_14 I (F366317 (γ 9 3)) from RS_o hT366327 ht344857
                          refine Gp_zald 3 hm366328 he366329 dr_cX17_share_132 rfl (gB_in bg364892' (by decide) (by decide)) (G_nam fun z366331 hz366331 => ?_)
                          have bz366331 : gB z366331 0 1 := by rw [hz366331]; exact bf366330 _
                          refine G_if_eq 145 dr_cX17_share_133 (by decide +kernel) (fun hc366332 => ?_) (fun hc366332 => ?_)
                          · have r366333 : z366331.toInt = 0 := gj_eq hc366332 (show Int32.toInt 0 = 0 by decide)
                            have bz366331' : gB z366331 0 0 := gB_t0 r366333
                            obtain ⟨z366334, hz366334⟩ : ∃ z : Int32, z = g364892 + Int32.ofInt 1 := ⟨_, rfl⟩
                            have ez366334 : z366334.toInt = g364892.toInt + 1 := gI_inc hz366334 (by decide) bg364892' (by decide) (by decide)
                            have bz366334 : gB z366334 1 100 := ⟨by omega, by omega⟩
                            refine G_iinc (L' := [(3, .int z366334), (5, .int g366234), (4, .int g366310), (2, .int g364893), (0, .ref q344828), (1, .ref q344829)]) z366334 2 dr_cX17_share_145 rfl hz366334.symm (Nat.le_of_ble_eq_true rfl) rfl ?_
                            refine G_goto 10 dr_cX17_share_148 (by decide +kernel) ?_
                            refine G_lv (L' := [(3, .int z366334), (2, .int g364893), (0, .ref q344828), (1, .ref q344829)]) [0, 3, 4, 5] rfl ?_
                            exact ih10_364901 F366317 z366334 g364893 (gB_w bz366334 (by decide) (by decide)) bg364893 hT366327 hs366324 (by rw [ez366334]; rw [cB_of he366322]; exact sl_u hf366320 (by omega) (by omega) (by omega) cq366314) (by omega) kp366325 fs366326 mk366323 (mz_up ez366334 (Int.le_trans bg364892'.2 (by decide)) hm10_364901)
                          · have r366335 : z366331.toInt ≠ 0 := gj_neq hc366332 (show Int32.toInt 0 = 0 by decide)
                            have bz366331' : gB z366331 1 1 := gB_t1 bz366331 r366335
                            refine G_iload_n 3 dr_cX17_share_136 rfl ?_
                            refine G_iload 1 dr_cX17_share_137 rfl ?_
                            refine G_iconst 1 dr_cX17_share_139 (by decide +kernel) ?_
                            refine G_iadd dr_cX17_share_140 (G_nam fun z366336 hz366336 => ?_)
                            have ez366336 : z366336.toInt = g366310.toInt + 1 := by rw [gI_add hz366336 bg366310 (gBl (show Int32.toInt 1 = 1 by decide)) (by decide) (by decide), show Int32.toInt 1 = 1 from by decide]
                            have bz366336 : gB z366336 1 100 := gB_add (gI_add hz366336 bg366310 (gBl (show Int32.toInt 1 = 1 by decide)) (by decide) (by decide)) bg366310 (gBl (show Int32.toInt 1 = 1 by decide)) (by decide) (by decide)
                            refine G_mmax dr_cX17_share_141 wr_11_21 wr_1_140 wr_1_6 wr_1_141 (Nat.le_of_ble_eq_true rfl) (Nat.le_of_ble_eq_true rfl) (show 0 ≤ 0 by first | omega | decide) (show 0 ≤ 0 by first | omega | decide) (G_nam fun z366337 hz366337 => ?_)
                            have ez366337 : g364893.toInt ≤ z366337.toInt ∧ z366336.toInt ≤ z366337.toInt ∧ (z366337.toInt = g364893.toInt ∨ z366337.toInt = z366336.toInt) := by have := gI_max hz366337; omega
                            have bz366337 : gB z366337 1 1999 := ⟨by omega, by omega⟩
                            have bz366337' : gB z366337 1 100 := ⟨by omega, by omega⟩
                            refine G_istore_n (L' := [(2, .int z366337), (5, .int g366234), (4, .int g366310), (3, .int g364892), (0, .ref q344828), (1, .ref q344829)]) dr_cX17_share_144 (Nat.le_of_ble_eq_true rfl) rfl ?_
                            obtain ⟨z366338, hz366338⟩ : ∃ z : Int32, z = g364892 + Int32.ofInt 1 := ⟨_, rfl⟩
                            have ez366338 : z366338.toInt = g364892.toInt + 1 := gI_inc hz366338 (by decide) bg364892' (by decide) (by decide)
                            have bz366338 : gB z366338 1 100 := ⟨by omega, by omega⟩
                            refine G_iinc (L' := [(3, .int z366338), (2, .int z366337), (5, .int g366234), (4, .int g366310), (0, .ref q344828), (1, .ref q344829)]) z366338 3 dr_cX17_share_145 rfl hz366338.symm (Nat.le_of_ble_eq_true rfl) rfl ?_
                            refine G_goto 10 dr_cX17_share_148 (by decide +kernel) ?_
                            refine G_lv (L' := [(3, .int z366338), (2, .int z366337), (0, .ref q344828), (1, .ref q344829)]) [0, 1, 4, 5] rfl ?_
                            exact ih10_364901 F366317 z366338 z366337 (gB_w bz366338 (by decide) (by decide)) (gB_w bz366337' (by decide) (by decide)) hT366327 hs366324 (by rw [ez366338]; rw [cB_of he366322]; exact sl_u hf366320 (by omega) (by omega) (by omega) cq366314) (by omega) kp366325 fs366326 mk366323 (mz_up ez366338 (Int.le_trans bg364892'.2 (by decide)) hm10_364901)
                        · have r366339 : g366310.toInt < g364892.toInt := gC_nle hc366315
                          have bg366310' : gB g366310 0 98 := ⟨by omega, by omega⟩
                          have bg364892'' : gB g364892 1 99 := ⟨by omega, by omega⟩
                          refine G_aload_n 4 dr_cX17_share_102 rfl ?_
                          refine Gp_get 16 hm366246 he366245 dr_cX17_share_103 (gk_X17 D I) (Nat.le_of_ble_eq_true rfl) wr_7_90 rfl ?_
                          refine G_iload 1 dr_cX17_share_106 rfl ?_
                          have hm366340 : (γ 9 16) ∈ P344826 := RS_m hT366236 ht344864 (by decide)
                          obtain ⟨f366342, he366341⟩ := show rk_19 I (F366235 (γ 9 16)) from RS_o hT366236 ht344864
                          refine Gp_iald 0 hm366340 he366341 dr_cX17_share_108 rfl (gB_in bg366310' (by decide) (by decide)) (G_nam fun z366343 hz366343 => ?_)
                          have bz366343 : gB z366343 (-2147483648) 2147483647 := gB_any z366343
                          refine G_iconst 1 dr_cX17_share_109 (by decide +kernel) ?_
                          refine G_icmp_ne 119 dr_cX17_share_110 (by decide +kernel) (fun hc366344 => ?_) (fun hc366344 => ?_)
                          · have r366345 : z366343.toInt ≠ 1 := gj_neq hc366344 (show Int32.toInt 1 = 1 by decide)
                            refine G_aload_n 4 dr_cX17_share_119 rfl ?_
                            refine Gp_get 19 hm366246 he366245 dr_cX17_share_120 (gk_X17 D I) (Nat.le_of_ble_eq_true rfl) wr_7_93 rfl ?_
                            refine G_iload_n 2 dr_cX17_share_123 rfl ?_
                            refine G_iload 1 dr_cX17_share_124 rfl ?_
                            refine Gp_iast 0 hm366247 he366248 dr_cX17_share_126 rfl (gB_in bg364892'' (by decide) (by decide)) (fun F366346 e366347 n366348 => ?_)
                            obtain ⟨f366349, hf366349⟩ : ∃ z, z = upd f366249 g364892.toNatClampNeg g366310 := ⟨_, rfl⟩
                            rw [← hf366349] at e366347
                            have he366350 : F366346 q344828 = .inr (22, [.ref (γ 9 0), .ref (γ 9 1), .ref (γ 9 2), .ref (γ 9 3), .ref (γ 9 4), .ref (γ 9 5), .ref (γ 9 6), .ref (γ 9 7), .ref (γ 9 8), .int p344837, .int p344838, .int p344839, .int p344840, .int p344841, .int p344842, .ref (γ 9 15), .ref (γ 9 16), .ref (γ 9 17), .ref (γ 9 18), .ref (γ 9 19), .ref (γ 9 20), .ref (γ 9 21), .ref (γ 9 22), .int p344843, .int p344844, .int p344845, .int p344846, .int p344847, .ref q344835, .ref (γ 9 29), .int p344848, .ref (γ 9 31), .int p344849, .int p344850, .int p344851, .ref q344836]) := (n366348 q344828 (rn_oa he366245 he366248)).trans he366245
                            have he366351 : F366346 (γ 9 16) = .inl (I .int, 2000, .inl f366342) := (n366348 (γ 9 16) (rn_ty ht344864 ht344867 (by decide))).trans he366341
                            have he366352 : F366346 (γ 9 19) = .inl (I .int, 2000, .inl f366349) := e366347
                            have mk366353 : mKp (F344827 q344828) (F366346 q344828) := mKp_tr x366241 (mKp_eq (n366348 q344828 (rn_ty htq344828 ht344867 (by decide))))
                            have hs366354 : rStr γ [1] F344827 F366346 := rStr_put hs366237 n366348 ht344867 (by decide)
                            have kp366355 : F366346 q344828 = F344827 q344828 := (n366348 q344828 (rn_ty htq344828 ht344867 (by decide))).trans x366239
                            have fs366356 : rFs γ (γ 1 q344829) F344827 F366346 := rFs_pn x366240 n366348 ht344867 (by decide)
                            have bf366349 : gF f366349 (-1) 1999 := gF_upd hf366349 bf366249 (gB_w bg366310' (by decide) (by decide))
                            refine G_aload_n 4 dr_cX17_share_127 rfl ?_
                            refine Gp_get 3 hm366246 he366350 dr_cX17_share_128 (gk_X17 D I) (Nat.le_of_ble_eq_true rfl) wr_7_77 rfl ?_
                            refine G_iload_n 2 dr_cX17_share_131 rfl ?_
                            have hT366357 : RS D I P344826 F366346 γ el := RS_set hT366236 n366348 ht344867 (by decide) ⟨f366349, he366352, bf366349⟩
                            have hm366358 : (γ 9 3) ∈ P344826 := RS_m hT366357 ht344857 (by decide)
                            obtain ⟨f366360, he366359, bf366360⟩ := show rk_14 I (F366346 (γ 9 3)) from RS_o hT366357 ht344857
                            refine Gp_zald 3 hm366358 he366359 dr_cX17_share_132 rfl (gB_in bg364892'' (by decide) (by decide)) (G_nam fun z366361 hz366361 => ?_)
                            have bz366361 : gB z366361 0 1 := by rw [hz366361]; exact bf366360 _
                            refine G_if_eq 145 dr_cX17_share_133 (by decide +kernel) (fun hc366362 => ?_) (fun hc366362 => ?_)
                            · have r366363 : z366361.toInt = 0 := gj_eq hc366362 (show Int32.toInt 0 = 0 by decide)
                              have bz366361' : gB z366361 0 0 := gB_t0 r366363
                              obtain ⟨z366364, hz366364⟩ : ∃ z : Int32, z = g364892 + Int32.ofInt 1 := ⟨_, rfl⟩
                              have ez366364 : z366364.toInt = g364892.toInt + 1 := gI_inc hz366364 (by decide) bg364892'' (by decide) (by decide)
                              have bz366364 : gB z366364 2 100 := ⟨by omega, by omega⟩
                              refine G_iinc (L' := [(3, .int z366364), (5, .int g366234), (4, .int g366310), (2, .int g364893), (0, .ref q344828), (1, .ref q344829)]) z366364 2 dr_cX17_share_145 rfl hz366364.symm (Nat.le_of_ble_eq_true rfl) rfl ?_
                              refine G_goto 10 dr_cX17_share_148 (by decide +kernel) ?_
                              refine G_lv (L' := [(3, .int z366364), (2, .int g364893), (0, .ref q344828), (1, .ref q344829)]) [0, 3, 4, 5] rfl ?_
                              exact ih10_364901 F366346 z366364 g364893 (gB_w bz366364 (by decide) (by decide)) bg364893 hT366357 hs366354 (by rw [ez366364]; rw [cB_of he366352]; exact sl_u hf366349 (by omega) (by omega) (by omega) cq366314) (by omega) kp366355 fs366356 mk366353 (mz_up ez366364 (Int.le_trans bg364892''.2 (by decide)) hm10_364901)
                            · have r366365 : z366361.toInt ≠ 0 := gj_neq hc366362 (show Int32.toInt 0 = 0 by decide)
                              have bz366361' : gB z366361 1 1 := gB_t1 bz366361 r366365
                              refine G_iload_n 3 dr_cX17_share_136 rfl ?_
                              refine G_iload 1 dr_cX17_share_137 rfl ?_
                              refine G_iconst 1 dr_cX17_share_139 (by decide +kernel) ?_
                              refine G_iadd dr_cX17_share_140 (G_nam fun z366366 hz366366 => ?_)
                              have ez366366 : z366366.toInt = g366310.toInt + 1 := by rw [gI_add hz366366 bg366310' (gBl (show Int32.toInt 1 = 1 by decide)) (by decide) (by decide), show Int32.toInt 1 = 1 from by decide]
                              have bz366366 : gB z366366 1 99 := gB_add (gI_add hz366366 bg366310' (gBl (show Int32.toInt 1 = 1 by decide)) (by decide) (by decide)) bg366310' (gBl (show Int32.toInt 1 = 1 by decide)) (by decide) (by decide)
                              refine G_mmax dr_cX17_share_141 wr_11_21 wr_1_140 wr_1_6 wr_1_141 (Nat.le_of_ble_eq_true rfl) (Nat.le_of_ble_eq_true rfl) (show 0 ≤ 0 by first | omega | decide) (show 0 ≤ 0 by first | omega | decide) (G_nam fun z366367 hz366367 => ?_)
                              have ez366367 : g364893.toInt ≤ z366367.toInt ∧ z366366.toInt ≤ z366367.toInt ∧ (z366367.toInt = g364893.toInt ∨ z366367.toInt = z366366.toInt) := by have := gI_max hz366367; omega
                              have bz366367 : gB z366367 1 1999 := ⟨by omega, by omega⟩
                              have bz366367' : gB z366367 1 100 := ⟨by omega, by omega⟩
                              refine G_istore_n (L' := [(2, .int z366367), (5, .int g366234), (4, .int g366310), (3, .int g364892), (0, .ref q344828), (1, .ref q344829)]) dr_cX17_share_144 (Nat.le_of_ble_eq_true rfl) rfl ?_
                              obtain ⟨z366368, hz366368⟩ : ∃ z : Int32, z = g364892 + Int32.ofInt 1 := ⟨_, rfl⟩
                              have ez366368 : z366368.toInt = g364892.toInt + 1 := gI_inc hz366368 (by decide) bg364892'' (by decide) (by decide)
                              have bz366368 : gB z366368 2 100 := ⟨by omega, by omega⟩
                              refine G_iinc (L' := [(3, .int z366368), (2, .int z366367), (5, .int g366234), (4, .int g366310), (0, .ref q344828), (1, .ref q344829)]) z366368 3 dr_cX17_share_145 rfl hz366368.symm (Nat.le_of_ble_eq_true rfl) rfl ?_
                              refine G_goto 10 dr_cX17_share_148 (by decide +kernel) ?_
                              refine G_lv (L' := [(3, .int z366368), (2, .int z366367), (0, .ref q344828), (1, .ref q344829)]) [0, 1, 4, 5] rfl ?_
                              exact ih10_364901 F366346 z366368 z366367 (gB_w bz366368 (by decide) (by decide)) (gB_w bz366367' (by decide) (by decide)) hT366357 hs366354 (by rw [ez366368]; rw [cB_of he366352]; exact sl_u hf366349 (by omega) (by omega) (by omega) cq366314) (by omega) kp366355 fs366356 mk366353 (mz_up ez366368 (Int.le_trans bg364892''.2 (by decide)) hm10_364901)
                          · have r366369 : z366343.toInt = 1 := gj_eq hc366344 (show Int32.toInt 1 = 1 by decide)
                            have bz366343' : gB z366343 1 1 := ⟨by omega, by omega⟩
                            obtain ⟨z366370, hz366370⟩ : ∃ z : Int32, z = g366310 + Int32.ofInt 1 := ⟨_, rfl⟩
                            have ez366370 : z366370.toInt = g366310.toInt + 1 := gI_inc hz366370 (by decide) bg366310' (by decide) (by decide)
                            have bz366370 : gB z366370 1 99 := ⟨by omega, by omega⟩
                            refine G_iinc (L' := [(4, .int z366370), (5, .int g366234), (3, .int g364892), (2, .int g364893), (0, .ref q344828), (1, .ref q344829)]) z366370 1 dr_cX17_share_113 rfl hz366370.symm (Nat.le_of_ble_eq_true rfl) rfl ?_
                            refine G_goto 96 dr_cX17_share_116 (by decide +kernel) ?_
                            refine G_lv (L' := [(5, .int g366234), (4, .int z366370), (3, .int g364892), (2, .int g364893), (0, .ref q344828), (1, .ref q344829)]) [1, 0, 2, 3, 4, 5] rfl ?_
                            exact ih96_366312 z366370 (gB_w bz366370 (by decide) (by decide)) (by rw [cB_of he366248]; exact cq366314) (by omega) (mz_up ez366370 (Int.le_trans bg366310'.2 (by decide)) hm96_366312)
                    exact hlp96_366312 (((100 : Int) - 0).toNat + 1) 0 (gB_w (gBl (show Int32.toInt 0 = 0 by decide)) (by decide) (by decide)) (by rw [cB_of he366248]; exact cq366250) (by have qa0 : Int32.toInt 0 = 0 := (by decide); omega) (Nat.lt_succ_self _)
                  · have r366371 : g366234.toInt < g364892.toInt := gC_nle hc366251
                    have bg366234' : gB g366234 0 98 := ⟨by omega, by omega⟩
                    have bg364892'' : gB g364892 1 99 := ⟨by omega, by omega⟩
                    refine G_aload_n 4 dr_cX17_share_53 rfl ?_
                    refine Gp_get 3 hm366246 he366245 dr_cX17_share_54 (gk_X17 D I) (Nat.le_of_ble_eq_true rfl) wr_7_77 rfl ?_
                    refine G_iload 0 dr_cX17_share_57 rfl ?_
                    have hm366372 : (γ 9 3) ∈ P344826 := RS_m hT366236 ht344857 (by decide)
                    obtain ⟨f366374, he366373, bf366374⟩ := show rk_14 I (F366235 (γ 9 3)) from RS_o hT366236 ht344857
                    refine Gp_zald 3 hm366372 he366373 dr_cX17_share_59 rfl (gB_in bg366234' (by decide) (by decide)) (G_nam fun z366375 hz366375 => ?_)
                    have bz366375 : gB z366375 0 1 := by rw [hz366375]; exact bf366374 _
                    refine G_if_eq 90 dr_cX17_share_60 (by decide +kernel) (fun hc366376 => ?_) (fun hc366376 => ?_)
                    · have r366377 : z366375.toInt = 0 := gj_eq hc366376 (show Int32.toInt 0 = 0 by decide)
                      have bz366375' : gB z366375 0 0 := gB_t0 r366377
                      obtain ⟨z366378, hz366378⟩ : ∃ z : Int32, z = g366234 + Int32.ofInt 1 := ⟨_, rfl⟩
                      have ez366378 : z366378.toInt = g366234.toInt + 1 := gI_inc hz366378 (by decide) bg366234' (by decide) (by decide)
                      have bz366378 : gB z366378 1 99 := ⟨by omega, by omega⟩
                      refine G_iinc (L' := [(5, .int z366378), (4, .int 0), (3, .int g364892), (2, .int g364893), (0, .ref q344828), (1, .ref q344829)]) z366378 0 dr_cX17_share_90 rfl hz366378.symm (Nat.le_of_ble_eq_true rfl) rfl ?_
                      refine G_goto 47 dr_cX17_share_93 (by decide +kernel) ?_
                      exact ih47_366241 F366235 z366378 (gB_w bz366378 (by decide) (by decide)) hT366236 hs366237 (by rw [cB_of he366248]; exact cq366250) x366239 x366240 x366241 (mz_up ez366378 (Int.le_trans bg366234'.2 (by decide)) hm47_366241)
                    · have r366379 : z366375.toInt ≠ 0 := gj_neq hc366376 (show Int32.toInt 0 = 0 by decide)
                      have bz366375' : gB z366375 1 1 := gB_t1 bz366375 r366379
                      refine G_aload_n 4 dr_cX17_share_63 rfl ?_
                      refine Gp_get 1 hm366246 he366245 dr_cX17_share_64 (gk_X17 D I) (Nat.le_of_ble_eq_true rfl) wr_7_75 rfl ?_
                      refine G_iload_n 2 dr_cX17_share_67 rfl ?_
                      have hm366380 : (γ 9 1) ∈ P344826 := RS_m hT366236 ht344855 (by decide)
                      obtain ⟨f366382, he366381, hg366383⟩ := show rk_13 I γ (F366235 (γ 9 1)) from RS_o hT366236 ht344855
                      obtain ⟨q366384, hx366386⟩ : ∃ x, x = γ 11 g364892.toInt.toNat := ⟨_, rfl⟩
                      have ht366385 : rKd γ q366384 36 := by rw [hx366386]; exact (hg366383 _ (show g364892.toInt.toNat < 2000 by omega)).2.1
                      refine Gp_aald 5 hm366380 he366381 dr_cX17_share_68 rfl rfl (gB_in bg364892'' (by decide) (by decide)) ?_
                      rw [show f366382 g364892.toNatClampNeg = some q366384 from (hg366383 _ (show g364892.toInt.toNat < 2000 by omega)).1.trans (by rw [hx366386])]
                      change G _ _ _ _ _ _ _ (.ref q366384 :: _) _ _ _
                      refine G_iload 0 dr_cX17_share_69 rfl ?_
                      have hm366387 : q366384 ∈ P344826 := RS_m hT366236 ht366385 (by decide)
                      obtain ⟨f366389, he366388, wf366389⟩ := show rk_36 I (F366235 q366384) from RS_o hT366236 ht366385
                      refine Gw_callS (As := [.ref q366384, .int g366234]) (gV_ok D I) (cp_1845_SpillForgeModel_has l hl0 D I P344826 F366235 q366384 g366234 f366389 hm366387 he366388 (gB_w bg366234' (by decide) (by decide))) dr_cX17_share_71 ⟨wr_10_203, wr_1_14, wr_10_205, by decide, rfl, (Nat.le_of_ble_eq_true rfl), (Nat.le_of_ble_eq_true rfl)⟩ wr_10_204 (show 0 + 0 ≤ 0 by first | omega | decide) (show 0 + 0 ≤ 0 by first | omega | decide) (Nat.le_of_ble_eq_true rfl) (fun r366393 w366394 dc366390 ds366391 hp366392 => ?_) (fun _ _ _ _ _ z => z.elim)
                      rcases hp366392 with ⟨z366395, z366396, rfl, rfl, hdc, hds, r366397, r366398, r366399, r366400, r366401⟩ | ⟨z366402, z366403, rfl, rfl, hdc, hds, r366404, r366405, r366406, r366407, r366408⟩
                      · change G _ _ _ _ _ _ _ (.int 0 :: _) _ _ _
                        refine G_widen (cs' := 0) (sl' := 0) (by omega) (by omega) ?_
                        refine G_if_eq 90 dr_cX17_share_74 (by decide +kernel) (fun _ => ?_) (fun hc => absurd hc (by decide))
                        obtain ⟨z366410, hz366410⟩ : ∃ z : Int32, z = g366234 + Int32.ofInt 1 := ⟨_, rfl⟩
                        have ez366410 : z366410.toInt = g366234.toInt + 1 := gI_inc hz366410 (by decide) bg366234' (by decide) (by decide)
                        have bz366410 : gB z366410 1 99 := ⟨by omega, by omega⟩
                        refine G_iinc (L' := [(5, .int z366410), (4, .int 0), (3, .int g364892), (2, .int g364893), (0, .ref q344828), (1, .ref q344829)]) z366410 0 dr_cX17_share_90 rfl hz366410.symm (Nat.le_of_ble_eq_true rfl) rfl ?_
                        refine G_goto 47 dr_cX17_share_93 (by decide +kernel) ?_
                        exact ih47_366241 F366235 z366410 (gB_w bz366410 (by decide) (by decide)) hT366236 hs366237 (by rw [cB_of he366248]; exact cq366250) x366239 x366240 x366241 (mz_up ez366410 (Int.le_trans bg366234'.2 (by decide)) hm47_366241)
                      · change G _ _ _ _ _ _ _ (.int 1 :: _) _ _ _
                        refine G_widen (cs' := 0) (sl' := 0) (by omega) (by omega) ?_
                        refine G_if_eq 90 dr_cX17_share_74 (by decide +kernel) (fun hc => absurd hc (by decide)) (fun _ => ?_)
                        refine G_aload_n 4 dr_cX17_share_77 rfl ?_
                        refine Gp_get 16 hm366246 he366245 dr_cX17_share_78 (gk_X17 D I) (Nat.le_of_ble_eq_true rfl) wr_7_90 rfl ?_
                        refine G_aload_n 4 dr_cX17_share_81 rfl ?_
                        refine Gp_get 19 hm366246 he366245 dr_cX17_share_82 (gk_X17 D I) (Nat.le_of_ble_eq_true rfl) wr_7_93 rfl ?_
                        refine G_iload 0 dr_cX17_share_85 rfl ?_
                        refine Gp_iald 0 hm366247 he366248 dr_cX17_share_87 rfl (gB_in bg366234' (by decide) (by decide)) (G_nam fun z366411 hz366411 => ?_)
                        have bz366411 : gB z366411 (-1) 1999 := by rw [hz366411]; exact bf366249 _
                        have r366412 : 0 ≤ z366411.toInt := by rw [hz366411]; exact (cq366250 g366234.toInt.toNat (by omega)).1
                        have bz366411' : gB z366411 0 1999 := ⟨by omega, by omega⟩
                        refine G_iconst 1 dr_cX17_share_88 (by decide +kernel) ?_
                        have hm366413 : (γ 9 16) ∈ P344826 := RS_m hT366236 ht344864 (by decide)
                        obtain ⟨f366415, he366414⟩ := show rk_19 I (F366235 (γ 9 16)) from RS_o hT366236 ht344864
                        refine Gp_iast 0 hm366413 he366414 dr_cX17_share_89 rfl (gB_in bz366411' (by decide) (by decide)) (fun F366416 e366417 n366418 => ?_)
                        obtain ⟨f366419, hf366419⟩ : ∃ z, z = upd f366415 z366411.toNatClampNeg 1 := ⟨_, rfl⟩
                        rw [← hf366419] at e366417
                        have he366420 : F366416 q344828 = .inr (22, [.ref (γ 9 0), .ref (γ 9 1), .ref (γ 9 2), .ref (γ 9 3), .ref (γ 9 4), .ref (γ 9 5), .ref (γ 9 6), .ref (γ 9 7), .ref (γ 9 8), .int p344837, .int p344838, .int p344839, .int p344840, .int p344841, .int p344842, .ref (γ 9 15), .ref (γ 9 16), .ref (γ 9 17), .ref (γ 9 18), .ref (γ 9 19), .ref (γ 9 20), .ref (γ 9 21), .ref (γ 9 22), .int p344843, .int p344844, .int p344845, .int p344846, .int p344847, .ref q344835, .ref (γ 9 29), .int p344848, .ref (γ 9 31), .int p344849, .int p344850, .int p344851, .ref q344836]) := (n366418 q344828 (rn_oa he366245 he366414)).trans he366245
                        have he366421 : F366416 (γ 9 19) = .inl (I .int, 2000, .inl f366249) := (n366418 (γ 9 19) (rn_ty ht344867 ht344864 (by decide))).trans he366248
                        have he366422 : F366416 (γ 9 3) = .inl (I .boolean, 2000, .inl f366374) := (n366418 (γ 9 3) (rn_ty ht344857 ht344864 (by decide))).trans he366373
                        have he366423 : F366416 (γ 9 1) = .inl (I (.array .long), 2000, .inr (.inr (.inr (.inr f366382)))) := (n366418 (γ 9 1) (rn_ref_num he366381 he366414)).trans he366381
                        have he366424 : F366416 q366384 = .inl (I .long, 32, .inr (.inl f366389)) := (n366418 q366384 (rn_long_num he366388 he366414)).trans he366388
                        have he366425 : F366416 (γ 9 16) = .inl (I .int, 2000, .inl f366419) := e366417
                        have mk366426 : mKp (F344827 q344828) (F366416 q344828) := mKp_tr x366241 (mKp_eq (n366418 q344828 (rn_ty htq344828 ht344864 (by decide))))
                        have hs366427 : rStr γ [1] F344827 F366416 := rStr_put hs366237 n366418 ht344864 (by decide)
                        have kp366428 : F366416 q344828 = F344827 q344828 := (n366418 q344828 (rn_ty htq344828 ht344864 (by decide))).trans x366239
                        have fs366429 : rFs γ (γ 1 q344829) F344827 F366416 := rFs_pn x366240 n366418 ht344864 (by decide)
                        obtain ⟨z366430, hz366430⟩ : ∃ z : Int32, z = g366234 + Int32.ofInt 1 := ⟨_, rfl⟩
                        have ez366430 : z366430.toInt = g366234.toInt + 1 := gI_inc hz366430 (by decide) bg366234' (by decide) (by decide)
                        have bz366430 : gB z366430 1 99 := ⟨by omega, by omega⟩
                        refine G_iinc (L' := [(5, .int z366430), (4, .int 0), (3, .int g364892), (2, .int g364893), (0, .ref q344828), (1, .ref q344829)]) z366430 0 dr_cX17_share_90 rfl hz366430.symm (Nat.le_of_ble_eq_true rfl) rfl ?_
                        refine G_goto 47 dr_cX17_share_93 (by decide +kernel) ?_
                        have hT366431 : RS D I P344826 F366416 γ el := RS_set hT366236 n366418 ht344864 (by decide) ⟨f366419, he366425⟩
                        exact ih47_366241 F366416 z366430 (gB_w bz366430 (by decide) (by decide)) hT366431 hs366427 (by rw [cB_of he366421]; exact cq366250) kp366428 fs366429 mk366426 (mz_up ez366430 (Int.le_trans bg366234'.2 (by decide)) hm47_366241)
              exact hlp47_366241 (((100 : Int) - 0).toNat + 1) F366025 0 (gB_w (gBl (show Int32.toInt 0 = 0 by decide)) (by decide) (by decide)) hT366026 hs366027 (by rw [cB_of he366038]; exact cq366040) x366029 x366030 x366031 (Nat.lt_succ_self _)
            · have r366432 : g366024.toInt < g364892.toInt := gC_nle hc366041
              have bg366024' : gB g366024 0 98 := ⟨by omega, by omega⟩
              have bg364892'' : gB g364892 1 99 := ⟨by omega, by omega⟩
              refine G_aload_n 4 dr_cX17_share_30 rfl ?_
              refine Gp_get 16 hm366036 he366035 dr_cX17_share_31 (gk_X17 D I) (Nat.le_of_ble_eq_true rfl) wr_7_90 rfl ?_
              refine G_iload 0 dr_cX17_share_34 rfl ?_
              refine G_iconst 0 dr_cX17_share_36 (by decide +kernel) ?_
              have hm366433 : (γ 9 16) ∈ P344826 := RS_m hT366026 ht344864 (by decide)
              obtain ⟨f366435, he366434⟩ := show rk_19 I (F366025 (γ 9 16)) from RS_o hT366026 ht344864
              refine Gp_iast 0 hm366433 he366434 dr_cX17_share_37 rfl (gB_in bg366024' (by decide) (by decide)) (fun F366436 e366437 n366438 => ?_)
              obtain ⟨f366439, hf366439⟩ : ∃ z, z = upd f366435 g366024.toNatClampNeg 0 := ⟨_, rfl⟩
              rw [← hf366439] at e366437
              have he366440 : F366436 q344828 = .inr (22, [.ref (γ 9 0), .ref (γ 9 1), .ref (γ 9 2), .ref (γ 9 3), .ref (γ 9 4), .ref (γ 9 5), .ref (γ 9 6), .ref (γ 9 7), .ref (γ 9 8), .int p344837, .int p344838, .int p344839, .int p344840, .int p344841, .int p344842, .ref (γ 9 15), .ref (γ 9 16), .ref (γ 9 17), .ref (γ 9 18), .ref (γ 9 19), .ref (γ 9 20), .ref (γ 9 21), .ref (γ 9 22), .int p344843, .int p344844, .int p344845, .int p344846, .int p344847, .ref q344835, .ref (γ 9 29), .int p344848, .ref (γ 9 31), .int p344849, .int p344850, .int p344851, .ref q344836]) := (n366438 q344828 (rn_oa he366035 he366434)).trans he366035
              have he366441 : F366436 (γ 9 19) = .inl (I .int, 2000, .inl f366039) := (n366438 (γ 9 19) (rn_ty ht344867 ht344864 (by decide))).trans he366038
              have he366442 : F366436 (γ 9 16) = .inl (I .int, 2000, .inl f366439) := e366437
              have mk366443 : mKp (F344827 q344828) (F366436 q344828) := mKp_tr x366031 (mKp_eq (n366438 q344828 (rn_ty htq344828 ht344864 (by decide))))
              have hs366444 : rStr γ [1] F344827 F366436 := rStr_put hs366027 n366438 ht344864 (by decide)
              have kp366445 : F366436 q344828 = F344827 q344828 := (n366438 q344828 (rn_ty htq344828 ht344864 (by decide))).trans x366029
              have fs366446 : rFs γ (γ 1 q344829) F344827 F366436 := rFs_pn x366030 n366438 ht344864 (by decide)
              obtain ⟨z366447, hz366447⟩ : ∃ z : Int32, z = g366024 + Int32.ofInt 1 := ⟨_, rfl⟩
              have ez366447 : z366447.toInt = g366024.toInt + 1 := gI_inc hz366447 (by decide) bg366024' (by decide) (by decide)
              have bz366447 : gB z366447 1 99 := ⟨by omega, by omega⟩
              refine G_iinc (L' := [(5, .int z366447), (4, .int 0), (3, .int g364892), (2, .int g364893), (0, .ref q344828), (1, .ref q344829)]) z366447 0 dr_cX17_share_38 rfl hz366447.symm (Nat.le_of_ble_eq_true rfl) rfl ?_
              refine G_goto 24 dr_cX17_share_41 (by decide +kernel) ?_
              have hT366448 : RS D I P344826 F366436 γ el := RS_set hT366026 n366438 ht344864 (by decide) ⟨f366439, he366442⟩
              exact ih24_366031 F366436 z366447 (gB_w bz366447 (by decide) (by decide)) hT366448 hs366444 (by rw [cB_of he366441]; exact cq366040) kp366445 fs366446 mk366443 (mz_up ez366447 (Int.le_trans bg366024'.2 (by decide)) hm24_366031)
        exact hlp24_366031 (((2000 : Int) - 0).toNat + 1) F364894 0 (gB_w (gBl (show Int32.toInt 0 = 0 by decide)) (by decide) (by decide)) hT364895 hs364896 (by rw [cB_of he364908]; exact cq364910) x364899 x364900 x364901 (Nat.lt_succ_self _)
  exact hlp10_364901 (((101 : Int) - 0).toNat + 1) F344892 0 0 (gB_w (gBl (show Int32.toInt 0 = 0 by decide)) (by decide) (by decide)) (gB_w (gBl (show Int32.toInt 0 = 0 by decide)) (by decide) (by decide)) hT344893 hs344895 (fun q hq => absurd hq (by have qa : Int32.toInt 0 = 0 := (by decide); omega)) (by have qa0 : Int32.toInt 0 = 0 := (by decide); omega) kp344897 fs344896 mk344898 (Nat.lt_succ_self _)
/- tl_RModel_zeros_10: P, F, gm, el, l3, l2; out: F, P, gm, el -/
def tl_RModel_zeros_10 (D : va_G) (I : FieldType → ClassId) (γ0 el0 : Nat → Nat → Nat) (f : Nat) (P : List Nat) (F : Nat → va_E) (q1 : Nat) (q0 : Nat) (s1 : List Nat) (s2 : Nat → va_E) (s3 : Nat → Nat → Nat) (s4 : Nat → Nat → Nat) (s5 : Int32) (s6 : Int32) (k : Nat) (e1 : Nat → va_E) (e2 : List Nat) (e3 : Nat → Nat → Nat) (e4 : Nat → Nat → Nat) : Prop := ∀ R : (List Nat) → (Nat → va_E) → (Nat → Nat → Nat) → (Nat → Nat → Nat) → (Int32) → (Int32) → Nat → (Nat → va_E) → (List Nat) → (Nat → Nat → Nat) → (Nat → Nat → Nat) → Prop,
  (∀ (P_1 : List Nat) (F_1 : Nat → va_E) (gm_1 : Nat → Nat → Nat) (el_1 : Nat → Nat → Nat) (l3_1 : Int32) (l2_1 : Int32), gB l3_1 0 2000 → gB l2_1 0 2000 → RS D I P_1 F_1 gm_1 el_1 → rSk f [101] ([1, 3, 5, 6, 8, 9, 101] ++ npk) D I P F γ0 el0 P_1 F_1 gm_1 el_1 → gm_1 6 f = γ0 6 f → gm_1 7 f = γ0 7 f → gm_1 18 f = γ0 18 f → gm_1 16 f ≤ γ0 16 f + (l2_1.toInt : Int).toNat → l2_1.toInt ≤ l3_1.toInt → (l2_1.toInt : Int) ≤ gm_1 2 (gm_1 14 (el_1 (gm_1 14 q1) (0 : Int32).toInt.toNat)) → (F_1 q0 = F q0) → 2000 ≤ l3_1.toInt → R P_1 F_1 gm_1 el_1 l3_1 l2_1 74 F_1 P_1 gm_1 el_1) →
  (∀ (P_1 : List Nat) (F_1 : Nat → va_E) (gm_1 : Nat → Nat → Nat) (el_1 : Nat → Nat → Nat) (l3_1 : Int32) (l2_1 : Int32) (x1 : Nat) (x2 : Nat → Int64) (x3 : Int32) (k : Nat) (e1 : Nat → va_E) (e2 : List Nat) (e3 : Nat → Nat → Nat) (e4 : Nat → Nat → Nat), gB l3_1 0 2000 → gB l2_1 0 2000 → RS D I P_1 F_1 gm_1 el_1 → rSk f [101] ([1, 3, 5, 6, 8, 9, 101] ++ npk) D I P F γ0 el0 P_1 F_1 gm_1 el_1 → gm_1 6 f = γ0 6 f → gm_1 7 f = γ0 7 f → gm_1 18 f = γ0 18 f → gm_1 16 f ≤ γ0 16 f + (l2_1.toInt : Int).toNat → l2_1.toInt ≤ l3_1.toInt → (l2_1.toInt : Int) ≤ gm_1 2 (gm_1 14 (el_1 (gm_1 14 q1) (0 : Int32).toInt.toNat)) → (F_1 q0 = F q0) → l3_1.toInt < 2000 → fR (F_1 q0) 0 = (gm_1 9 0) → x1 = gm_1 10 (0 : Int32).toInt.toNat → F_1 x1 = .inl (I .long, 32, .inr (.inl x2)) → tr_RModel_has l3_1 x2 (0 : Int32) → x3.toInt = l3_1.toInt + 1 → R P_1 F_1 gm_1 el_1 x3 l2_1 k e1 e2 e3 e4 → R P_1 F_1 gm_1 el_1 l3_1 l2_1 k e1 e2 e3 e4) →
  (∀ (P_1 : List Nat) (F_1 : Nat → va_E) (gm_1 : Nat → Nat → Nat) (el_1 : Nat → Nat → Nat) (l3_1 : Int32) (l2_1 : Int32) (x1 : Nat) (x2 : Nat → Int64) (x3 : Nat) (x4 : Nat) (x5 : List Nat) (x6 : Nat → va_E) (x7 : Nat → Nat → Nat) (x8 : Nat → Nat → Nat) (x9 : Nat) (x10 : Nat) (x11 : Nat) (x12 : Nat → va_E) (x13 : Nat → va_E) (x14 : Nat) (x15 : Nat) (x16 : Int32) (x17 : Nat) (x18 : List Nat) (x19 : Nat → va_E) (x20 : Nat → Nat → Nat) (x21 : Nat → Nat → Nat) (x22 : Nat) (x23 : Nat) (x24 : Int32) (x25 : Int32) (k : Nat) (e1 : Nat → va_E) (e2 : List Nat) (e3 : Nat → Nat → Nat) (e4 : Nat → Nat → Nat), gB l3_1 0 2000 → gB l2_1 0 2000 → RS D I P_1 F_1 gm_1 el_1 → rSk f [101] ([1, 3, 5, 6, 8, 9, 101] ++ npk) D I P F γ0 el0 P_1 F_1 gm_1 el_1 → gm_1 6 f = γ0 6 f → gm_1 7 f = γ0 7 f → gm_1 18 f = γ0 18 f → gm_1 16 f ≤ γ0 16 f + (l2_1.toInt : Int).toNat → l2_1.toInt ≤ l3_1.toInt → (l2_1.toInt : Int) ≤ gm_1 2 (gm_1 14 (el_1 (gm_1 14 q1) (0 : Int32).toInt.toNat)) → (F_1 q0 = F q0) → l3_1.toInt < 2000 → fR (F_1 q0) 0 = (gm_1 9 0) → x1 = gm_1 10 (0 : Int32).toInt.toNat → F_1 x1 = .inl (I .long, 32, .inr (.inl x2)) → tr_RModel_has l3_1 x2 (1 : Int32) → fR (F_1 q1) 0 = x3 → x4 = el_1 x3 (0 : Int32).toInt.toNat → rRq D I P_1 F_1 gm_1 el_1 f q1 x5 x6 x7 x8 x9 x10 x11 → (∀ b, b ≠ x9 → x12 b = x6 b) → x12 x9 = cF (x6 x9) 0 (.int 0) → (∀ b, b ≠ x9 → x13 b = x12 b) → x13 x9 = cF (x12 x9) 1 (.int l3_1) → fR (x13 q1) 0 = x14 → x15 = x8 x14 (0 : Int32).toInt.toNat → fI (x13 x14) 2 = x16 → tr_RCode_get (0 : Int32) x16 → fR (x13 x15) 0 = x17 → rIq D I x5 x13 x7 x8 f x17 l2_1.toInt.toNat x9 x18 x19 x20 x21 x22 x23 → x24.toInt = l2_1.toInt + 1 → x25.toInt = l3_1.toInt + 1 → R x18 x19 x20 x21 x25 x24 k e1 e2 e3 e4 → R P_1 F_1 gm_1 el_1 l3_1 l2_1 k e1 e2 e3 e4) →
  R s1 s2 s3 s4 s5 s6 k e1 e2 e3 e4
/- tr_RModel_zeros: P, F, gm, el -/
def tr_RModel_zeros (D : va_G) (I : FieldType → ClassId) (γ0 el0 : Nat → Nat → Nat) (f : Nat) (P : List Nat) (F : Nat → va_E) (q0 : Nat) (q1 : Nat) (o1 : List Nat) (o2 : Nat → va_E) (o3 : Nat → Nat → Nat) (o4 : Nat → Nat → Nat) : Prop := ∀ R : (List Nat) → (Nat → va_E) → (Nat → Nat → Nat) → (Nat → Nat → Nat) → Prop,
  (∀ (x1 : Nat → Nat → Nat) (x2 : Nat → Nat → Nat) (x3 : Nat → va_E) (x4 : Nat → va_E) (x5 : List Nat) (x6 : Nat → Nat → Nat) (x7 : Nat → Nat → Nat), x1 = γ0 → x2 = el0 → RS D I P x3 x1 x2 → rStr x1 [] F x3 → (x3 q0 = F q0) → tr_RModel_findLive D I x1 x2 P F q0 q1 (0 : Int32) x3 → tl_RModel_zeros_10 D I γ0 el0 f P F q1 q0 P x3 x1 x2 (0 : Int32) (0 : Int32) 74 x4 x5 x6 x7 → R x5 x4 x6 x7) →
  R o1 o2 o3 o4
