theorem dr_cX17_coloured_0 : decode cX17_coloured 0 = .ok (.aload_n 1, 1) := by decide +kernel
theorem dr_cX17_coloured_1 : decode cX17_coloured 1 = .ok (.invokevirtual 70, 3) := by decide +kernel
theorem dr_cX17_coloured_4 : decode cX17_coloured 4 = .ok (.ifCond .eq 16, 3) := by decide +kernel
theorem dr_cX17_coloured_20 : decode cX17_coloured 20 = .ok (.aload_n 1, 1) := by decide +kernel
theorem dr_cX17_coloured_21 : decode cX17_coloured 21 = .ok (.invokevirtual 76, 3) := by decide +kernel
theorem dr_cX17_coloured_24 : decode cX17_coloured 24 = .ok (.ifCond .eq 16, 3) := by decide +kernel
theorem dr_cX17_coloured_40 : decode cX17_coloured 40 = .ok (.aload_n 1, 1) := by decide +kernel
theorem dr_cX17_coloured_41 : decode cX17_coloured 41 = .ok (.invokevirtual 48, 3) := by decide +kernel
theorem dr_cX17_coloured_44 : decode cX17_coloured 44 = .ok (.ifCond .eq 16, 3) := by decide +kernel
theorem dr_cX17_coloured_60 : decode cX17_coloured 60 = .ok (.return_, 1) := by decide +kernel
theorem dr_cX17_coloured_47 : decode cX17_coloured 47 = .ok (.aload_n 1, 1) := by decide +kernel
theorem dr_cX17_coloured_48 : decode cX17_coloured 48 = .ok (.aload_n 0, 1) := by decide +kernel
theorem dr_cX17_coloured_49 : decode cX17_coloured 49 = .ok (.getfield 212, 3) := by decide +kernel
theorem dr_cX17_coloured_52 : decode cX17_coloured 52 = .ok (.aload_n 1, 1) := by decide +kernel
theorem dr_cX17_coloured_53 : decode cX17_coloured 53 = .ok (.getfield 52, 3) := by decide +kernel
theorem dr_cX17_coloured_56 : decode cX17_coloured 56 = .ok (.iaload, 1) := by decide +kernel
theorem dr_cX17_coloured_57 : decode cX17_coloured 57 = .ok (.putfield 52, 3) := by decide +kernel
theorem dr_cX17_coloured_27 : decode cX17_coloured 27 = .ok (.aload_n 1, 1) := by decide +kernel
theorem dr_cX17_coloured_28 : decode cX17_coloured 28 = .ok (.aload_n 0, 1) := by decide +kernel
theorem dr_cX17_coloured_29 : decode cX17_coloured 29 = .ok (.getfield 212, 3) := by decide +kernel
theorem dr_cX17_coloured_32 : decode cX17_coloured 32 = .ok (.aload_n 1, 1) := by decide +kernel
theorem dr_cX17_coloured_33 : decode cX17_coloured 33 = .ok (.getfield 79, 3) := by decide +kernel
theorem dr_cX17_coloured_36 : decode cX17_coloured 36 = .ok (.iaload, 1) := by decide +kernel
theorem dr_cX17_coloured_37 : decode cX17_coloured 37 = .ok (.putfield 79, 3) := by decide +kernel
theorem dr_cX17_coloured_7 : decode cX17_coloured 7 = .ok (.aload_n 1, 1) := by decide +kernel
theorem dr_cX17_coloured_8 : decode cX17_coloured 8 = .ok (.aload_n 0, 1) := by decide +kernel
theorem dr_cX17_coloured_9 : decode cX17_coloured 9 = .ok (.getfield 212, 3) := by decide +kernel
theorem dr_cX17_coloured_12 : decode cX17_coloured 12 = .ok (.aload_n 1, 1) := by decide +kernel
theorem dr_cX17_coloured_13 : decode cX17_coloured 13 = .ok (.getfield 73, 3) := by decide +kernel
theorem dr_cX17_coloured_16 : decode cX17_coloured 16 = .ok (.iaload, 1) := by decide +kernel
theorem dr_cX17_coloured_17 : decode cX17_coloured 17 = .ok (.putfield 73, 3) := by decide +kernel
theorem dr_cX17_share_0 : decode cX17_share 0 = .ok (.aload_n 0, 1) := by decide +kernel
theorem dr_cX17_share_1 : decode cX17_share 1 = .ok (.aload_n 1, 1) := by decide +kernel
theorem dr_cX17_share_2 : decode cX17_share 2 = .ok (.iconst 1, 1) := by decide +kernel
theorem dr_cX17_share_3 : decode cX17_share 3 = .ok (.invokevirtual 243, 3) := by decide +kernel
theorem wr_10_233 : (Jvm.Cond.methodLink "SpillForgeModel" (243 : Nat) ({ cls := "SpillForgeModel", name := "graph", desc := "(LSpillForgeModel$Code;Z)V" } : Jvm.MethodName)) ∈ gw := gw_10 233 rfl rfl
theorem wr_10_236 : (Jvm.Cond.code ({ cls := "SpillForgeModel", name := "graph", desc := "(LSpillForgeModel$Code;Z)V" } : Jvm.MethodName) prog_14_method_10_code (11 : Nat) (Option.none : Option Jvm.ClassFile.FieldType)) ∈ gw := gw_10 236 rfl rfl
theorem wr_10_235 : (Jvm.Cond.instanceMethod ({ cls := "SpillForgeModel", name := "graph", desc := "(LSpillForgeModel$Code;Z)V" } : Jvm.MethodName)) ∈ gw := gw_10 235 rfl rfl
theorem wr_p_99 : Cond.selects "SpillForgeModel" ⟨"SpillForgeModel", "graph", "(LSpillForgeModel$Code;Z)V"⟩ ⟨"SpillForgeModel", "graph", "(LSpillForgeModel$Code;Z)V"⟩ ∈ gw := gw_p _ 99 rfl rfl rfl
theorem dr_cX17_share_6 : decode cX17_share 6 = .ok (.iconst 0, 1) := by decide +kernel
theorem dr_cX17_share_7 : decode cX17_share 7 = .ok (.istore_n 2, 1) := by decide +kernel
theorem dr_cX17_share_8 : decode cX17_share 8 = .ok (.iconst 0, 1) := by decide +kernel
theorem dr_cX17_share_9 : decode cX17_share 9 = .ok (.istore_n 3, 1) := by decide +kernel
theorem dr_cX17_share_10 : decode cX17_share 10 = .ok (.iload_n 3, 1) := by decide +kernel
theorem dr_cX17_share_11 : decode cX17_share 11 = .ok (.aload_n 0, 1) := by decide +kernel
theorem dr_cX17_share_12 : decode cX17_share 12 = .ok (.getfield 224, 3) := by decide +kernel
theorem wr_7_85 : (Jvm.Cond.fieldLink "SpillForgeModel" (224 : Nat) "SpillForgeModel" "slots" "I") ∈ gw := gw_7 85 rfl rfl
theorem dr_cX17_share_15 : decode cX17_share 15 = .ok (.if_icmp .ge 136, 3) := by decide +kernel
theorem dr_cX17_share_151 : decode cX17_share 151 = .ok (.iconst 0, 1) := by decide +kernel
theorem dr_cX17_share_152 : decode cX17_share 152 = .ok (.istore_n 3, 1) := by decide +kernel
theorem dr_cX17_share_153 : decode cX17_share 153 = .ok (.iload_n 3, 1) := by decide +kernel
theorem dr_cX17_share_154 : decode cX17_share 154 = .ok (.aload_n 1, 1) := by decide +kernel
theorem dr_cX17_share_155 : decode cX17_share 155 = .ok (.invokevirtual 96, 3) := by decide +kernel
theorem dr_cX17_share_158 : decode cX17_share 158 = .ok (.if_icmp .ge 88, 3) := by decide +kernel
theorem dr_cX17_share_246 : decode cX17_share 246 = .ok (.aload_n 0, 1) := by decide +kernel
theorem dr_cX17_share_247 : decode cX17_share 247 = .ok (.iload_n 2, 1) := by decide +kernel
theorem dr_cX17_share_248 : decode cX17_share 248 = .ok (.putfield 224, 3) := by decide +kernel
theorem dr_cX17_share_251 : decode cX17_share 251 = .ok (.return_, 1) := by decide +kernel
theorem dr_cX17_share_161 : decode cX17_share 161 = .ok (.aload_n 1, 1) := by decide +kernel
theorem dr_cX17_share_162 : decode cX17_share 162 = .ok (.iload_n 3, 1) := by decide +kernel
theorem dr_cX17_share_163 : decode cX17_share 163 = .ok (.invokevirtual 101, 3) := by decide +kernel
theorem dr_cX17_share_166 : decode cX17_share 166 = .ok (.astore 4, 2) := by decide +kernel
theorem dr_cX17_share_168 : decode cX17_share 168 = .ok (.iconst 0, 1) := by decide +kernel
theorem dr_cX17_share_169 : decode cX17_share 169 = .ok (.istore 5, 2) := by decide +kernel
theorem dr_cX17_share_171 : decode cX17_share 171 = .ok (.iload 5, 2) := by decide +kernel
theorem dr_cX17_share_173 : decode cX17_share 173 = .ok (.aload 4, 2) := by decide +kernel
theorem dr_cX17_share_175 : decode cX17_share 175 = .ok (.getfield 117, 3) := by decide +kernel
theorem dr_cX17_share_178 : decode cX17_share 178 = .ok (.invokevirtual 121, 3) := by decide +kernel
theorem dr_cX17_share_181 : decode cX17_share 181 = .ok (.if_icmp .ge 59, 3) := by decide +kernel
theorem dr_cX17_share_240 : decode cX17_share 240 = .ok (.iinc 3 1, 3) := by decide +kernel
theorem dr_cX17_share_243 : decode cX17_share 243 = .ok (.goto (-90), 3) := by decide +kernel
theorem dr_cX17_share_184 : decode cX17_share 184 = .ok (.aload 4, 2) := by decide +kernel
theorem dr_cX17_share_186 : decode cX17_share 186 = .ok (.getfield 117, 3) := by decide +kernel
theorem dr_cX17_share_189 : decode cX17_share 189 = .ok (.iload 5, 2) := by decide +kernel
theorem dr_cX17_share_191 : decode cX17_share 191 = .ok (.invokevirtual 124, 3) := by decide +kernel
theorem dr_cX17_share_194 : decode cX17_share 194 = .ok (.checkcast 40, 3) := by decide +kernel
theorem dr_cX17_share_197 : decode cX17_share 197 = .ok (.astore 6, 2) := by decide +kernel
theorem dr_cX17_share_199 : decode cX17_share 199 = .ok (.aload 6, 2) := by decide +kernel
theorem dr_cX17_share_201 : decode cX17_share 201 = .ok (.getfield 39, 3) := by decide +kernel
theorem dr_cX17_share_204 : decode cX17_share 204 = .ok (.bipush 21, 2) := by decide +kernel
theorem dr_cX17_share_206 : decode cX17_share 206 = .ok (.if_icmp .eq 13, 3) := by decide +kernel
theorem dr_cX17_share_219 : decode cX17_share 219 = .ok (.aload 6, 2) := by decide +kernel
theorem dr_cX17_share_221 : decode cX17_share 221 = .ok (.aload_n 0, 1) := by decide +kernel
theorem dr_cX17_share_222 : decode cX17_share 222 = .ok (.getfield 221, 3) := by decide +kernel
theorem wr_7_93 : (Jvm.Cond.fieldLink "SpillForgeModel" (221 : Nat) "SpillForgeModel" "slotOf" "[I") ∈ gw := gw_7 93 rfl rfl
theorem dr_cX17_share_225 : decode cX17_share 225 = .ok (.aload 6, 2) := by decide +kernel
theorem dr_cX17_share_227 : decode cX17_share 227 = .ok (.getfield 45, 3) := by decide +kernel
theorem dr_cX17_share_230 : decode cX17_share 230 = .ok (.iaload, 1) := by decide +kernel
theorem dr_cX17_share_231 : decode cX17_share 231 = .ok (.putfield 45, 3) := by decide +kernel
theorem dr_cX17_share_234 : decode cX17_share 234 = .ok (.iinc 5 1, 3) := by decide +kernel
theorem dr_cX17_share_237 : decode cX17_share 237 = .ok (.goto (-66), 3) := by decide +kernel
theorem dr_cX17_share_209 : decode cX17_share 209 = .ok (.aload 6, 2) := by decide +kernel
theorem dr_cX17_share_211 : decode cX17_share 211 = .ok (.getfield 39, 3) := by decide +kernel
theorem dr_cX17_share_214 : decode cX17_share 214 = .ok (.bipush 23, 2) := by decide +kernel
theorem dr_cX17_share_216 : decode cX17_share 216 = .ok (.if_icmp .ne 18, 3) := by decide +kernel
theorem dr_cX17_share_18 : decode cX17_share 18 = .ok (.iconst 0, 1) := by decide +kernel
theorem dr_cX17_share_19 : decode cX17_share 19 = .ok (.istore 4, 2) := by decide +kernel
theorem dr_cX17_share_21 : decode cX17_share 21 = .ok (.iconst 0, 1) := by decide +kernel
theorem dr_cX17_share_22 : decode cX17_share 22 = .ok (.istore 5, 2) := by decide +kernel
theorem dr_cX17_share_24 : decode cX17_share 24 = .ok (.iload 5, 2) := by decide +kernel
theorem dr_cX17_share_26 : decode cX17_share 26 = .ok (.iload_n 3, 1) := by decide +kernel
theorem dr_cX17_share_27 : decode cX17_share 27 = .ok (.if_icmp .ge 17, 3) := by decide +kernel
theorem dr_cX17_share_44 : decode cX17_share 44 = .ok (.iconst 0, 1) := by decide +kernel
theorem dr_cX17_share_45 : decode cX17_share 45 = .ok (.istore 5, 2) := by decide +kernel
theorem dr_cX17_share_47 : decode cX17_share 47 = .ok (.iload 5, 2) := by decide +kernel
theorem dr_cX17_share_49 : decode cX17_share 49 = .ok (.iload_n 3, 1) := by decide +kernel
theorem dr_cX17_share_50 : decode cX17_share 50 = .ok (.if_icmp .ge 46, 3) := by decide +kernel
theorem dr_cX17_share_96 : decode cX17_share 96 = .ok (.iload 4, 2) := by decide +kernel
theorem dr_cX17_share_98 : decode cX17_share 98 = .ok (.iload_n 3, 1) := by decide +kernel
theorem dr_cX17_share_99 : decode cX17_share 99 = .ok (.if_icmp .ge 20, 3) := by decide +kernel
theorem dr_cX17_share_119 : decode cX17_share 119 = .ok (.aload_n 0, 1) := by decide +kernel
theorem dr_cX17_share_120 : decode cX17_share 120 = .ok (.getfield 221, 3) := by decide +kernel
theorem dr_cX17_share_123 : decode cX17_share 123 = .ok (.iload_n 3, 1) := by decide +kernel
theorem dr_cX17_share_124 : decode cX17_share 124 = .ok (.iload 4, 2) := by decide +kernel
theorem dr_cX17_share_126 : decode cX17_share 126 = .ok (.iastore, 1) := by decide +kernel
theorem dr_cX17_share_127 : decode cX17_share 127 = .ok (.aload_n 0, 1) := by decide +kernel
theorem dr_cX17_share_128 : decode cX17_share 128 = .ok (.getfield 131, 3) := by decide +kernel
theorem dr_cX17_share_131 : decode cX17_share 131 = .ok (.iload_n 3, 1) := by decide +kernel
theorem dr_cX17_share_132 : decode cX17_share 132 = .ok (.baload, 1) := by decide +kernel
theorem dr_cX17_share_133 : decode cX17_share 133 = .ok (.ifCond .eq 12, 3) := by decide +kernel
theorem dr_cX17_share_145 : decode cX17_share 145 = .ok (.iinc 3 1, 3) := by decide +kernel
theorem dr_cX17_share_148 : decode cX17_share 148 = .ok (.goto (-138), 3) := by decide +kernel
theorem dr_cX17_share_136 : decode cX17_share 136 = .ok (.iload_n 2, 1) := by decide +kernel
theorem dr_cX17_share_137 : decode cX17_share 137 = .ok (.iload 4, 2) := by decide +kernel
theorem dr_cX17_share_139 : decode cX17_share 139 = .ok (.iconst 1, 1) := by decide +kernel
theorem dr_cX17_share_140 : decode cX17_share 140 = .ok (.iadd, 1) := by decide +kernel
theorem dr_cX17_share_141 : decode cX17_share 141 = .ok (.invokestatic 189, 3) := by decide +kernel
theorem dr_cX17_share_144 : decode cX17_share 144 = .ok (.istore_n 2, 1) := by decide +kernel
theorem dr_cX17_share_102 : decode cX17_share 102 = .ok (.aload_n 0, 1) := by decide +kernel
theorem dr_cX17_share_103 : decode cX17_share 103 = .ok (.getfield 209, 3) := by decide +kernel
theorem dr_cX17_share_106 : decode cX17_share 106 = .ok (.iload 4, 2) := by decide +kernel
theorem dr_cX17_share_108 : decode cX17_share 108 = .ok (.iaload, 1) := by decide +kernel
theorem dr_cX17_share_109 : decode cX17_share 109 = .ok (.iconst 1, 1) := by decide +kernel
theorem dr_cX17_share_110 : decode cX17_share 110 = .ok (.if_icmp .ne 9, 3) := by decide +kernel
theorem dr_cX17_share_113 : decode cX17_share 113 = .ok (.iinc 4 1, 3) := by decide +kernel
theorem dr_cX17_share_116 : decode cX17_share 116 = .ok (.goto (-20), 3) := by decide +kernel
theorem dr_cX17_share_53 : decode cX17_share 53 = .ok (.aload_n 0, 1) := by decide +kernel
theorem dr_cX17_share_54 : decode cX17_share 54 = .ok (.getfield 131, 3) := by decide +kernel
theorem dr_cX17_share_57 : decode cX17_share 57 = .ok (.iload 5, 2) := by decide +kernel
theorem dr_cX17_share_59 : decode cX17_share 59 = .ok (.baload, 1) := by decide +kernel
theorem dr_cX17_share_60 : decode cX17_share 60 = .ok (.ifCond .eq 30, 3) := by decide +kernel
theorem dr_cX17_share_90 : decode cX17_share 90 = .ok (.iinc 5 1, 3) := by decide +kernel
theorem dr_cX17_share_93 : decode cX17_share 93 = .ok (.goto (-46), 3) := by decide +kernel
theorem dr_cX17_share_63 : decode cX17_share 63 = .ok (.aload_n 0, 1) := by decide +kernel
theorem dr_cX17_share_64 : decode cX17_share 64 = .ok (.getfield 135, 3) := by decide +kernel
theorem dr_cX17_share_67 : decode cX17_share 67 = .ok (.iload_n 3, 1) := by decide +kernel
theorem dr_cX17_share_68 : decode cX17_share 68 = .ok (.aaload, 1) := by decide +kernel
theorem dr_cX17_share_69 : decode cX17_share 69 = .ok (.iload 5, 2) := by decide +kernel
theorem dr_cX17_share_71 : decode cX17_share 71 = .ok (.invokestatic 145, 3) := by decide +kernel
theorem dr_cX17_share_74 : decode cX17_share 74 = .ok (.ifCond .eq 16, 3) := by decide +kernel
theorem dr_cX17_share_77 : decode cX17_share 77 = .ok (.aload_n 0, 1) := by decide +kernel
theorem dr_cX17_share_78 : decode cX17_share 78 = .ok (.getfield 209, 3) := by decide +kernel
theorem dr_cX17_share_81 : decode cX17_share 81 = .ok (.aload_n 0, 1) := by decide +kernel
theorem dr_cX17_share_82 : decode cX17_share 82 = .ok (.getfield 221, 3) := by decide +kernel
theorem dr_cX17_share_85 : decode cX17_share 85 = .ok (.iload 5, 2) := by decide +kernel
theorem dr_cX17_share_87 : decode cX17_share 87 = .ok (.iaload, 1) := by decide +kernel
theorem dr_cX17_share_88 : decode cX17_share 88 = .ok (.iconst 1, 1) := by decide +kernel
theorem dr_cX17_share_89 : decode cX17_share 89 = .ok (.iastore, 1) := by decide +kernel
theorem dr_cX17_share_30 : decode cX17_share 30 = .ok (.aload_n 0, 1) := by decide +kernel
theorem dr_cX17_share_31 : decode cX17_share 31 = .ok (.getfield 209, 3) := by decide +kernel
theorem dr_cX17_share_34 : decode cX17_share 34 = .ok (.iload 5, 2) := by decide +kernel
theorem dr_cX17_share_36 : decode cX17_share 36 = .ok (.iconst 0, 1) := by decide +kernel
theorem dr_cX17_share_37 : decode cX17_share 37 = .ok (.iastore, 1) := by decide +kernel
theorem dr_cX17_share_38 : decode cX17_share 38 = .ok (.iinc 5 1, 3) := by decide +kernel
theorem dr_cX17_share_41 : decode cX17_share 41 = .ok (.goto (-17), 3) := by decide +kernel
abbrev ky_380790_SpillForgeModel_coloured : gKey := (cX17_coloured, 2, "SpillForgeModel", none, [], "coloured", fun _ _ => True)
def pt_380790_SpillForgeModel_coloured (D : va_G) (I : FieldType → ClassId) (γ el : Nat → Nat → Nat) (P380785 : List Nat) (F380786 : Nat → va_E) (q380787 : Nat) (q380788 : Nat) : Option Value → va_W → Nat → Nat → Prop := fun r w dc ds => ∃ (F381023 : Nat → va_E), r = none ∧ w = va_pl P380785 F381023 ∧ RS D I P380785 F381023 γ el ∧ rStr γ [1] F380786 F381023 ∧ dc ≤ 0 ∧ ds ≤ 0 ∧ (∀ b, b ≠ q380788 → F381023 b = F380786 b) ∧ (F381023 q380787 = F380786 q380787) ∧ (F381023 (γ 9 3) = F380786 (γ 9 3)) ∧ (F381023 (γ 9 17) = F380786 (γ 9 17))
set_option maxRecDepth 100000 in
set_option maxHeartbeats 4000000 in
theorem ct_380790_SpillForgeModel_coloured (l : Launch) (hl0 : l.stackTraces = false) (D : va_G) (I : FieldType → ClassId) (γ el : Nat → Nat → Nat) (P380785 : List Nat) (F380786 : Nat → va_E) (q380787 : Nat) (q380788 : Nat) (hT : RS D I P380785 F380786 γ el) (htq380787 : rKd γ q380787 10) (htq380788 : rKd γ q380788 1) (x380789 : (rNm (fun n => 0 ≤ (cB (F380786 (γ 9 17)) n).toInt) (F380786 q380788))) : CtA (gV D I) l yX17_coloured cX17_coloured 2 none 1 20 0 0 [.ref q380787, .ref q380788] (va_pl P380785 F380786) (pt_380790_SpillForgeModel_coloured D I γ el P380785 F380786 q380787 q380788) gNA := by
  refine CtA_of hl0 (by decide) (Nat.le_of_ble_eq_true rfl) ?_
  have hm380791 : q380787 ∈ P380785 := RS_m hT htq380787 (by decide)
  obtain ⟨q380793, q380794, p380795, p380796, p380797, p380798, p380799, p380800, p380801, p380802, p380803, p380804, p380805, p380806, p380807, p380808, p380809, he380792, hB380836, ht380810, ht380811, ht380812, ht380813, ht380814, ht380815, ht380816, ht380817, ht380818, ht380819, ht380820, ht380821, ht380822, ht380823, ht380824, ht380825, ht380826, ht380827, ht380828, ht380829, ht380830, ht380831, ht380832, ht380833, hB380837⟩ := show rk_10 γ (F380786 q380787) from RS_o hT htq380787
  have hm380838 : (γ 9 17) ∈ P380785 := RS_m hT ht380823 (by decide)
  obtain ⟨f380840, he380839, bf380840⟩ := show rk_20 I (F380786 (γ 9 17)) from RS_o hT ht380823
  have hm380841 : q380788 ∈ P380785 := RS_m hT htq380788 (by decide)
  obtain ⟨p380843, p380844, p380845, p380846, p380847, p380848, p380849, he380842, bp380843, bp380844, bp380847, bp380848, bp380849, r380850, r380851, r380852, r380853⟩ := show rk_1 γ q380788 (F380786 q380788) from RS_o hT htq380788
  have bp380845 := gB_any p380845
  have bp380846 := gB_any p380846
  have cq380854 : ∀ n, nmV p380843.toInt p380844.toInt p380845.toInt p380846.toInt p380848.toInt p380849.toInt n → 0 ≤ (f380840 n).toInt := by have z := x380789; unfold rNm at z; rw [nmS_of he380842, cB_of he380839] at z; exact z
  refine G_aload_n 1 dr_cX17_coloured_0 rfl ?_
  refine Gw_callV (As := []) (gV_ok D I) (cp_214529_Row_usesA l hl0 D I P380785 F380786 q380788 p380843 p380844 p380845 p380846 p380847 p380848 p380849 hm380841 he380842 bp380843 bp380844 bp380847 bp380848 bp380849) dr_cX17_coloured_1 ⟨wr_10_192, wr_1_39, wr_10_195, by decide, rfl, (Nat.le_of_ble_eq_true rfl), (Nat.le_of_ble_eq_true rfl)⟩ wr_10_193 wr_10_194 hm380841 he380842 rfl (show 0 + 0 ≤ 0 by first | omega | decide) (show 0 + 0 ≤ 0 by first | omega | decide) (Nat.le_of_ble_eq_true rfl) (fun r380858 w380859 dc380855 ds380856 hp380857 => ?_) (fun _ _ _ _ _ z => z.elim)
  obtain ⟨o380860, rfl, rfl, hdc, hds, bo380860, x380861⟩ := hp380857
  change G _ _ _ _ _ _ _ (.int o380860 :: _) _ _ _
  refine G_widen (cs' := 0) (sl' := 0) (by omega) (by omega) ?_
  refine G_if_eq 20 dr_cX17_coloured_4 (by decide +kernel) (fun hc380862 => ?_) (fun hc380862 => ?_)
  · have r380863 : o380860.toInt = 0 := gj_eq hc380862 (show Int32.toInt 0 = 0 by decide)
    have bo380860' : gB o380860 0 0 := ⟨by omega, by omega⟩
    refine G_aload_n 1 dr_cX17_coloured_20 rfl ?_
    refine Gw_callV (As := []) (gV_ok D I) (cp_214553_Row_usesB l hl0 D I P380785 F380786 q380788 p380843 p380844 p380845 p380846 p380847 p380848 p380849 hm380841 he380842 bp380843 bp380844 bp380847 bp380848 bp380849) dr_cX17_coloured_21 ⟨wr_10_196, wr_1_39, wr_10_199, by decide, rfl, (Nat.le_of_ble_eq_true rfl), (Nat.le_of_ble_eq_true rfl)⟩ wr_10_197 wr_10_198 hm380841 he380842 rfl (show 0 + 0 ≤ 0 by first | omega | decide) (show 0 + 0 ≤ 0 by first | omega | decide) (Nat.le_of_ble_eq_true rfl) (fun r380867 w380868 dc380864 ds380865 hp380866 => ?_) (fun _ _ _ _ _ z => z.elim)
    obtain ⟨o380869, rfl, rfl, hdc, hds, bo380869, x380870⟩ := hp380866
    change G _ _ _ _ _ _ _ (.int o380869 :: _) _ _ _
    refine G_widen (cs' := 0) (sl' := 0) (by omega) (by omega) ?_
    refine G_if_eq 40 dr_cX17_coloured_24 (by decide +kernel) (fun hc380871 => ?_) (fun hc380871 => ?_)
    · have r380872 : o380869.toInt = 0 := gj_eq hc380871 (show Int32.toInt 0 = 0 by decide)
      have bo380869' : gB o380869 0 0 := ⟨by omega, by omega⟩
      refine G_aload_n 1 dr_cX17_coloured_40 rfl ?_
      refine Gw_callV (As := []) (gV_ok D I) (cp_214574_Row_sets l hl0 D I P380785 F380786 q380788 p380843 p380844 p380845 p380846 p380847 p380848 p380849 hm380841 he380842 bp380843 bp380844 bp380847 bp380848 bp380849) dr_cX17_coloured_41 ⟨wr_10_181, wr_1_39, wr_10_184, by decide, rfl, (Nat.le_of_ble_eq_true rfl), (Nat.le_of_ble_eq_true rfl)⟩ wr_10_182 wr_10_183 hm380841 he380842 rfl (show 0 + 0 ≤ 0 by first | omega | decide) (show 0 + 0 ≤ 0 by first | omega | decide) (Nat.le_of_ble_eq_true rfl) (fun r380876 w380877 dc380873 ds380874 hp380875 => ?_) (fun _ _ _ _ _ z => z.elim)
      obtain ⟨o380878, rfl, rfl, hdc, hds, bo380878, x380879⟩ := hp380875
      change G _ _ _ _ _ _ _ (.int o380878 :: _) _ _ _
      refine G_widen (cs' := 0) (sl' := 0) (by omega) (by omega) ?_
      refine G_if_eq 60 dr_cX17_coloured_44 (by decide +kernel) (fun hc380880 => ?_) (fun hc380880 => ?_)
      · have r380881 : o380878.toInt = 0 := gj_eq hc380880 (show Int32.toInt 0 = 0 by decide)
        have bo380878' : gB o380878 0 0 := ⟨by omega, by omega⟩
        exact G_vretA dr_cX17_coloured_60 rfl (Nat.le_of_ble_eq_true rfl) (Nat.le_of_ble_eq_true rfl) ⟨F380786, rfl, rfl, hT, (rStr_rf (γ := γ) (W := [1]) (F := F380786)), (Nat.le_of_ble_eq_true rfl), (Nat.le_of_ble_eq_true rfl), (fun _ _ => rfl), rfl, rfl, rfl⟩
      · have r380882 : o380878.toInt ≠ 0 := gj_neq hc380880 (show Int32.toInt 0 = 0 by decide)
        have bo380878' : gB o380878 1 1 := ⟨by omega, by omega⟩
        refine G_aload_n 1 dr_cX17_coloured_47 rfl ?_
        refine G_aload_n 0 dr_cX17_coloured_48 rfl ?_
        refine Gp_get 17 hm380791 he380792 dr_cX17_coloured_49 (gk_X17 D I) (Nat.le_of_ble_eq_true rfl) wr_7_91 rfl ?_
        refine G_aload_n 1 dr_cX17_coloured_52 rfl ?_
        refine Gp_get 1 hm380841 he380842 dr_cX17_coloured_53 (gk_X15 D I) (Nat.le_of_ble_eq_true rfl) wr_9_182 rfl ?_
        refine Gp_iald 0 hm380838 he380839 dr_cX17_coloured_56 rfl (gB_in bp380844 (by decide) (by decide)) (G_nam fun z380883 hz380883 => ?_)
        have bz380883 : gB z380883 (-1) 31 := by rw [hz380883]; exact bf380840 _
        have r380884 : 0 ≤ z380883.toInt := by rw [hz380883]; exact cq380854 _ (Or.inl ⟨by omega, rfl⟩)
        have bz380883' : gB z380883 0 31 := ⟨by omega, by omega⟩
        refine Gp_put 1 hm380841 he380842 dr_cX17_coloured_57 (gk_X15 D I) (Nat.le_of_ble_eq_true rfl) wr_9_182 rfl rfl rfl (Nat.le_of_ble_eq_true rfl) (fun F380885 e380886 n380887 => ?_)
        have he380888 : F380885 q380787 = .inr (22, [.ref (γ 9 0), .ref (γ 9 1), .ref (γ 9 2), .ref (γ 9 3), .ref (γ 9 4), .ref (γ 9 5), .ref (γ 9 6), .ref (γ 9 7), .ref (γ 9 8), .int p380795, .int p380796, .int p380797, .int p380798, .int p380799, .int p380800, .ref (γ 9 15), .ref (γ 9 16), .ref (γ 9 17), .ref (γ 9 18), .ref (γ 9 19), .ref (γ 9 20), .ref (γ 9 21), .ref (γ 9 22), .int p380801, .int p380802, .int p380803, .int p380804, .int p380805, .ref q380793, .ref (γ 9 29), .int p380806, .ref (γ 9 31), .int p380807, .int p380808, .int p380809, .ref q380794]) := (n380887 q380787 (rn_oo he380792 he380842 (by decide))).trans he380792
        have he380889 : F380885 (γ 9 17) = .inl (I .int, 2000, .inl f380840) := (n380887 (γ 9 17) (rn_ao he380839 he380842)).trans he380839
        have he380890 : F380885 q380788 = .inr (20, [.int p380843, .int z380883, .int p380845, .int p380846, .int p380847, .int p380848, .int p380849]) := e380886
        have hs380891 : rStr γ [1] F380786 F380885 := rStr_pu2 (rStr_rf (γ := γ) (W := [1]) (F := F380786)) n380887 htq380788 (by decide)
        have kp380892 : F380885 q380787 = F380786 q380787 := n380887 q380787 (rn_ty htq380787 htq380788 (by decide))
        have kp380893 : F380885 (γ 9 3) = F380786 (γ 9 3) := n380887 (γ 9 3) (rn_ty ht380815 htq380788 (by decide))
        have kp380894 : F380885 (γ 9 17) = F380786 (γ 9 17) := n380887 (γ 9 17) (rn_ty ht380823 htq380788 (by decide))
        have hT380895 : RS D I P380785 F380885 γ el := RS_set hT n380887 htq380788 (by decide) ⟨p380843, z380883, p380845, p380846, p380847, p380848, p380849, he380890, bp380843, (gB_w bz380883' (by decide) (by decide)), bp380847, bp380848, bp380849, (by omega), (by omega), (by omega), (by omega)⟩
        have of380896 : ∀ b, b ≠ q380788 → F380885 b = F380786 b := fun b hb => n380887 b hb
        exact G_vretA dr_cX17_coloured_60 rfl (Nat.le_of_ble_eq_true rfl) (Nat.le_of_ble_eq_true rfl) ⟨F380885, rfl, rfl, hT380895, hs380891, (Nat.le_of_ble_eq_true rfl), (Nat.le_of_ble_eq_true rfl), of380896, kp380892, kp380893, kp380894⟩
    · have r380897 : o380869.toInt ≠ 0 := gj_neq hc380871 (show Int32.toInt 0 = 0 by decide)
      have bo380869' : gB o380869 1 1 := ⟨by omega, by omega⟩
      refine G_aload_n 1 dr_cX17_coloured_27 rfl ?_
      refine G_aload_n 0 dr_cX17_coloured_28 rfl ?_
      refine Gp_get 17 hm380791 he380792 dr_cX17_coloured_29 (gk_X17 D I) (Nat.le_of_ble_eq_true rfl) wr_7_91 rfl ?_
      refine G_aload_n 1 dr_cX17_coloured_32 rfl ?_
      refine Gp_get 3 hm380841 he380842 dr_cX17_coloured_33 (gk_X15 D I) (Nat.le_of_ble_eq_true rfl) wr_9_190 rfl ?_
      refine Gp_iald 0 hm380838 he380839 dr_cX17_coloured_36 rfl (gB_inr (by omega) (by omega)) (G_nam fun z380898 hz380898 => ?_)
      have bz380898 : gB z380898 (-1) 31 := by rw [hz380898]; exact bf380840 _
      have r380899 : 0 ≤ z380898.toInt := by rw [hz380898]; exact cq380854 _ (Or.inr (Or.inr ⟨by omega, rfl⟩))
      have bz380898' : gB z380898 0 31 := ⟨by omega, by omega⟩
      refine Gp_put 3 hm380841 he380842 dr_cX17_coloured_37 (gk_X15 D I) (Nat.le_of_ble_eq_true rfl) wr_9_190 rfl rfl rfl (Nat.le_of_ble_eq_true rfl) (fun F380900 e380901 n380902 => ?_)
      have he380903 : F380900 q380787 = .inr (22, [.ref (γ 9 0), .ref (γ 9 1), .ref (γ 9 2), .ref (γ 9 3), .ref (γ 9 4), .ref (γ 9 5), .ref (γ 9 6), .ref (γ 9 7), .ref (γ 9 8), .int p380795, .int p380796, .int p380797, .int p380798, .int p380799, .int p380800, .ref (γ 9 15), .ref (γ 9 16), .ref (γ 9 17), .ref (γ 9 18), .ref (γ 9 19), .ref (γ 9 20), .ref (γ 9 21), .ref (γ 9 22), .int p380801, .int p380802, .int p380803, .int p380804, .int p380805, .ref q380793, .ref (γ 9 29), .int p380806, .ref (γ 9 31), .int p380807, .int p380808, .int p380809, .ref q380794]) := (n380902 q380787 (rn_oo he380792 he380842 (by decide))).trans he380792
      have he380904 : F380900 (γ 9 17) = .inl (I .int, 2000, .inl f380840) := (n380902 (γ 9 17) (rn_ao he380839 he380842)).trans he380839
      have he380905 : F380900 q380788 = .inr (20, [.int p380843, .int p380844, .int p380845, .int z380898, .int p380847, .int p380848, .int p380849]) := e380901
      have hs380906 : rStr γ [1] F380786 F380900 := rStr_pu2 (rStr_rf (γ := γ) (W := [1]) (F := F380786)) n380902 htq380788 (by decide)
      have kp380907 : F380900 q380787 = F380786 q380787 := n380902 q380787 (rn_ty htq380787 htq380788 (by decide))
      have kp380908 : F380900 (γ 9 3) = F380786 (γ 9 3) := n380902 (γ 9 3) (rn_ty ht380815 htq380788 (by decide))
      have kp380909 : F380900 (γ 9 17) = F380786 (γ 9 17) := n380902 (γ 9 17) (rn_ty ht380823 htq380788 (by decide))
      refine G_aload_n 1 dr_cX17_coloured_40 rfl ?_
      have hT380910 : RS D I P380785 F380900 γ el := RS_set hT n380902 htq380788 (by decide) ⟨p380843, p380844, p380845, z380898, p380847, p380848, p380849, he380905, bp380843, bp380844, bp380847, bp380848, bp380849, (by omega), (by omega), (by omega), (by omega)⟩
      have of380911 : ∀ b, b ≠ q380788 → F380900 b = F380786 b := fun b hb => n380902 b hb
      refine Gw_callV (As := []) (gV_ok D I) (cp_214574_Row_sets l hl0 D I P380785 F380900 q380788 p380843 p380844 p380845 z380898 p380847 p380848 p380849 hm380841 he380905 bp380843 bp380844 bp380847 bp380848 bp380849) dr_cX17_coloured_41 ⟨wr_10_181, wr_1_39, wr_10_184, by decide, rfl, (Nat.le_of_ble_eq_true rfl), (Nat.le_of_ble_eq_true rfl)⟩ wr_10_182 wr_10_183 hm380841 he380905 rfl (show 0 + 0 ≤ 0 by first | omega | decide) (show 0 + 0 ≤ 0 by first | omega | decide) (Nat.le_of_ble_eq_true rfl) (fun r380915 w380916 dc380912 ds380913 hp380914 => ?_) (fun _ _ _ _ _ z => z.elim)
      obtain ⟨o380917, rfl, rfl, hdc, hds, bo380917, x380918⟩ := hp380914
      change G _ _ _ _ _ _ _ (.int o380917 :: _) _ _ _
      refine G_widen (cs' := 0) (sl' := 0) (by omega) (by omega) ?_
      refine G_if_eq 60 dr_cX17_coloured_44 (by decide +kernel) (fun hc380919 => ?_) (fun hc380919 => ?_)
      · have r380920 : o380917.toInt = 0 := gj_eq hc380919 (show Int32.toInt 0 = 0 by decide)
        have bo380917' : gB o380917 0 0 := ⟨by omega, by omega⟩
        exact G_vretA dr_cX17_coloured_60 rfl (Nat.le_of_ble_eq_true rfl) (Nat.le_of_ble_eq_true rfl) ⟨F380900, rfl, rfl, hT380910, hs380906, (Nat.le_of_ble_eq_true rfl), (Nat.le_of_ble_eq_true rfl), of380911, kp380907, kp380908, kp380909⟩
      · have r380921 : o380917.toInt ≠ 0 := gj_neq hc380919 (show Int32.toInt 0 = 0 by decide)
        have bo380917' : gB o380917 1 1 := ⟨by omega, by omega⟩
        refine G_aload_n 1 dr_cX17_coloured_47 rfl ?_
        refine G_aload_n 0 dr_cX17_coloured_48 rfl ?_
        refine Gp_get 17 hm380791 he380903 dr_cX17_coloured_49 (gk_X17 D I) (Nat.le_of_ble_eq_true rfl) wr_7_91 rfl ?_
        refine G_aload_n 1 dr_cX17_coloured_52 rfl ?_
        refine Gp_get 1 hm380841 he380905 dr_cX17_coloured_53 (gk_X15 D I) (Nat.le_of_ble_eq_true rfl) wr_9_182 rfl ?_
        refine Gp_iald 0 hm380838 he380904 dr_cX17_coloured_56 rfl (gB_in bp380844 (by decide) (by decide)) (G_nam fun z380922 hz380922 => ?_)
        have bz380922 : gB z380922 (-1) 31 := by rw [hz380922]; exact bf380840 _
        have r380923 : 0 ≤ z380922.toInt := by rw [hz380922]; exact cq380854 _ (Or.inl ⟨by omega, rfl⟩)
        have bz380922' : gB z380922 0 31 := ⟨by omega, by omega⟩
        refine Gp_put 1 hm380841 he380905 dr_cX17_coloured_57 (gk_X15 D I) (Nat.le_of_ble_eq_true rfl) wr_9_182 rfl rfl rfl (Nat.le_of_ble_eq_true rfl) (fun F380924 e380925 n380926 => ?_)
        have he380927 : F380924 q380787 = .inr (22, [.ref (γ 9 0), .ref (γ 9 1), .ref (γ 9 2), .ref (γ 9 3), .ref (γ 9 4), .ref (γ 9 5), .ref (γ 9 6), .ref (γ 9 7), .ref (γ 9 8), .int p380795, .int p380796, .int p380797, .int p380798, .int p380799, .int p380800, .ref (γ 9 15), .ref (γ 9 16), .ref (γ 9 17), .ref (γ 9 18), .ref (γ 9 19), .ref (γ 9 20), .ref (γ 9 21), .ref (γ 9 22), .int p380801, .int p380802, .int p380803, .int p380804, .int p380805, .ref q380793, .ref (γ 9 29), .int p380806, .ref (γ 9 31), .int p380807, .int p380808, .int p380809, .ref q380794]) := (n380926 q380787 (rn_oo he380903 he380905 (by decide))).trans he380903
        have he380928 : F380924 (γ 9 17) = .inl (I .int, 2000, .inl f380840) := (n380926 (γ 9 17) (rn_ao he380904 he380905)).trans he380904
        have he380929 : F380924 q380788 = .inr (20, [.int p380843, .int z380922, .int p380845, .int z380898, .int p380847, .int p380848, .int p380849]) := e380925
        have hs380930 : rStr γ [1] F380786 F380924 := rStr_pu2 hs380906 n380926 htq380788 (by decide)
        have kp380931 : F380924 q380787 = F380786 q380787 := (n380926 q380787 (rn_ty htq380787 htq380788 (by decide))).trans kp380907
        have kp380932 : F380924 (γ 9 3) = F380786 (γ 9 3) := (n380926 (γ 9 3) (rn_ty ht380815 htq380788 (by decide))).trans kp380908
        have kp380933 : F380924 (γ 9 17) = F380786 (γ 9 17) := (n380926 (γ 9 17) (rn_ty ht380823 htq380788 (by decide))).trans kp380909
        have hT380934 : RS D I P380785 F380924 γ el := RS_set hT380910 n380926 htq380788 (by decide) ⟨p380843, z380922, p380845, z380898, p380847, p380848, p380849, he380929, bp380843, (gB_w bz380922' (by decide) (by decide)), bp380847, bp380848, bp380849, (by omega), (by omega), (by omega), (by omega)⟩
        have of380935 : ∀ b, b ≠ q380788 → F380924 b = F380786 b := fun b hb => (n380926 b hb).trans (of380911 b hb)
        exact G_vretA dr_cX17_coloured_60 rfl (Nat.le_of_ble_eq_true rfl) (Nat.le_of_ble_eq_true rfl) ⟨F380924, rfl, rfl, hT380934, hs380930, (Nat.le_of_ble_eq_true rfl), (Nat.le_of_ble_eq_true rfl), of380935, kp380931, kp380932, kp380933⟩
  · have r380936 : o380860.toInt ≠ 0 := gj_neq hc380862 (show Int32.toInt 0 = 0 by decide)
    have bo380860' : gB o380860 1 1 := ⟨by omega, by omega⟩
    refine G_aload_n 1 dr_cX17_coloured_7 rfl ?_
    refine G_aload_n 0 dr_cX17_coloured_8 rfl ?_
    refine Gp_get 17 hm380791 he380792 dr_cX17_coloured_9 (gk_X17 D I) (Nat.le_of_ble_eq_true rfl) wr_7_91 rfl ?_
    refine G_aload_n 1 dr_cX17_coloured_12 rfl ?_
    refine Gp_get 2 hm380841 he380842 dr_cX17_coloured_13 (gk_X15 D I) (Nat.le_of_ble_eq_true rfl) wr_9_186 rfl ?_
    refine Gp_iald 0 hm380838 he380839 dr_cX17_coloured_16 rfl (gB_inr (by omega) (by omega)) (G_nam fun z380937 hz380937 => ?_)
    have bz380937 : gB z380937 (-1) 31 := by rw [hz380937]; exact bf380840 _
    have r380938 : 0 ≤ z380937.toInt := by rw [hz380937]; exact cq380854 _ (Or.inr (Or.inl ⟨by omega, rfl⟩))
    have bz380937' : gB z380937 0 31 := ⟨by omega, by omega⟩
    refine Gp_put 2 hm380841 he380842 dr_cX17_coloured_17 (gk_X15 D I) (Nat.le_of_ble_eq_true rfl) wr_9_186 rfl rfl rfl (Nat.le_of_ble_eq_true rfl) (fun F380939 e380940 n380941 => ?_)
    have he380942 : F380939 q380787 = .inr (22, [.ref (γ 9 0), .ref (γ 9 1), .ref (γ 9 2), .ref (γ 9 3), .ref (γ 9 4), .ref (γ 9 5), .ref (γ 9 6), .ref (γ 9 7), .ref (γ 9 8), .int p380795, .int p380796, .int p380797, .int p380798, .int p380799, .int p380800, .ref (γ 9 15), .ref (γ 9 16), .ref (γ 9 17), .ref (γ 9 18), .ref (γ 9 19), .ref (γ 9 20), .ref (γ 9 21), .ref (γ 9 22), .int p380801, .int p380802, .int p380803, .int p380804, .int p380805, .ref q380793, .ref (γ 9 29), .int p380806, .ref (γ 9 31), .int p380807, .int p380808, .int p380809, .ref q380794]) := (n380941 q380787 (rn_oo he380792 he380842 (by decide))).trans he380792
    have he380943 : F380939 (γ 9 17) = .inl (I .int, 2000, .inl f380840) := (n380941 (γ 9 17) (rn_ao he380839 he380842)).trans he380839
    have he380944 : F380939 q380788 = .inr (20, [.int p380843, .int p380844, .int z380937, .int p380846, .int p380847, .int p380848, .int p380849]) := e380940
    have hs380945 : rStr γ [1] F380786 F380939 := rStr_pu2 (rStr_rf (γ := γ) (W := [1]) (F := F380786)) n380941 htq380788 (by decide)
    have kp380946 : F380939 q380787 = F380786 q380787 := n380941 q380787 (rn_ty htq380787 htq380788 (by decide))
    have kp380947 : F380939 (γ 9 3) = F380786 (γ 9 3) := n380941 (γ 9 3) (rn_ty ht380815 htq380788 (by decide))
    have kp380948 : F380939 (γ 9 17) = F380786 (γ 9 17) := n380941 (γ 9 17) (rn_ty ht380823 htq380788 (by decide))
    refine G_aload_n 1 dr_cX17_coloured_20 rfl ?_
    have hT380949 : RS D I P380785 F380939 γ el := RS_set hT n380941 htq380788 (by decide) ⟨p380843, p380844, z380937, p380846, p380847, p380848, p380849, he380944, bp380843, bp380844, bp380847, bp380848, bp380849, (by omega), (by omega), (by omega), (by omega)⟩
    have of380950 : ∀ b, b ≠ q380788 → F380939 b = F380786 b := fun b hb => n380941 b hb
    refine Gw_callV (As := []) (gV_ok D I) (cp_214553_Row_usesB l hl0 D I P380785 F380939 q380788 p380843 p380844 z380937 p380846 p380847 p380848 p380849 hm380841 he380944 bp380843 bp380844 bp380847 bp380848 bp380849) dr_cX17_coloured_21 ⟨wr_10_196, wr_1_39, wr_10_199, by decide, rfl, (Nat.le_of_ble_eq_true rfl), (Nat.le_of_ble_eq_true rfl)⟩ wr_10_197 wr_10_198 hm380841 he380944 rfl (show 0 + 0 ≤ 0 by first | omega | decide) (show 0 + 0 ≤ 0 by first | omega | decide) (Nat.le_of_ble_eq_true rfl) (fun r380954 w380955 dc380951 ds380952 hp380953 => ?_) (fun _ _ _ _ _ z => z.elim)
    obtain ⟨o380956, rfl, rfl, hdc, hds, bo380956, x380957⟩ := hp380953
    change G _ _ _ _ _ _ _ (.int o380956 :: _) _ _ _
    refine G_widen (cs' := 0) (sl' := 0) (by omega) (by omega) ?_
    refine G_if_eq 40 dr_cX17_coloured_24 (by decide +kernel) (fun hc380958 => ?_) (fun hc380958 => ?_)
    · have r380959 : o380956.toInt = 0 := gj_eq hc380958 (show Int32.toInt 0 = 0 by decide)
      have bo380956' : gB o380956 0 0 := ⟨by omega, by omega⟩
      refine G_aload_n 1 dr_cX17_coloured_40 rfl ?_
      refine Gw_callV (As := []) (gV_ok D I) (cp_214574_Row_sets l hl0 D I P380785 F380939 q380788 p380843 p380844 z380937 p380846 p380847 p380848 p380849 hm380841 he380944 bp380843 bp380844 bp380847 bp380848 bp380849) dr_cX17_coloured_41 ⟨wr_10_181, wr_1_39, wr_10_184, by decide, rfl, (Nat.le_of_ble_eq_true rfl), (Nat.le_of_ble_eq_true rfl)⟩ wr_10_182 wr_10_183 hm380841 he380944 rfl (show 0 + 0 ≤ 0 by first | omega | decide) (show 0 + 0 ≤ 0 by first | omega | decide) (Nat.le_of_ble_eq_true rfl) (fun r380963 w380964 dc380960 ds380961 hp380962 => ?_) (fun _ _ _ _ _ z => z.elim)
      obtain ⟨o380965, rfl, rfl, hdc, hds, bo380965, x380966⟩ := hp380962
      change G _ _ _ _ _ _ _ (.int o380965 :: _) _ _ _
      refine G_widen (cs' := 0) (sl' := 0) (by omega) (by omega) ?_
      refine G_if_eq 60 dr_cX17_coloured_44 (by decide +kernel) (fun hc380967 => ?_) (fun hc380967 => ?_)
      · have r380968 : o380965.toInt = 0 := gj_eq hc380967 (show Int32.toInt 0 = 0 by decide)
        have bo380965' : gB o380965 0 0 := ⟨by omega, by omega⟩
        exact G_vretA dr_cX17_coloured_60 rfl (Nat.le_of_ble_eq_true rfl) (Nat.le_of_ble_eq_true rfl) ⟨F380939, rfl, rfl, hT380949, hs380945, (Nat.le_of_ble_eq_true rfl), (Nat.le_of_ble_eq_true rfl), of380950, kp380946, kp380947, kp380948⟩
      · have r380969 : o380965.toInt ≠ 0 := gj_neq hc380967 (show Int32.toInt 0 = 0 by decide)
        have bo380965' : gB o380965 1 1 := ⟨by omega, by omega⟩
        refine G_aload_n 1 dr_cX17_coloured_47 rfl ?_
        refine G_aload_n 0 dr_cX17_coloured_48 rfl ?_
        refine Gp_get 17 hm380791 he380942 dr_cX17_coloured_49 (gk_X17 D I) (Nat.le_of_ble_eq_true rfl) wr_7_91 rfl ?_
        refine G_aload_n 1 dr_cX17_coloured_52 rfl ?_
        refine Gp_get 1 hm380841 he380944 dr_cX17_coloured_53 (gk_X15 D I) (Nat.le_of_ble_eq_true rfl) wr_9_182 rfl ?_
        refine Gp_iald 0 hm380838 he380943 dr_cX17_coloured_56 rfl (gB_in bp380844 (by decide) (by decide)) (G_nam fun z380970 hz380970 => ?_)
        have bz380970 : gB z380970 (-1) 31 := by rw [hz380970]; exact bf380840 _
        have r380971 : 0 ≤ z380970.toInt := by rw [hz380970]; exact cq380854 _ (Or.inl ⟨by omega, rfl⟩)
        have bz380970' : gB z380970 0 31 := ⟨by omega, by omega⟩
        refine Gp_put 1 hm380841 he380944 dr_cX17_coloured_57 (gk_X15 D I) (Nat.le_of_ble_eq_true rfl) wr_9_182 rfl rfl rfl (Nat.le_of_ble_eq_true rfl) (fun F380972 e380973 n380974 => ?_)
        have he380975 : F380972 q380787 = .inr (22, [.ref (γ 9 0), .ref (γ 9 1), .ref (γ 9 2), .ref (γ 9 3), .ref (γ 9 4), .ref (γ 9 5), .ref (γ 9 6), .ref (γ 9 7), .ref (γ 9 8), .int p380795, .int p380796, .int p380797, .int p380798, .int p380799, .int p380800, .ref (γ 9 15), .ref (γ 9 16), .ref (γ 9 17), .ref (γ 9 18), .ref (γ 9 19), .ref (γ 9 20), .ref (γ 9 21), .ref (γ 9 22), .int p380801, .int p380802, .int p380803, .int p380804, .int p380805, .ref q380793, .ref (γ 9 29), .int p380806, .ref (γ 9 31), .int p380807, .int p380808, .int p380809, .ref q380794]) := (n380974 q380787 (rn_oo he380942 he380944 (by decide))).trans he380942
        have he380976 : F380972 (γ 9 17) = .inl (I .int, 2000, .inl f380840) := (n380974 (γ 9 17) (rn_ao he380943 he380944)).trans he380943
        have he380977 : F380972 q380788 = .inr (20, [.int p380843, .int z380970, .int z380937, .int p380846, .int p380847, .int p380848, .int p380849]) := e380973
        have hs380978 : rStr γ [1] F380786 F380972 := rStr_pu2 hs380945 n380974 htq380788 (by decide)
        have kp380979 : F380972 q380787 = F380786 q380787 := (n380974 q380787 (rn_ty htq380787 htq380788 (by decide))).trans kp380946
        have kp380980 : F380972 (γ 9 3) = F380786 (γ 9 3) := (n380974 (γ 9 3) (rn_ty ht380815 htq380788 (by decide))).trans kp380947
        have kp380981 : F380972 (γ 9 17) = F380786 (γ 9 17) := (n380974 (γ 9 17) (rn_ty ht380823 htq380788 (by decide))).trans kp380948
        have hT380982 : RS D I P380785 F380972 γ el := RS_set hT380949 n380974 htq380788 (by decide) ⟨p380843, z380970, z380937, p380846, p380847, p380848, p380849, he380977, bp380843, (gB_w bz380970' (by decide) (by decide)), bp380847, bp380848, bp380849, (by omega), (by omega), (by omega), (by omega)⟩
        have of380983 : ∀ b, b ≠ q380788 → F380972 b = F380786 b := fun b hb => (n380974 b hb).trans (of380950 b hb)
        exact G_vretA dr_cX17_coloured_60 rfl (Nat.le_of_ble_eq_true rfl) (Nat.le_of_ble_eq_true rfl) ⟨F380972, rfl, rfl, hT380982, hs380978, (Nat.le_of_ble_eq_true rfl), (Nat.le_of_ble_eq_true rfl), of380983, kp380979, kp380980, kp380981⟩
    · have r380984 : o380956.toInt ≠ 0 := gj_neq hc380958 (show Int32.toInt 0 = 0 by decide)
      have bo380956' : gB o380956 1 1 := ⟨by omega, by omega⟩
      refine G_aload_n 1 dr_cX17_coloured_27 rfl ?_
      refine G_aload_n 0 dr_cX17_coloured_28 rfl ?_
      refine Gp_get 17 hm380791 he380942 dr_cX17_coloured_29 (gk_X17 D I) (Nat.le_of_ble_eq_true rfl) wr_7_91 rfl ?_
      refine G_aload_n 1 dr_cX17_coloured_32 rfl ?_
      refine Gp_get 3 hm380841 he380944 dr_cX17_coloured_33 (gk_X15 D I) (Nat.le_of_ble_eq_true rfl) wr_9_190 rfl ?_
      refine Gp_iald 0 hm380838 he380943 dr_cX17_coloured_36 rfl (gB_inr (by omega) (by omega)) (G_nam fun z380985 hz380985 => ?_)
      have bz380985 : gB z380985 (-1) 31 := by rw [hz380985]; exact bf380840 _
      have r380986 : 0 ≤ z380985.toInt := by rw [hz380985]; exact cq380854 _ (Or.inr (Or.inr ⟨by omega, rfl⟩))
      have bz380985' : gB z380985 0 31 := ⟨by omega, by omega⟩
      refine Gp_put 3 hm380841 he380944 dr_cX17_coloured_37 (gk_X15 D I) (Nat.le_of_ble_eq_true rfl) wr_9_190 rfl rfl rfl (Nat.le_of_ble_eq_true rfl) (fun F380987 e380988 n380989 => ?_)
      have he380990 : F380987 q380787 = .inr (22, [.ref (γ 9 0), .ref (γ 9 1), .ref (γ 9 2), .ref (γ 9 3), .ref (γ 9 4), .ref (γ 9 5), .ref (γ 9 6), .ref (γ 9 7), .ref (γ 9 8), .int p380795, .int p380796, .int p380797, .int p380798, .int p380799, .int p380800, .ref (γ 9 15), .ref (γ 9 16), .ref (γ 9 17), .ref (γ 9 18), .ref (γ 9 19), .ref (γ 9 20), .ref (γ 9 21), .ref (γ 9 22), .int p380801, .int p380802, .int p380803, .int p380804, .int p380805, .ref q380793, .ref (γ 9 29), .int p380806, .ref (γ 9 31), .int p380807, .int p380808, .int p380809, .ref q380794]) := (n380989 q380787 (rn_oo he380942 he380944 (by decide))).trans he380942
      have he380991 : F380987 (γ 9 17) = .inl (I .int, 2000, .inl f380840) := (n380989 (γ 9 17) (rn_ao he380943 he380944)).trans he380943
      have he380992 : F380987 q380788 = .inr (20, [.int p380843, .int p380844, .int z380937, .int z380985, .int p380847, .int p380848, .int p380849]) := e380988
      have hs380993 : rStr γ [1] F380786 F380987 := rStr_pu2 hs380945 n380989 htq380788 (by decide)
      have kp380994 : F380987 q380787 = F380786 q380787 := (n380989 q380787 (rn_ty htq380787 htq380788 (by decide))).trans kp380946
      have kp380995 : F380987 (γ 9 3) = F380786 (γ 9 3) := (n380989 (γ 9 3) (rn_ty ht380815 htq380788 (by decide))).trans kp380947
      have kp380996 : F380987 (γ 9 17) = F380786 (γ 9 17) := (n380989 (γ 9 17) (rn_ty ht380823 htq380788 (by decide))).trans kp380948
      refine G_aload_n 1 dr_cX17_coloured_40 rfl ?_
      have hT380997 : RS D I P380785 F380987 γ el := RS_set hT380949 n380989 htq380788 (by decide) ⟨p380843, p380844, z380937, z380985, p380847, p380848, p380849, he380992, bp380843, bp380844, bp380847, bp380848, bp380849, (by omega), (by omega), (by omega), (by omega)⟩
      have of380998 : ∀ b, b ≠ q380788 → F380987 b = F380786 b := fun b hb => (n380989 b hb).trans (of380950 b hb)
      refine Gw_callV (As := []) (gV_ok D I) (cp_214574_Row_sets l hl0 D I P380785 F380987 q380788 p380843 p380844 z380937 z380985 p380847 p380848 p380849 hm380841 he380992 bp380843 bp380844 bp380847 bp380848 bp380849) dr_cX17_coloured_41 ⟨wr_10_181, wr_1_39, wr_10_184, by decide, rfl, (Nat.le_of_ble_eq_true rfl), (Nat.le_of_ble_eq_true rfl)⟩ wr_10_182 wr_10_183 hm380841 he380992 rfl (show 0 + 0 ≤ 0 by first | omega | decide) (show 0 + 0 ≤ 0 by first | omega | decide) (Nat.le_of_ble_eq_true rfl) (fun r381002 w381003 dc380999 ds381000 hp381001 => ?_) (fun _ _ _ _ _ z => z.elim)
      obtain ⟨o381004, rfl, rfl, hdc, hds, bo381004, x381005⟩ := hp381001
      change G _ _ _ _ _ _ _ (.int o381004 :: _) _ _ _
      refine G_widen (cs' := 0) (sl' := 0) (by omega) (by omega) ?_
      refine G_if_eq 60 dr_cX17_coloured_44 (by decide +kernel) (fun hc381006 => ?_) (fun hc381006 => ?_)
      · have r381007 : o381004.toInt = 0 := gj_eq hc381006 (show Int32.toInt 0 = 0 by decide)
        have bo381004' : gB o381004 0 0 := ⟨by omega, by omega⟩
        exact G_vretA dr_cX17_coloured_60 rfl (Nat.le_of_ble_eq_true rfl) (Nat.le_of_ble_eq_true rfl) ⟨F380987, rfl, rfl, hT380997, hs380993, (Nat.le_of_ble_eq_true rfl), (Nat.le_of_ble_eq_true rfl), of380998, kp380994, kp380995, kp380996⟩
      · have r381008 : o381004.toInt ≠ 0 := gj_neq hc381006 (show Int32.toInt 0 = 0 by decide)
        have bo381004' : gB o381004 1 1 := ⟨by omega, by omega⟩
        refine G_aload_n 1 dr_cX17_coloured_47 rfl ?_
        refine G_aload_n 0 dr_cX17_coloured_48 rfl ?_
        refine Gp_get 17 hm380791 he380990 dr_cX17_coloured_49 (gk_X17 D I) (Nat.le_of_ble_eq_true rfl) wr_7_91 rfl ?_
        refine G_aload_n 1 dr_cX17_coloured_52 rfl ?_
        refine Gp_get 1 hm380841 he380992 dr_cX17_coloured_53 (gk_X15 D I) (Nat.le_of_ble_eq_true rfl) wr_9_182 rfl ?_
        refine Gp_iald 0 hm380838 he380991 dr_cX17_coloured_56 rfl (gB_in bp380844 (by decide) (by decide)) (G_nam fun z381009 hz381009 => ?_)
        have bz381009 : gB z381009 (-1) 31 := by rw [hz381009]; exact bf380840 _
        have r381010 : 0 ≤ z381009.toInt := by rw [hz381009]; exact cq380854 _ (Or.inl ⟨by omega, rfl⟩)
        have bz381009' : gB z381009 0 31 := ⟨by omega, by omega⟩
        refine Gp_put 1 hm380841 he380992 dr_cX17_coloured_57 (gk_X15 D I) (Nat.le_of_ble_eq_true rfl) wr_9_182 rfl rfl rfl (Nat.le_of_ble_eq_true rfl) (fun F381011 e381012 n381013 => ?_)
        have he381014 : F381011 q380787 = .inr (22, [.ref (γ 9 0), .ref (γ 9 1), .ref (γ 9 2), .ref (γ 9 3), .ref (γ 9 4), .ref (γ 9 5), .ref (γ 9 6), .ref (γ 9 7), .ref (γ 9 8), .int p380795, .int p380796, .int p380797, .int p380798, .int p380799, .int p380800, .ref (γ 9 15), .ref (γ 9 16), .ref (γ 9 17), .ref (γ 9 18), .ref (γ 9 19), .ref (γ 9 20), .ref (γ 9 21), .ref (γ 9 22), .int p380801, .int p380802, .int p380803, .int p380804, .int p380805, .ref q380793, .ref (γ 9 29), .int p380806, .ref (γ 9 31), .int p380807, .int p380808, .int p380809, .ref q380794]) := (n381013 q380787 (rn_oo he380990 he380992 (by decide))).trans he380990
        have he381015 : F381011 (γ 9 17) = .inl (I .int, 2000, .inl f380840) := (n381013 (γ 9 17) (rn_ao he380991 he380992)).trans he380991
        have he381016 : F381011 q380788 = .inr (20, [.int p380843, .int z381009, .int z380937, .int z380985, .int p380847, .int p380848, .int p380849]) := e381012
        have hs381017 : rStr γ [1] F380786 F381011 := rStr_pu2 hs380993 n381013 htq380788 (by decide)
        have kp381018 : F381011 q380787 = F380786 q380787 := (n381013 q380787 (rn_ty htq380787 htq380788 (by decide))).trans kp380994
        have kp381019 : F381011 (γ 9 3) = F380786 (γ 9 3) := (n381013 (γ 9 3) (rn_ty ht380815 htq380788 (by decide))).trans kp380995
        have kp381020 : F381011 (γ 9 17) = F380786 (γ 9 17) := (n381013 (γ 9 17) (rn_ty ht380823 htq380788 (by decide))).trans kp380996
        have hT381021 : RS D I P380785 F381011 γ el := RS_set hT380997 n381013 htq380788 (by decide) ⟨p380843, z381009, z380937, z380985, p380847, p380848, p380849, he381016, bp380843, (gB_w bz381009' (by decide) (by decide)), bp380847, bp380848, bp380849, (by omega), (by omega), (by omega), (by omega)⟩
        have of381022 : ∀ b, b ≠ q380788 → F381011 b = F380786 b := fun b hb => (n381013 b hb).trans (of380998 b hb)
        exact G_vretA dr_cX17_coloured_60 rfl (Nat.le_of_ble_eq_true rfl) (Nat.le_of_ble_eq_true rfl) ⟨F381011, rfl, rfl, hT381021, hs381017, (Nat.le_of_ble_eq_true rfl), (Nat.le_of_ble_eq_true rfl), of381022, kp381018, kp381019, kp381020⟩
abbrev ky_381030_SpillForgeModel_share : gKey := (cX17_share, 7, "SpillForgeModel", none, [], "share", fun _ _ => True)
def pt_381030_SpillForgeModel_share (D : va_G) (I : FieldType → ClassId) (γ el : Nat → Nat → Nat) (P381024 : List Nat) (F381025 : Nat → va_E) (q381026 : Nat) (q381027 : Nat) : Option Value → va_W → Nat → Nat → Prop := fun r w dc ds => ∃ (F408584 : Nat → va_E), r = none ∧ w = va_pl P381024 F408584 ∧ RS D I P381024 F408584 γ el ∧ rStr γ [1] F381025 F408584 ∧ dc ≤ 0 ∧ ds ≤ 0
set_option maxRecDepth 100000 in
set_option maxHeartbeats 4000000 in
theorem ct_381030_SpillForgeModel_share (l : Launch) (hl0 : l.stackTraces = false) (D : va_G) (I : FieldType → ClassId) (γ el : Nat → Nat → Nat) (P381024 : List Nat) (F381025 : Nat → va_E) (q381026 : Nat) (q381027 : Nat) (hT : RS D I P381024 F381025 γ el) (htq381026 : rKd γ q381026 10) (htq381027 : rKd γ q381027 9) (x381028 : 0 < γ 6 (γ 1 q381027)) (x381029 : (((γ 7 (γ 1 q381027) : Nat) : Int) ≤ (fI (F381025 q381026) 11).toInt)) : CtA (gV D I) l yX17_share cX17_share 7 none 6 141 0 0 [.ref q381026, .ref q381027] (va_pl P381024 F381025) (pt_381030_SpillForgeModel_share D I γ el P381024 F381025 q381026 q381027) gNA := by
  refine CtA_of hl0 (by decide) (Nat.le_of_ble_eq_true rfl) ?_
  have hm381031 : q381026 ∈ P381024 := RS_m hT htq381026 (by decide)
  obtain ⟨q381033, q381034, p381035, p381036, p381037, p381038, p381039, p381040, p381041, p381042, p381043, p381044, p381045, p381046, p381047, p381048, p381049, he381032, hB381076, ht381050, ht381051, ht381052, ht381053, ht381054, ht381055, ht381056, ht381057, ht381058, ht381059, ht381060, ht381061, ht381062, ht381063, ht381064, ht381065, ht381066, ht381067, ht381068, ht381069, ht381070, ht381071, ht381072, ht381073, hB381077⟩ := show rk_10 γ (F381025 q381026) from RS_o hT htq381026
  have hm381078 : (γ 9 19) ∈ P381024 := RS_m hT ht381065 (by decide)
  obtain ⟨f381080, he381079, bf381080⟩ := show rk_21 I (F381025 (γ 9 19)) from RS_o hT ht381065
  have r381081 : (γ 7 (γ 1 q381027) : Int) ≤ p381037.toInt := by have z := x381029; rw [he381032] at z; exact z
  have bp381037 : gB p381037 0 100 := (hB381076.2.2.1)
  refine G_aload_n 0 dr_cX17_share_0 rfl ?_
  refine G_aload_n 1 dr_cX17_share_1 rfl ?_
  refine G_iconst 1 dr_cX17_share_2 (by decide +kernel) ?_
  refine Gw_callV (As := [.ref q381027, .int 1]) (gV_ok D I) (ct_269178_SpillForgeModel_graph l hl0 D I γ el P381024 F381025 q381026 q381027 1 hT htq381026 htq381027 (gB_w (gBl (show Int32.toInt 1 = 1 by decide)) (by decide) (by decide)) (by omega)) dr_cX17_share_3 ⟨wr_10_233, wr_1_14, wr_10_236, by decide, rfl, (Nat.le_of_ble_eq_true rfl), (Nat.le_of_ble_eq_true rfl)⟩ wr_10_235 wr_p_99 hm381031 he381032 rfl (show 0 + 0 ≤ 0 by first | omega | decide) (show 0 + 0 ≤ 0 by first | omega | decide) (Nat.le_of_ble_eq_true rfl) (fun r381085 w381086 dc381082 ds381083 hp381084 => ?_) (fun _ _ _ _ _ z => z.elim)
  obtain ⟨F381089, rfl, rfl, hT381090, hs381091, hdc, hds, x381087, x381088⟩ := hp381084
  have hs381092 : rStr γ [1] F381025 F381089 := rStr_tr (rStr_rf (γ := γ) (W := [1]) (F := F381025)) (rStr_w hs381091 (by decide))
  have kp381093 : F381089 q381026 = F381025 q381026 := x381088
  have he381094 : F381089 q381026 = .inr (22, [.ref (γ 9 0), .ref (γ 9 1), .ref (γ 9 2), .ref (γ 9 3), .ref (γ 9 4), .ref (γ 9 5), .ref (γ 9 6), .ref (γ 9 7), .ref (γ 9 8), .int p381035, .int p381036, .int p381037, .int p381038, .int p381039, .int p381040, .ref (γ 9 15), .ref (γ 9 16), .ref (γ 9 17), .ref (γ 9 18), .ref (γ 9 19), .ref (γ 9 20), .ref (γ 9 21), .ref (γ 9 22), .int p381041, .int p381042, .int p381043, .int p381044, .int p381045, .ref q381033, .ref (γ 9 29), .int p381046, .ref (γ 9 31), .int p381047, .int p381048, .int p381049, .ref q381034]) := (x381088).trans he381032
  rw [show Int32.toInt 1 = 1 from by decide] at x381087
  change G _ _ _ _ _ _ _ _ _ _ _
  refine G_widen (cs' := 0) (sl' := 0) (by omega) (by omega) ?_
  refine G_iconst 0 dr_cX17_share_6 (by decide +kernel) ?_
  refine G_istore_n (L' := [(2, .int 0), (0, .ref q381026), (1, .ref q381027)]) dr_cX17_share_7 (Nat.le_of_ble_eq_true rfl) rfl ?_
  refine G_iconst 0 dr_cX17_share_8 (by decide +kernel) ?_
  refine G_istore_n (L' := [(3, .int 0), (2, .int 0), (0, .ref q381026), (1, .ref q381027)]) dr_cX17_share_9 (Nat.le_of_ble_eq_true rfl) rfl ?_
  have hlp10_406539 : ∀ (n10_406539 : Nat) (F406535 : Nat → va_E) (g406533 : Int32) (g406534 : Int32), gB g406533 0 100 → gB g406534 0 1999 → RS D I P381024 F406535 γ el → rStr γ [1] F381025 F406535 → (∀ q : Nat, (q : Int) < g406533.toInt → 0 ≤ (cB (F406535 (γ 9 19)) q).toInt ∧ (cB (F406535 (γ 9 19)) q).toInt ≤ q) → (F406535 q381026 = F381025 q381026) → ((101 : Int) - g406533.toInt).toNat < n10_406539 → G (gV D I) l (gRm 6 141 0 0) (gMA (gV D I) (pt_381030_SpillForgeModel_share D I γ el P381024 F381025 q381026 q381027) gNA 0 0) ky_381030_SpillForgeModel_share 10 [(3, .int g406533), (2, .int g406534), (0, .ref q381026), (1, .ref q381027)] [] (va_pl P381024 F406535) 0 0 := by
    intro n10_406539
    induction n10_406539 with
    | zero => intro F406535 g406533 g406534 bg406533 bg406534 hT406536 hs406537 x406538 x406539 hm10_406539; exact absurd hm10_406539 (Nat.not_lt_zero _)
    | succ n10_406539 ih10_406539 =>
      intro F406535 g406533 g406534 bg406533 bg406534 hT406536 hs406537 x406538 x406539 hm10_406539
      have hs406541 : rStr γ [1] F381089 F406535 := fun b h0 hb hw => (hs406537 b h0 hb hw).trans (hs381092 b h0 hb hw).symm
      have hs406542 : rStr γ [1] F381025 F406535 := rStr_tr hs381092 hs406541
      have hm406543 : q381026 ∈ P381024 := RS_m hT406536 htq381026 (by decide)
      obtain ⟨q406545, q406546, p406547, p406548, p406549, p406550, p406551, p406552, p406553, p406554, p406555, p406556, p406557, p406558, p406559, p406560, p406561, he406544, hB406588, ht406562, ht406563, ht406564, ht406565, ht406566, ht406567, ht406568, ht406569, ht406570, ht406571, ht406572, ht406573, ht406574, ht406575, ht406576, ht406577, ht406578, ht406579, ht406580, ht406581, ht406582, ht406583, ht406584, ht406585, hB406589⟩ := show rk_10 γ (F406535 q381026) from RS_o hT406536 htq381026
      have hm406590 : (γ 9 19) ∈ P381024 := RS_m hT406536 ht406577 (by decide)
      obtain ⟨f406592, he406591, bf406592⟩ := show rk_21 I (F406535 (γ 9 19)) from RS_o hT406536 ht406577
      have r406593 : p406549.toInt = p381037.toInt := congrArg (fun e => (fI e 11).toInt) (he406544.symm.trans ((x406539).trans he381032))
      have bp406549 : gB p406549 0 100 := (hB406588.2.2.1)
      have cq406594 := x406538
      rw [cB_of he406591] at cq406594
      refine G_iload_n 0 dr_cX17_share_10 rfl ?_
      refine G_aload_n 2 dr_cX17_share_11 rfl ?_
      refine Gp_get 11 hm406543 he406544 dr_cX17_share_12 (gk_X17 D I) (Nat.le_of_ble_eq_true rfl) wr_7_85 rfl ?_
      refine G_icmp_ge 151 dr_cX17_share_15 (by decide +kernel) (fun hc406595 => ?_) (fun hc406595 => ?_)
      · have r406596 : p406549.toInt ≤ g406533.toInt := gC_le hc406595
        refine G_iconst 0 dr_cX17_share_151 (by decide +kernel) ?_
        refine G_istore_n (L' := [(3, .int 0), (2, .int g406534), (0, .ref q381026), (1, .ref q381027)]) dr_cX17_share_152 (Nat.le_of_ble_eq_true rfl) rfl ?_
        have hlp153_407063 : ∀ (n153_407063 : Nat) (F407059 : Nat → va_E) (g407058 : Int32), gB g407058 0 1000000 → RS D I P381024 F407059 γ el → rStr γ [1] F381025 F407059 → (∀ q : Nat, (q : Int) < ((γ 7 (γ 1 q381027) : Nat) : Int) → 0 ≤ (cB (F407059 (γ 9 19)) q).toInt ∧ (cB (F407059 (γ 9 19)) q).toInt ≤ q) → (F407059 q381026 = F381025 q381026) → ((1000001 : Int) - g407058.toInt).toNat < n153_407063 → G (gV D I) l (gRm 6 141 0 0) (gMA (gV D I) (pt_381030_SpillForgeModel_share D I γ el P381024 F381025 q381026 q381027) gNA 0 0) ky_381030_SpillForgeModel_share 153 [(3, .int g407058), (2, .int g406534), (0, .ref q381026), (1, .ref q381027)] [] (va_pl P381024 F407059) 0 0 := by
          intro n153_407063
          induction n153_407063 with
          | zero => intro F407059 g407058 bg407058 hT407060 hs407061 x407062 x407063 hm153_407063; exact absurd hm153_407063 (Nat.not_lt_zero _)
          | succ n153_407063 ih153_407063 =>
            intro F407059 g407058 bg407058 hT407060 hs407061 x407062 x407063 hm153_407063
            have hs407065 : rStr γ [1] F406535 F407059 := fun b h0 hb hw => (hs407061 b h0 hb hw).trans (hs406537 b h0 hb hw).symm
            have hs407066 : rStr γ [1] F381025 F407059 := rStr_tr hs406537 hs407065
            have hm407067 : q381026 ∈ P381024 := RS_m hT407060 htq381026 (by decide)
            obtain ⟨q407069, q407070, p407071, p407072, p407073, p407074, p407075, p407076, p407077, p407078, p407079, p407080, p407081, p407082, p407083, p407084, p407085, he407068, hB407112, ht407086, ht407087, ht407088, ht407089, ht407090, ht407091, ht407092, ht407093, ht407094, ht407095, ht407096, ht407097, ht407098, ht407099, ht407100, ht407101, ht407102, ht407103, ht407104, ht407105, ht407106, ht407107, ht407108, ht407109, hB407113⟩ := show rk_10 γ (F407059 q381026) from RS_o hT407060 htq381026
            have hm407114 : (γ 9 19) ∈ P381024 := RS_m hT407060 ht407101 (by decide)
            obtain ⟨f407116, he407115, bf407116⟩ := show rk_21 I (F407059 (γ 9 19)) from RS_o hT407060 ht407101
            have r407117 : p407073.toInt = p381037.toInt := congrArg (fun e => (fI e 11).toInt) (he407068.symm.trans ((x407063).trans he381032))
            have bp407073 : gB p407073 0 100 := (hB407112.2.2.1)
            have cq407118 := x407062
            rw [cB_of he407115] at cq407118
            refine G_iload_n 0 dr_cX17_share_153 rfl ?_
            refine G_aload_n 3 dr_cX17_share_154 rfl ?_
            have hm407119 : q381027 ∈ P381024 := RS_m hT407060 htq381027 (by decide)
            obtain ⟨q407121, q407122, p407123, p407124, he407120, ht407140, ht407125, ht407126, ht407127, ht407128, r407129, r407130, r407131, r407132, r407133, r407134, r407135, r407136, r407137, r407138, r407139⟩ := show rk_9 γ el q381027 (F407059 q381027) from RS_o hT407060 htq381027
            have bp407123 : gB p407123 0 1000000 := ⟨by omega, by omega⟩
            have bp407124 : gB p407124 0 1000000 := ⟨by omega, by omega⟩
            refine Gw_callV (As := []) (gV_ok D I) (cp_12451_Code_size l hl0 D I P381024 F407059 q381027 q407121 q407122 p407123 p407124 hm407119 he407120) dr_cX17_share_155 ⟨wr_10_160, wr_1_15, wr_9_131, by decide, rfl, (Nat.le_of_ble_eq_true rfl), (Nat.le_of_ble_eq_true rfl)⟩ wr_9_129 wr_9_130 hm407119 he407120 rfl (show 0 + 0 ≤ 0 by first | omega | decide) (show 0 + 0 ≤ 0 by first | omega | decide) (Nat.le_of_ble_eq_true rfl) (fun r407144 w407145 dc407141 ds407142 hp407143 => ?_) (fun _ _ _ _ _ z => z.elim)
            obtain ⟨rfl, rfl, hdc, hds⟩ := hp407143
            change G _ _ _ _ _ _ _ (.int p407124 :: _) _ _ _
            refine G_widen (cs' := 0) (sl' := 0) (by omega) (by omega) ?_
            refine G_icmp_ge 246 dr_cX17_share_158 (by decide +kernel) (fun hc407146 => ?_) (fun hc407146 => ?_)
            · have r407147 : p407124.toInt ≤ g407058.toInt := gC_le hc407146
              refine G_aload_n 2 dr_cX17_share_246 rfl ?_
              refine G_iload_n 1 dr_cX17_share_247 rfl ?_
              refine Gp_put 11 hm407067 he407068 dr_cX17_share_248 (gk_X17 D I) (Nat.le_of_ble_eq_true rfl) wr_7_85 rfl rfl rfl (Nat.le_of_ble_eq_true rfl) (fun F407148 e407149 n407150 => ?_)
              have he407151 : F407148 (γ 9 19) = .inl (I .int, 2000, .inl f407116) := (n407150 (γ 9 19) (rn_ao he407115 he407068)).trans he407115
              have he407152 : F407148 q381027 = .inr (18, [.ref q407121, .ref q407122, .int p407123, .int p407124]) := (n407150 q381027 (rn_oo he407120 he407068 (by decide))).trans he407120
              have he407153 : F407148 q381026 = .inr (22, [.ref (γ 9 0), .ref (γ 9 1), .ref (γ 9 2), .ref (γ 9 3), .ref (γ 9 4), .ref (γ 9 5), .ref (γ 9 6), .ref (γ 9 7), .ref (γ 9 8), .int p407071, .int p407072, .int g406534, .int p407074, .int p407075, .int p407076, .ref (γ 9 15), .ref (γ 9 16), .ref (γ 9 17), .ref (γ 9 18), .ref (γ 9 19), .ref (γ 9 20), .ref (γ 9 21), .ref (γ 9 22), .int p407077, .int p407078, .int p407079, .int p407080, .int p407081, .ref q407069, .ref (γ 9 29), .int p407082, .ref (γ 9 31), .int p407083, .int p407084, .int p407085, .ref q407070]) := e407149
              have hs407154 : rStr γ [1] F381025 F407148 := rStr_put hs407061 n407150 htq381026 (by decide)
              have hT407155 : RS D I P381024 F407148 γ el := RS_set hT407060 n407150 htq381026 (by decide) ⟨q407069, q407070, p407071, p407072, g406534, p407074, p407075, p407076, p407077, p407078, p407079, p407080, p407081, p407082, p407083, p407084, p407085, he407153, ⟨(hB407112.1), (hB407112.2.1), ⟨by omega, by omega⟩, (hB407112.2.2.2.1), (hB407112.2.2.2.2.1), (hB407112.2.2.2.2.2.1), (hB407112.2.2.2.2.2.2.1), (hB407112.2.2.2.2.2.2.2.1), (hB407112.2.2.2.2.2.2.2.2)⟩, ht407086, ht407087, ht407088, ht407089, ht407090, ht407091, ht407092, ht407093, ht407094, ht407095, ht407096, ht407097, ht407098, ht407099, ht407100, ht407101, ht407102, ht407103, ht407104, ht407105, ht407106, ht407107, ht407108, ht407109, hB407113⟩
              exact G_vretA dr_cX17_share_251 rfl (Nat.le_of_ble_eq_true rfl) (Nat.le_of_ble_eq_true rfl) ⟨F407148, rfl, rfl, hT407155, hs407154, (Nat.le_of_ble_eq_true rfl), (Nat.le_of_ble_eq_true rfl)⟩
            · have r407156 : g407058.toInt < p407124.toInt := gC_nle hc407146
              have bg407058' : gB g407058 0 999999 := ⟨by omega, by omega⟩
              have bp407124' : gB p407124 1 1000000 := ⟨by omega, by omega⟩
              refine G_aload_n 3 dr_cX17_share_161 rfl ?_
              refine G_iload_n 0 dr_cX17_share_162 rfl ?_
              have hm407157 : q407121 ∈ P381024 := RS_m hT407060 ht407125 (by decide)
              obtain ⟨⟨p407159, p407160, q407161, he407158, r407162, r407163, r407164, r407166⟩, r407165⟩ := show rk_4 D I γ el F407059 q407121 from RS_o hT407060 ht407125
              have bp407159 := gB_any p407159
              have bp407160 : gB p407160 0 1000000 := ⟨by omega, by omega⟩
              obtain ⟨r407167, r407168, n407175, f407176, r407169, r407170, r407171, r407172, r407173, r407174⟩ := rLC_n r407164 (by omega)
              have hm407177 : q407161 ∈ P381024 := RS_m hT407060 r407167 (by decide)
              obtain ⟨q407178, hx407179⟩ : ∃ x, x = el q407121 g407058.toInt.toNat := ⟨_, rfl⟩
              have hx407180 : f407176 g407058.toNatClampNeg = some q407178 := (r407173 _ (show g407058.toInt.toNat < γ 2 q407121 by omega)).trans (by rw [hx407179])
              have ht407183 : rKd γ q407178 2 := by rw [hx407179]; exact (r407136 _ (by omega)).resolve_right (fun z => absurd z.1 (by omega))
              have ht407184 : rFm γ q407178 q407121 := by rw [hx407179]; exact (r407165 _ (show g407058.toInt.toNat < γ 2 q407121 by omega)).2.1
              have hm407185 : q407178 ∈ P381024 := RS_m hT407060 ht407183 (by decide)
              obtain ⟨q407187, q407188, p407189, p407190, he407186, ht407197, ht407191, ht407192, ht407193, ht407194, ht407195, bp407189, bp407190, r407196, r407198, r407199⟩ := show rk_2 γ q407178 (F407059 q407178) from RS_o hT407060 ht407183
              refine Gw_callV (As := [.int g407058]) (gV_ok D I) (cp_7723_Code_get l hl0 D I P381024 F407059 q381027 q407121 q407161 g407058 q407122 p407123 p407124 p407159 p407160 f407176 n407175 q407178 q407187 q407188 p407189 p407190 hm407119 hm407157 hm407177 hm407185 he407120 he407158 r407169 he407186 (gB_w bg407058' (by decide) (by decide)) (gB_w bp407160 (by decide) (by decide)) (by omega) (by omega) (by assumption) (by omega)) dr_cX17_share_163 ⟨wr_10_161, wr_1_15, wr_10_141, by decide, rfl, (Nat.le_of_ble_eq_true rfl), (Nat.le_of_ble_eq_true rfl)⟩ wr_10_139 wr_10_140 hm407119 he407120 rfl (show 0 + 0 ≤ 0 by first | omega | decide) (show 0 + 0 ≤ 0 by first | omega | decide) (Nat.le_of_ble_eq_true rfl) (fun r407203 w407204 dc407200 ds407201 hp407202 => ?_) (fun _ _ _ _ _ z => z.elim)
              obtain ⟨rfl, rfl, hdc, hds⟩ := hp407202
              change G _ _ _ _ _ _ _ (.ref q407178 :: _) _ _ _
              refine G_widen (cs' := 0) (sl' := 0) (by omega) (by omega) ?_
              refine G_astore (L' := [(4, .ref q407178), (3, .int g407058), (2, .int g406534), (0, .ref q381026), (1, .ref q381027)]) dr_cX17_share_166 (Nat.le_of_ble_eq_true rfl) rfl ?_
              refine G_iconst 0 dr_cX17_share_168 (by decide +kernel) ?_
              refine G_istore (L' := [(5, .int 0), (4, .ref q407178), (3, .int g407058), (2, .int g406534), (0, .ref q381026), (1, .ref q381027)]) dr_cX17_share_169 (Nat.le_of_ble_eq_true rfl) rfl ?_
              have hlp171_407368 : ∀ (n171_407368 : Nat) (F407364 : Nat → va_E) (g407363 : Int32), gB g407363 0 1000000 → RS D I P381024 F407364 γ el → rStr γ [1] F381025 F407364 → (∀ q : Nat, (q : Int) < ((γ 7 (γ 1 q381027) : Nat) : Int) → 0 ≤ (cB (F407364 (γ 9 19)) q).toInt ∧ (cB (F407364 (γ 9 19)) q).toInt ≤ q) → (F407364 q381026 = F381025 q381026) → ((1000001 : Int) - g407363.toInt).toNat < n171_407368 → G (gV D I) l (gRm 6 141 0 0) (gMA (gV D I) (pt_381030_SpillForgeModel_share D I γ el P381024 F381025 q381026 q381027) gNA 0 0) ky_381030_SpillForgeModel_share 171 [(5, .int g407363), (4, .ref q407178), (3, .int g407058), (2, .int g406534), (0, .ref q381026), (1, .ref q381027)] [] (va_pl P381024 F407364) 0 0 := by
                intro n171_407368
                induction n171_407368 with
                | zero => intro F407364 g407363 bg407363 hT407365 hs407366 x407367 x407368 hm171_407368; exact absurd hm171_407368 (Nat.not_lt_zero _)
                | succ n171_407368 ih171_407368 =>
                  intro F407364 g407363 bg407363 hT407365 hs407366 x407367 x407368 hm171_407368
                  have hs407370 : rStr γ [1] F407059 F407364 := fun b h0 hb hw => (hs407366 b h0 hb hw).trans (hs407061 b h0 hb hw).symm
                  have he407371 : F407364 q381027 = .inr (18, [.ref q407121, .ref q407122, .int p407123, .int p407124]) := (hs407370 q381027 (rT0 htq381027 (by decide)) (rT1 htq381027 (by decide)) (rT2 htq381027 (by decide))).trans he407120
                  have he407372 : F407364 q407121 = .inr (4, [.int p407159, .ref q407161, .int p407160]) := (hs407370 q407121 (rT0 ht407125 (by decide)) (rT1 ht407125 (by decide)) (rT2 ht407125 (by decide))).trans he407158
                  have he407373 : F407364 q407161 = .inl (I (.object "java/lang/Object"), n407175, .inr (.inr (.inr (.inr f407176)))) := (hs407370 q407161 (rT0 r407167 (by decide)) (rT1 r407167 (by decide)) (rT2 r407167 (by decide))).trans r407169
                  have he407374 : F407364 q407178 = .inr (17, [.ref q407187, .ref q407188, .int p407189, .int p407190]) := (hs407370 q407178 (rT0 ht407183 (by decide)) (rT1 ht407183 (by decide)) (rT2 ht407183 (by decide))).trans he407186
                  have hs407375 : rStr γ [1] F381025 F407364 := rStr_tr hs407061 hs407370
                  have hm407376 : q381026 ∈ P381024 := RS_m hT407365 htq381026 (by decide)
                  obtain ⟨q407378, q407379, p407380, p407381, p407382, p407383, p407384, p407385, p407386, p407387, p407388, p407389, p407390, p407391, p407392, p407393, p407394, he407377, hB407421, ht407395, ht407396, ht407397, ht407398, ht407399, ht407400, ht407401, ht407402, ht407403, ht407404, ht407405, ht407406, ht407407, ht407408, ht407409, ht407410, ht407411, ht407412, ht407413, ht407414, ht407415, ht407416, ht407417, ht407418, hB407422⟩ := show rk_10 γ (F407364 q381026) from RS_o hT407365 htq381026
                  have hm407423 : (γ 9 19) ∈ P381024 := RS_m hT407365 ht407410 (by decide)
                  obtain ⟨f407425, he407424, bf407425⟩ := show rk_21 I (F407364 (γ 9 19)) from RS_o hT407365 ht407410
                  have r407426 : p407382.toInt = p381037.toInt := congrArg (fun e => (fI e 11).toInt) (he407377.symm.trans ((x407368).trans he381032))
                  have bp407382 : gB p407382 0 100 := (hB407421.2.2.1)
                  have cq407427 := x407367
                  rw [cB_of he407424] at cq407427
                  refine G_iload 0 dr_cX17_share_171 rfl ?_
                  refine G_aload 1 dr_cX17_share_173 rfl ?_
                  refine Gp_get 0 hm407185 he407374 dr_cX17_share_175 (gk_X12 D I) (Nat.le_of_ble_eq_true rfl) wr_9_220 rfl ?_
                  have hm407428 : q407187 ∈ P381024 := RS_m hT407365 ht407191 (by decide)
                  obtain ⟨⟨p407430, p407431, q407432, he407429, r407433, r407434, r407435, r407437⟩, r407436⟩ := show rk_3 D I γ el F407364 q407187 from RS_o hT407365 ht407191
                  have bp407430 := gB_any p407430
                  have bp407431 : gB p407431 0 1000000 := ⟨by omega, by omega⟩
                  refine Gw_callV (As := []) (gV_ok D I) (cp_7_ArrayList_size l hl0 D I P381024 F407364 q407187 p407430 q407432 p407431 hm407428 he407429 (gB_w bp407431 (by decide) (by decide))) dr_cX17_share_178 ⟨wr_10_200, wr_1_18, wr_9_160, by decide, rfl, (Nat.le_of_ble_eq_true rfl), (Nat.le_of_ble_eq_true rfl)⟩ wr_9_158 wr_9_159 hm407428 he407429 rfl (show 0 + 0 ≤ 0 by first | omega | decide) (show 0 + 0 ≤ 0 by first | omega | decide) (Nat.le_of_ble_eq_true rfl) (fun r407441 w407442 dc407438 ds407439 hp407440 => ?_) (fun _ _ _ _ _ z => z.elim)
                  obtain ⟨rfl, rfl, hdc, hds⟩ := hp407440
                  change G _ _ _ _ _ _ _ (.int p407431 :: _) _ _ _
                  refine G_widen (cs' := 0) (sl' := 0) (by omega) (by omega) ?_
                  refine G_icmp_ge 240 dr_cX17_share_181 (by decide +kernel) (fun hc407443 => ?_) (fun hc407443 => ?_)
                  · have r407444 : p407431.toInt ≤ g407363.toInt := gC_le hc407443
                    obtain ⟨z407445, hz407445⟩ : ∃ z : Int32, z = g407058 + Int32.ofInt 1 := ⟨_, rfl⟩
                    have ez407445 : z407445.toInt = g407058.toInt + 1 := gI_inc hz407445 (by decide) bg407058' (by decide) (by decide)
                    have bz407445 : gB z407445 1 1000000 := ⟨by omega, by omega⟩
                    refine G_iinc (L' := [(3, .int z407445), (5, .int g407363), (4, .ref q407178), (2, .int g406534), (0, .ref q381026), (1, .ref q381027)]) z407445 2 dr_cX17_share_240 rfl hz407445.symm (Nat.le_of_ble_eq_true rfl) rfl ?_
                    refine G_goto 153 dr_cX17_share_243 (by decide +kernel) ?_
                    refine G_lv (L' := [(3, .int z407445), (2, .int g406534), (0, .ref q381026), (1, .ref q381027)]) [0, 3, 4, 5] rfl ?_
                    exact ih153_407063 F407364 z407445 (gB_w bz407445 (by decide) (by decide)) hT407365 hs407366 (by rw [cB_of he407424]; exact cq407427) x407368 (by omega)
                  · have r407446 : g407363.toInt < p407431.toInt := gC_nle hc407443
                    have bg407363' : gB g407363 0 999999 := ⟨by omega, by omega⟩
                    have bp407431' : gB p407431 1 1000000 := ⟨by omega, by omega⟩
                    refine G_aload 1 dr_cX17_share_184 rfl ?_
                    refine Gp_get 0 hm407185 he407374 dr_cX17_share_186 (gk_X12 D I) (Nat.le_of_ble_eq_true rfl) wr_9_220 rfl ?_
                    refine G_iload 0 dr_cX17_share_189 rfl ?_
                    obtain ⟨r407447, r407448, n407455, f407456, r407449, r407450, r407451, r407452, r407453, r407454⟩ := rLC_n r407435 (by omega)
                    have hm407457 : q407432 ∈ P381024 := RS_m hT407365 r407447 (by decide)
                    obtain ⟨q407458, hx407459⟩ : ∃ x, x = el q407187 g407363.toInt.toNat := ⟨_, rfl⟩
                    have hx407460 : f407456 g407363.toNatClampNeg = some q407458 := (r407453 _ (show g407363.toInt.toNat < γ 2 q407187 by omega)).trans (by rw [hx407459])
                    have ht407461 : rKd γ q407458 1 := by rw [hx407459]; exact (r407436 _ (show g407363.toInt.toNat < γ 2 q407187 by omega)).1
                    have ht407462 : rFm γ q407458 q407187 := by rw [hx407459]; exact (r407436 _ (show g407363.toInt.toNat < γ 2 q407187 by omega)).2.1
                    refine Gw_callV (As := [.int g407363]) (gV_ok D I) (cp_22_ArrayList_get l hl0 D I P381024 F407364 q407187 q407432 g407363 p407430 p407431 f407456 n407455 q407458 hm407428 hm407457 he407429 r407449 (gB_w bg407363' (by decide) (by decide)) (gB_w bp407431' (by decide) (by decide)) (by omega) (by omega) (by assumption) (by omega)) dr_cX17_share_191 ⟨wr_10_201, wr_1_18, wr_10_65, by decide, rfl, (Nat.le_of_ble_eq_true rfl), (Nat.le_of_ble_eq_true rfl)⟩ wr_10_63 wr_10_64 hm407428 he407429 rfl (show 0 + 0 ≤ 0 by first | omega | decide) (show 0 + 0 ≤ 0 by first | omega | decide) (Nat.le_of_ble_eq_true rfl) (fun r407466 w407467 dc407463 ds407464 hp407465 => ?_) (fun _ _ _ _ _ z => z.elim)
                    obtain ⟨rfl, rfl, hdc, hds⟩ := hp407465
                    change G _ _ _ _ _ _ _ (.ref q407458 :: _) _ _ _
                    refine G_widen (cs' := 0) (sl' := 0) (by omega) (by omega) ?_
                    have hm407468 : q407458 ∈ P381024 := RS_m hT407365 ht407461 (by decide)
                    obtain ⟨p407470, p407471, p407472, p407473, p407474, p407475, p407476, he407469, bp407470, bp407471, bp407474, bp407475, bp407476, r407477, r407478, r407479, r407480⟩ := show rk_1 γ q407458 (F407364 q407458) from RS_o hT407365 ht407461
                    have bp407472 := gB_any p407472
                    have bp407473 := gB_any p407473
                    refine Gp_cast hm407468 he407469 rfl dr_cX17_share_194 wr_10_202 (gr_cast 1 rfl) ?_
                    refine G_astore (L' := [(6, .ref q407458), (5, .int g407363), (4, .ref q407178), (3, .int g407058), (2, .int g406534), (0, .ref q381026), (1, .ref q381027)]) dr_cX17_share_197 (Nat.le_of_ble_eq_true rfl) rfl ?_
                    refine G_aload 0 dr_cX17_share_199 rfl ?_
                    refine Gp_get 0 hm407468 he407469 dr_cX17_share_201 (gk_X15 D I) (Nat.le_of_ble_eq_true rfl) wr_9_177 rfl ?_
                    refine G_bipush 21 dr_cX17_share_204 (by decide +kernel) ?_
                    refine G_icmp_eq 219 dr_cX17_share_206 (by decide +kernel) (fun hc407481 => ?_) (fun hc407481 => ?_)
                    · have r407482 : p407470.toInt = 21 := gj_eq hc407481 (show Int32.toInt 21 = 21 by decide)
                      have bp407470' : gB p407470 21 21 := ⟨by omega, by omega⟩
                      refine G_aload 0 dr_cX17_share_219 rfl ?_
                      refine G_aload_n 5 dr_cX17_share_221 rfl ?_
                      refine Gp_get 19 hm407376 he407377 dr_cX17_share_222 (gk_X17 D I) (Nat.le_of_ble_eq_true rfl) wr_7_93 rfl ?_
                      refine G_aload 0 dr_cX17_share_225 rfl ?_
                      refine Gp_get 4 hm407468 he407469 dr_cX17_share_227 (gk_X15 D I) (Nat.le_of_ble_eq_true rfl) wr_9_193 rfl ?_
                      refine Gp_iald 0 hm407423 he407424 dr_cX17_share_230 rfl (gB_in bp407474 (by decide) (by decide)) (G_nam fun z407483 hz407483 => ?_)
                      have bz407483 : gB z407483 (-1) 1999 := by rw [hz407483]; exact bf407425 _
                      have r407484 : γ 7 (γ 1 q407458) = γ 7 (γ 1 q381027) := by rw [show γ 1 q407458 = γ 1 q407187 from ht407462, show γ 1 q407187 = γ 1 q407178 from ht407192, show γ 1 q407178 = γ 1 q407121 from ht407184, show γ 1 q407121 = γ 1 q381027 from ht407126]
                      have r407485 : 0 ≤ z407483.toInt ∧ z407483.toInt ≤ (p407474.toInt.toNat : Int) := by rw [hz407483]; exact cq407427 p407474.toInt.toNat (by omega)
                      have bz407483' : gB z407483 0 1999 := ⟨by omega, by omega⟩
                      refine Gp_put 4 hm407468 he407469 dr_cX17_share_231 (gk_X15 D I) (Nat.le_of_ble_eq_true rfl) wr_9_193 rfl rfl rfl (Nat.le_of_ble_eq_true rfl) (fun F407486 e407487 n407488 => ?_)
                      have he407489 : F407486 q381027 = .inr (18, [.ref q407121, .ref q407122, .int p407123, .int p407124]) := (n407488 q381027 (rn_oo he407371 he407469 (by decide))).trans he407371
                      have he407490 : F407486 q407121 = .inr (4, [.int p407159, .ref q407161, .int p407160]) := (n407488 q407121 (rn_oo he407372 he407469 (by decide))).trans he407372
                      have he407491 : F407486 q407161 = .inl (I (.object "java/lang/Object"), n407175, .inr (.inr (.inr (.inr f407176)))) := (n407488 q407161 (rn_ao he407373 he407469)).trans he407373
                      have he407492 : F407486 q407178 = .inr (17, [.ref q407187, .ref q407188, .int p407189, .int p407190]) := (n407488 q407178 (rn_oo he407374 he407469 (by decide))).trans he407374
                      have he407493 : F407486 q381026 = .inr (22, [.ref (γ 9 0), .ref (γ 9 1), .ref (γ 9 2), .ref (γ 9 3), .ref (γ 9 4), .ref (γ 9 5), .ref (γ 9 6), .ref (γ 9 7), .ref (γ 9 8), .int p407380, .int p407381, .int p407382, .int p407383, .int p407384, .int p407385, .ref (γ 9 15), .ref (γ 9 16), .ref (γ 9 17), .ref (γ 9 18), .ref (γ 9 19), .ref (γ 9 20), .ref (γ 9 21), .ref (γ 9 22), .int p407386, .int p407387, .int p407388, .int p407389, .int p407390, .ref q407378, .ref (γ 9 29), .int p407391, .ref (γ 9 31), .int p407392, .int p407393, .int p407394, .ref q407379]) := (n407488 q381026 (rn_oo he407377 he407469 (by decide))).trans he407377
                      have he407494 : F407486 (γ 9 19) = .inl (I .int, 2000, .inl f407425) := (n407488 (γ 9 19) (rn_ao he407424 he407469)).trans he407424
                      have he407495 : F407486 q407187 = .inr (4, [.int p407430, .ref q407432, .int p407431]) := (n407488 q407187 (rn_oo he407429 he407469 (by decide))).trans he407429
                      have he407496 : F407486 q407432 = .inl (I (.object "java/lang/Object"), n407455, .inr (.inr (.inr (.inr f407456)))) := (n407488 q407432 (rn_ao r407449 he407469)).trans r407449
                      have he407497 : F407486 q407458 = .inr (20, [.int p407470, .int p407471, .int p407472, .int p407473, .int z407483, .int p407475, .int p407476]) := e407487
                      have hs407498 : rStr γ [1] F381025 F407486 := rStr_pu2 hs407366 n407488 ht407461 (by decide)
                      have kp407499 : F407486 q381026 = F381025 q381026 := (n407488 q381026 (rn_ty htq381026 ht407461 (by decide))).trans x407368
                      obtain ⟨z407500, hz407500⟩ : ∃ z : Int32, z = g407363 + Int32.ofInt 1 := ⟨_, rfl⟩
                      have ez407500 : z407500.toInt = g407363.toInt + 1 := gI_inc hz407500 (by decide) bg407363' (by decide) (by decide)
                      have bz407500 : gB z407500 1 1000000 := ⟨by omega, by omega⟩
                      refine G_iinc (L' := [(5, .int z407500), (6, .ref q407458), (4, .ref q407178), (3, .int g407058), (2, .int g406534), (0, .ref q381026), (1, .ref q381027)]) z407500 1 dr_cX17_share_234 rfl hz407500.symm (Nat.le_of_ble_eq_true rfl) rfl ?_
                      refine G_goto 171 dr_cX17_share_237 (by decide +kernel) ?_
                      have hT407501 : RS D I P381024 F407486 γ el := RS_set hT407365 n407488 ht407461 (by decide) ⟨p407470, p407471, p407472, p407473, z407483, p407475, p407476, he407497, (gB_w bp407470' (by decide) (by decide)), bp407471, bz407483', bp407475, bp407476, (by omega), (by omega), (by omega), (by omega)⟩
                      refine G_lv (L' := [(5, .int z407500), (4, .ref q407178), (3, .int g407058), (2, .int g406534), (0, .ref q381026), (1, .ref q381027)]) [0, 2, 3, 4, 5, 6] rfl ?_
                      exact ih171_407368 F407486 z407500 (gB_w bz407500 (by decide) (by decide)) hT407501 hs407498 (by rw [cB_of he407494]; exact cq407427) kp407499 (by omega)
                    · have r407502 : p407470.toInt ≠ 21 := gj_neq hc407481 (show Int32.toInt 21 = 21 by decide)
                      refine G_aload 0 dr_cX17_share_209 rfl ?_
                      refine Gp_get 0 hm407468 he407469 dr_cX17_share_211 (gk_X15 D I) (Nat.le_of_ble_eq_true rfl) wr_9_177 rfl ?_
                      refine G_bipush 23 dr_cX17_share_214 (by decide +kernel) ?_
                      refine G_icmp_ne 234 dr_cX17_share_216 (by decide +kernel) (fun hc407503 => ?_) (fun hc407503 => ?_)
                      · have r407504 : p407470.toInt ≠ 23 := gj_neq hc407503 (show Int32.toInt 23 = 23 by decide)
                        obtain ⟨z407505, hz407505⟩ : ∃ z : Int32, z = g407363 + Int32.ofInt 1 := ⟨_, rfl⟩
                        have ez407505 : z407505.toInt = g407363.toInt + 1 := gI_inc hz407505 (by decide) bg407363' (by decide) (by decide)
                        have bz407505 : gB z407505 1 1000000 := ⟨by omega, by omega⟩
                        refine G_iinc (L' := [(5, .int z407505), (6, .ref q407458), (4, .ref q407178), (3, .int g407058), (2, .int g406534), (0, .ref q381026), (1, .ref q381027)]) z407505 1 dr_cX17_share_234 rfl hz407505.symm (Nat.le_of_ble_eq_true rfl) rfl ?_
                        refine G_goto 171 dr_cX17_share_237 (by decide +kernel) ?_
                        refine G_lv (L' := [(5, .int z407505), (4, .ref q407178), (3, .int g407058), (2, .int g406534), (0, .ref q381026), (1, .ref q381027)]) [0, 2, 3, 4, 5, 6] rfl ?_
                        exact ih171_407368 F407364 z407505 (gB_w bz407505 (by decide) (by decide)) hT407365 hs407366 (by rw [cB_of he407424]; exact cq407427) x407368 (by omega)
                      · have r407506 : p407470.toInt = 23 := gj_eq hc407503 (show Int32.toInt 23 = 23 by decide)
                        have bp407470' : gB p407470 23 23 := ⟨by omega, by omega⟩
                        refine G_aload 0 dr_cX17_share_219 rfl ?_
                        refine G_aload_n 5 dr_cX17_share_221 rfl ?_
                        refine Gp_get 19 hm407376 he407377 dr_cX17_share_222 (gk_X17 D I) (Nat.le_of_ble_eq_true rfl) wr_7_93 rfl ?_
                        refine G_aload 0 dr_cX17_share_225 rfl ?_
                        refine Gp_get 4 hm407468 he407469 dr_cX17_share_227 (gk_X15 D I) (Nat.le_of_ble_eq_true rfl) wr_9_193 rfl ?_
                        refine Gp_iald 0 hm407423 he407424 dr_cX17_share_230 rfl (gB_in bp407474 (by decide) (by decide)) (G_nam fun z407507 hz407507 => ?_)
                        have bz407507 : gB z407507 (-1) 1999 := by rw [hz407507]; exact bf407425 _
                        have r407508 : γ 7 (γ 1 q407458) = γ 7 (γ 1 q381027) := by rw [show γ 1 q407458 = γ 1 q407187 from ht407462, show γ 1 q407187 = γ 1 q407178 from ht407192, show γ 1 q407178 = γ 1 q407121 from ht407184, show γ 1 q407121 = γ 1 q381027 from ht407126]
                        have r407509 : 0 ≤ z407507.toInt ∧ z407507.toInt ≤ (p407474.toInt.toNat : Int) := by rw [hz407507]; exact cq407427 p407474.toInt.toNat (by omega)
                        have bz407507' : gB z407507 0 1999 := ⟨by omega, by omega⟩
                        refine Gp_put 4 hm407468 he407469 dr_cX17_share_231 (gk_X15 D I) (Nat.le_of_ble_eq_true rfl) wr_9_193 rfl rfl rfl (Nat.le_of_ble_eq_true rfl) (fun F407510 e407511 n407512 => ?_)
                        have he407513 : F407510 q381027 = .inr (18, [.ref q407121, .ref q407122, .int p407123, .int p407124]) := (n407512 q381027 (rn_oo he407371 he407469 (by decide))).trans he407371
                        have he407514 : F407510 q407121 = .inr (4, [.int p407159, .ref q407161, .int p407160]) := (n407512 q407121 (rn_oo he407372 he407469 (by decide))).trans he407372
                        have he407515 : F407510 q407161 = .inl (I (.object "java/lang/Object"), n407175, .inr (.inr (.inr (.inr f407176)))) := (n407512 q407161 (rn_ao he407373 he407469)).trans he407373
                        have he407516 : F407510 q407178 = .inr (17, [.ref q407187, .ref q407188, .int p407189, .int p407190]) := (n407512 q407178 (rn_oo he407374 he407469 (by decide))).trans he407374
                        have he407517 : F407510 q381026 = .inr (22, [.ref (γ 9 0), .ref (γ 9 1), .ref (γ 9 2), .ref (γ 9 3), .ref (γ 9 4), .ref (γ 9 5), .ref (γ 9 6), .ref (γ 9 7), .ref (γ 9 8), .int p407380, .int p407381, .int p407382, .int p407383, .int p407384, .int p407385, .ref (γ 9 15), .ref (γ 9 16), .ref (γ 9 17), .ref (γ 9 18), .ref (γ 9 19), .ref (γ 9 20), .ref (γ 9 21), .ref (γ 9 22), .int p407386, .int p407387, .int p407388, .int p407389, .int p407390, .ref q407378, .ref (γ 9 29), .int p407391, .ref (γ 9 31), .int p407392, .int p407393, .int p407394, .ref q407379]) := (n407512 q381026 (rn_oo he407377 he407469 (by decide))).trans he407377
                        have he407518 : F407510 (γ 9 19) = .inl (I .int, 2000, .inl f407425) := (n407512 (γ 9 19) (rn_ao he407424 he407469)).trans he407424
                        have he407519 : F407510 q407187 = .inr (4, [.int p407430, .ref q407432, .int p407431]) := (n407512 q407187 (rn_oo he407429 he407469 (by decide))).trans he407429
                        have he407520 : F407510 q407432 = .inl (I (.object "java/lang/Object"), n407455, .inr (.inr (.inr (.inr f407456)))) := (n407512 q407432 (rn_ao r407449 he407469)).trans r407449
                        have he407521 : F407510 q407458 = .inr (20, [.int p407470, .int p407471, .int p407472, .int p407473, .int z407507, .int p407475, .int p407476]) := e407511
                        have hs407522 : rStr γ [1] F381025 F407510 := rStr_pu2 hs407366 n407512 ht407461 (by decide)
                        have kp407523 : F407510 q381026 = F381025 q381026 := (n407512 q381026 (rn_ty htq381026 ht407461 (by decide))).trans x407368
                        obtain ⟨z407524, hz407524⟩ : ∃ z : Int32, z = g407363 + Int32.ofInt 1 := ⟨_, rfl⟩
                        have ez407524 : z407524.toInt = g407363.toInt + 1 := gI_inc hz407524 (by decide) bg407363' (by decide) (by decide)
                        have bz407524 : gB z407524 1 1000000 := ⟨by omega, by omega⟩
                        refine G_iinc (L' := [(5, .int z407524), (6, .ref q407458), (4, .ref q407178), (3, .int g407058), (2, .int g406534), (0, .ref q381026), (1, .ref q381027)]) z407524 1 dr_cX17_share_234 rfl hz407524.symm (Nat.le_of_ble_eq_true rfl) rfl ?_
                        refine G_goto 171 dr_cX17_share_237 (by decide +kernel) ?_
                        have hT407525 : RS D I P381024 F407510 γ el := RS_set hT407365 n407512 ht407461 (by decide) ⟨p407470, p407471, p407472, p407473, z407507, p407475, p407476, he407521, (gB_w bp407470' (by decide) (by decide)), bp407471, bz407507', bp407475, bp407476, (by omega), (by omega), (by omega), (by omega)⟩
                        refine G_lv (L' := [(5, .int z407524), (4, .ref q407178), (3, .int g407058), (2, .int g406534), (0, .ref q381026), (1, .ref q381027)]) [0, 2, 3, 4, 5, 6] rfl ?_
                        exact ih171_407368 F407510 z407524 (gB_w bz407524 (by decide) (by decide)) hT407525 hs407522 (by rw [cB_of he407518]; exact cq407427) kp407523 (by omega)
              exact hlp171_407368 (((1000001 : Int) - 0).toNat + 1) F407059 0 (gB_w (gBl (show Int32.toInt 0 = 0 by decide)) (by decide) (by decide)) hT407060 hs407061 (by rw [cB_of he407115]; exact cq407118) x407063 (Nat.lt_succ_self _)
        exact hlp153_407063 (((1000001 : Int) - 0).toNat + 1) F406535 0 (gB_w (gBl (show Int32.toInt 0 = 0 by decide)) (by decide) (by decide)) hT406536 hs406537 (by rw [cB_of he406591]; exact fun q hq => cq406594 q (by omega)) x406539 (Nat.lt_succ_self _)
      · have r407526 : g406533.toInt < p406549.toInt := gC_nle hc406595
        have bg406533' : gB g406533 0 99 := ⟨by omega, by omega⟩
        have bp406549' : gB p406549 1 100 := ⟨by omega, by omega⟩
        refine G_iconst 0 dr_cX17_share_18 (by decide +kernel) ?_
        refine G_istore (L' := [(4, .int 0), (3, .int g406533), (2, .int g406534), (0, .ref q381026), (1, .ref q381027)]) dr_cX17_share_19 (Nat.le_of_ble_eq_true rfl) rfl ?_
        refine G_iconst 0 dr_cX17_share_21 (by decide +kernel) ?_
        refine G_istore (L' := [(5, .int 0), (4, .int 0), (3, .int g406533), (2, .int g406534), (0, .ref q381026), (1, .ref q381027)]) dr_cX17_share_22 (Nat.le_of_ble_eq_true rfl) rfl ?_
        have hlp24_408056 : ∀ (n24_408056 : Nat) (F408052 : Nat → va_E) (g408051 : Int32), gB g408051 0 1999 → RS D I P381024 F408052 γ el → rStr γ [1] F381025 F408052 → (∀ q : Nat, (q : Int) < g406533.toInt → 0 ≤ (cB (F408052 (γ 9 19)) q).toInt ∧ (cB (F408052 (γ 9 19)) q).toInt ≤ q) → (F408052 q381026 = F381025 q381026) → ((2000 : Int) - g408051.toInt).toNat < n24_408056 → G (gV D I) l (gRm 6 141 0 0) (gMA (gV D I) (pt_381030_SpillForgeModel_share D I γ el P381024 F381025 q381026 q381027) gNA 0 0) ky_381030_SpillForgeModel_share 24 [(5, .int g408051), (4, .int 0), (3, .int g406533), (2, .int g406534), (0, .ref q381026), (1, .ref q381027)] [] (va_pl P381024 F408052) 0 0 := by
          intro n24_408056
          induction n24_408056 with
          | zero => intro F408052 g408051 bg408051 hT408053 hs408054 x408055 x408056 hm24_408056; exact absurd hm24_408056 (Nat.not_lt_zero _)
          | succ n24_408056 ih24_408056 =>
            intro F408052 g408051 bg408051 hT408053 hs408054 x408055 x408056 hm24_408056
            have hs408058 : rStr γ [1] F406535 F408052 := fun b h0 hb hw => (hs408054 b h0 hb hw).trans (hs406537 b h0 hb hw).symm
            have hs408059 : rStr γ [1] F381025 F408052 := rStr_tr hs406537 hs408058
            have hm408060 : q381026 ∈ P381024 := RS_m hT408053 htq381026 (by decide)
            obtain ⟨q408062, q408063, p408064, p408065, p408066, p408067, p408068, p408069, p408070, p408071, p408072, p408073, p408074, p408075, p408076, p408077, p408078, he408061, hB408105, ht408079, ht408080, ht408081, ht408082, ht408083, ht408084, ht408085, ht408086, ht408087, ht408088, ht408089, ht408090, ht408091, ht408092, ht408093, ht408094, ht408095, ht408096, ht408097, ht408098, ht408099, ht408100, ht408101, ht408102, hB408106⟩ := show rk_10 γ (F408052 q381026) from RS_o hT408053 htq381026
            have hm408107 : (γ 9 19) ∈ P381024 := RS_m hT408053 ht408094 (by decide)
            obtain ⟨f408109, he408108, bf408109⟩ := show rk_21 I (F408052 (γ 9 19)) from RS_o hT408053 ht408094
            have r408110 : p408066.toInt = p381037.toInt := congrArg (fun e => (fI e 11).toInt) (he408061.symm.trans ((x408056).trans he381032))
            have bp408066 : gB p408066 0 100 := (hB408105.2.2.1)
            have cq408111 := x408055
            rw [cB_of he408108] at cq408111
            refine G_iload 0 dr_cX17_share_24 rfl ?_
            refine G_iload_n 2 dr_cX17_share_26 rfl ?_
            refine G_icmp_ge 44 dr_cX17_share_27 (by decide +kernel) (fun hc408112 => ?_) (fun hc408112 => ?_)
            · have r408113 : g406533.toInt ≤ g408051.toInt := gC_le hc408112
              refine G_iconst 0 dr_cX17_share_44 (by decide +kernel) ?_
              refine G_istore (L' := [(5, .int 0), (4, .int 0), (3, .int g406533), (2, .int g406534), (0, .ref q381026), (1, .ref q381027)]) dr_cX17_share_45 (Nat.le_of_ble_eq_true rfl) rfl ?_
              have hlp47_408343 : ∀ (n47_408343 : Nat) (F408339 : Nat → va_E) (g408338 : Int32), gB g408338 0 99 → RS D I P381024 F408339 γ el → rStr γ [1] F381025 F408339 → (∀ q : Nat, (q : Int) < g406533.toInt → 0 ≤ (cB (F408339 (γ 9 19)) q).toInt ∧ (cB (F408339 (γ 9 19)) q).toInt ≤ q) → (F408339 q381026 = F381025 q381026) → ((100 : Int) - g408338.toInt).toNat < n47_408343 → G (gV D I) l (gRm 6 141 0 0) (gMA (gV D I) (pt_381030_SpillForgeModel_share D I γ el P381024 F381025 q381026 q381027) gNA 0 0) ky_381030_SpillForgeModel_share 47 [(5, .int g408338), (4, .int 0), (3, .int g406533), (2, .int g406534), (0, .ref q381026), (1, .ref q381027)] [] (va_pl P381024 F408339) 0 0 := by
                intro n47_408343
                induction n47_408343 with
                | zero => intro F408339 g408338 bg408338 hT408340 hs408341 x408342 x408343 hm47_408343; exact absurd hm47_408343 (Nat.not_lt_zero _)
                | succ n47_408343 ih47_408343 =>
                  intro F408339 g408338 bg408338 hT408340 hs408341 x408342 x408343 hm47_408343
                  have hs408345 : rStr γ [1] F408052 F408339 := fun b h0 hb hw => (hs408341 b h0 hb hw).trans (hs408054 b h0 hb hw).symm
                  have hs408346 : rStr γ [1] F381025 F408339 := rStr_tr hs408054 hs408345
                  have hm408347 : q381026 ∈ P381024 := RS_m hT408340 htq381026 (by decide)
                  obtain ⟨q408349, q408350, p408351, p408352, p408353, p408354, p408355, p408356, p408357, p408358, p408359, p408360, p408361, p408362, p408363, p408364, p408365, he408348, hB408392, ht408366, ht408367, ht408368, ht408369, ht408370, ht408371, ht408372, ht408373, ht408374, ht408375, ht408376, ht408377, ht408378, ht408379, ht408380, ht408381, ht408382, ht408383, ht408384, ht408385, ht408386, ht408387, ht408388, ht408389, hB408393⟩ := show rk_10 γ (F408339 q381026) from RS_o hT408340 htq381026
                  have hm408394 : (γ 9 19) ∈ P381024 := RS_m hT408340 ht408381 (by decide)
                  obtain ⟨f408396, he408395, bf408396⟩ := show rk_21 I (F408339 (γ 9 19)) from RS_o hT408340 ht408381
                  have r408397 : p408353.toInt = p381037.toInt := congrArg (fun e => (fI e 11).toInt) (he408348.symm.trans ((x408343).trans he381032))
                  have bp408353 : gB p408353 0 100 := (hB408392.2.2.1)
                  have cq408398 := x408342
                  rw [cB_of he408395] at cq408398
                  refine G_iload 0 dr_cX17_share_47 rfl ?_
                  refine G_iload_n 2 dr_cX17_share_49 rfl ?_
                  refine G_icmp_ge 96 dr_cX17_share_50 (by decide +kernel) (fun hc408399 => ?_) (fun hc408399 => ?_)
                  · have r408400 : g406533.toInt ≤ g408338.toInt := gC_le hc408399
                    have hlp96_408456 : ∀ (n96_408456 : Nat) (g408454 : Int32), gB g408454 0 99 → (∀ q : Nat, (q : Int) < g406533.toInt → 0 ≤ (cB (F408339 (γ 9 19)) q).toInt ∧ (cB (F408339 (γ 9 19)) q).toInt ≤ q) → (g408454.toInt ≤ g406533.toInt) → ((100 : Int) - g408454.toInt).toNat < n96_408456 → G (gV D I) l (gRm 6 141 0 0) (gMA (gV D I) (pt_381030_SpillForgeModel_share D I γ el P381024 F381025 q381026 q381027) gNA 0 0) ky_381030_SpillForgeModel_share 96 [(5, .int g408338), (4, .int g408454), (3, .int g406533), (2, .int g406534), (0, .ref q381026), (1, .ref q381027)] [] (va_pl P381024 F408339) 0 0 := by
                      intro n96_408456
                      induction n96_408456 with
                      | zero => intro g408454 bg408454 x408455 x408456 hm96_408456; exact absurd hm96_408456 (Nat.not_lt_zero _)
                      | succ n96_408456 ih96_408456 =>
                        intro g408454 bg408454 x408455 x408456 hm96_408456
                        have r408458 : p408353.toInt = p381037.toInt := congrArg (fun e => (fI e 11).toInt) (he408348.symm.trans ((x408343).trans he381032))
                        have cq408459 := x408455
                        rw [cB_of he408395] at cq408459
                        refine G_iload 1 dr_cX17_share_96 rfl ?_
                        refine G_iload_n 2 dr_cX17_share_98 rfl ?_
                        refine G_icmp_ge 119 dr_cX17_share_99 (by decide +kernel) (fun hc408460 => ?_) (fun hc408460 => ?_)
                        · have r408461 : g406533.toInt ≤ g408454.toInt := gC_le hc408460
                          refine G_aload_n 4 dr_cX17_share_119 rfl ?_
                          refine Gp_get 19 hm408347 he408348 dr_cX17_share_120 (gk_X17 D I) (Nat.le_of_ble_eq_true rfl) wr_7_93 rfl ?_
                          refine G_iload_n 2 dr_cX17_share_123 rfl ?_
                          refine G_iload 1 dr_cX17_share_124 rfl ?_
                          refine Gp_iast 0 hm408394 he408395 dr_cX17_share_126 rfl (gB_in bg406533' (by decide) (by decide)) (fun F408462 e408463 n408464 => ?_)
                          obtain ⟨f408465, hf408465⟩ : ∃ z, z = upd f408396 g406533.toNatClampNeg g408454 := ⟨_, rfl⟩
                          rw [← hf408465] at e408463
                          have he408466 : F408462 q381026 = .inr (22, [.ref (γ 9 0), .ref (γ 9 1), .ref (γ 9 2), .ref (γ 9 3), .ref (γ 9 4), .ref (γ 9 5), .ref (γ 9 6), .ref (γ 9 7), .ref (γ 9 8), .int p408351, .int p408352, .int p408353, .int p408354, .int p408355, .int p408356, .ref (γ 9 15), .ref (γ 9 16), .ref (γ 9 17), .ref (γ 9 18), .ref (γ 9 19), .ref (γ 9 20), .ref (γ 9 21), .ref (γ 9 22), .int p408357, .int p408358, .int p408359, .int p408360, .int p408361, .ref q408349, .ref (γ 9 29), .int p408362, .ref (γ 9 31), .int p408363, .int p408364, .int p408365, .ref q408350]) := (n408464 q381026 (rn_oa he408348 he408395)).trans he408348
                          have he408467 : F408462 (γ 9 19) = .inl (I .int, 2000, .inl f408465) := e408463
                          have hs408468 : rStr γ [1] F381025 F408462 := rStr_put hs408341 n408464 ht408381 (by decide)
                          have kp408469 : F408462 q381026 = F381025 q381026 := (n408464 q381026 (rn_ty htq381026 ht408381 (by decide))).trans x408343
                          have bf408465 : gF f408465 (-1) 1999 := gF_upd hf408465 bf408396 (gB_w bg408454 (by decide) (by decide))
                          refine G_aload_n 4 dr_cX17_share_127 rfl ?_
                          refine Gp_get 3 hm408347 he408466 dr_cX17_share_128 (gk_X17 D I) (Nat.le_of_ble_eq_true rfl) wr_7_77 rfl ?_
                          refine G_iload_n 2 dr_cX17_share_131 rfl ?_
                          have hT408470 : RS D I P381024 F408462 γ el := RS_set hT408340 n408464 ht408381 (by decide) ⟨f408465, he408467, bf408465⟩
                          have hm408471 : (γ 9 3) ∈ P381024 := RS_m hT408470 ht408371 (by decide)
                          obtain ⟨f408473, he408472, bf408473⟩ := show rk_14 I (F408462 (γ 9 3)) from RS_o hT408470 ht408371
                          refine Gp_zald 3 hm408471 he408472 dr_cX17_share_132 rfl (gB_in bg406533' (by decide) (by decide)) (G_nam fun z408474 hz408474 => ?_)
                          have bz408474 : gB z408474 0 1 := by rw [hz408474]; exact bf408473 _
                          refine G_if_eq 145 dr_cX17_share_133 (by decide +kernel) (fun hc408475 => ?_) (fun hc408475 => ?_)
                          · have r408476 : z408474.toInt = 0 := gj_eq hc408475 (show Int32.toInt 0 = 0 by decide)
                            have bz408474' : gB z408474 0 0 := ⟨by omega, by omega⟩
                            obtain ⟨z408477, hz408477⟩ : ∃ z : Int32, z = g406533 + Int32.ofInt 1 := ⟨_, rfl⟩
                            have ez408477 : z408477.toInt = g406533.toInt + 1 := gI_inc hz408477 (by decide) bg406533' (by decide) (by decide)
                            have bz408477 : gB z408477 1 100 := ⟨by omega, by omega⟩
                            refine G_iinc (L' := [(3, .int z408477), (5, .int g408338), (4, .int g408454), (2, .int g406534), (0, .ref q381026), (1, .ref q381027)]) z408477 2 dr_cX17_share_145 rfl hz408477.symm (Nat.le_of_ble_eq_true rfl) rfl ?_
                            refine G_goto 10 dr_cX17_share_148 (by decide +kernel) ?_
                            refine G_lv (L' := [(3, .int z408477), (2, .int g406534), (0, .ref q381026), (1, .ref q381027)]) [0, 3, 4, 5] rfl ?_
                            exact ih10_406539 F408462 z408477 g406534 (gB_w bz408477 (by decide) (by decide)) bg406534 hT408470 hs408468 (by rw [ez408477]; rw [cB_of he408467]; exact sl_u hf408465 (by omega) (by omega) (by omega) cq408459) kp408469 (by omega)
                          · have r408478 : z408474.toInt ≠ 0 := gj_neq hc408475 (show Int32.toInt 0 = 0 by decide)
                            have bz408474' : gB z408474 1 1 := ⟨by omega, by omega⟩
                            refine G_iload_n 3 dr_cX17_share_136 rfl ?_
                            refine G_iload 1 dr_cX17_share_137 rfl ?_
                            refine G_iconst 1 dr_cX17_share_139 (by decide +kernel) ?_
                            refine G_iadd dr_cX17_share_140 (G_nam fun z408479 hz408479 => ?_)
                            have ez408479 : z408479.toInt = g408454.toInt + 1 := by rw [gI_add hz408479 bg408454 (gBl (show Int32.toInt 1 = 1 by decide)) (by decide) (by decide), show Int32.toInt 1 = 1 from by decide]
                            have bz408479 : gB z408479 1 100 := gB_add (gI_add hz408479 bg408454 (gBl (show Int32.toInt 1 = 1 by decide)) (by decide) (by decide)) bg408454 (gBl (show Int32.toInt 1 = 1 by decide)) (by decide) (by decide)
                            refine G_mmax dr_cX17_share_141 wr_11_21 wr_1_140 wr_1_6 wr_1_141 (Nat.le_of_ble_eq_true rfl) (Nat.le_of_ble_eq_true rfl) (show 0 ≤ 0 by first | omega | decide) (show 0 ≤ 0 by first | omega | decide) (G_nam fun z408480 hz408480 => ?_)
                            have ez408480 : g406534.toInt ≤ z408480.toInt ∧ z408479.toInt ≤ z408480.toInt ∧ (z408480.toInt = g406534.toInt ∨ z408480.toInt = z408479.toInt) := by have := gI_max hz408480; omega
                            have bz408480 : gB z408480 1 1999 := ⟨by omega, by omega⟩
                            refine G_istore_n (L' := [(2, .int z408480), (5, .int g408338), (4, .int g408454), (3, .int g406533), (0, .ref q381026), (1, .ref q381027)]) dr_cX17_share_144 (Nat.le_of_ble_eq_true rfl) rfl ?_
                            obtain ⟨z408481, hz408481⟩ : ∃ z : Int32, z = g406533 + Int32.ofInt 1 := ⟨_, rfl⟩
                            have ez408481 : z408481.toInt = g406533.toInt + 1 := gI_inc hz408481 (by decide) bg406533' (by decide) (by decide)
                            have bz408481 : gB z408481 1 100 := ⟨by omega, by omega⟩
                            refine G_iinc (L' := [(3, .int z408481), (2, .int z408480), (5, .int g408338), (4, .int g408454), (0, .ref q381026), (1, .ref q381027)]) z408481 3 dr_cX17_share_145 rfl hz408481.symm (Nat.le_of_ble_eq_true rfl) rfl ?_
                            refine G_goto 10 dr_cX17_share_148 (by decide +kernel) ?_
                            refine G_lv (L' := [(3, .int z408481), (2, .int z408480), (0, .ref q381026), (1, .ref q381027)]) [0, 1, 4, 5] rfl ?_
                            exact ih10_406539 F408462 z408481 z408480 (gB_w bz408481 (by decide) (by decide)) (gB_w bz408480 (by decide) (by decide)) hT408470 hs408468 (by rw [ez408481]; rw [cB_of he408467]; exact sl_u hf408465 (by omega) (by omega) (by omega) cq408459) kp408469 (by omega)
                        · have r408482 : g408454.toInt < g406533.toInt := gC_nle hc408460
                          have bg408454' : gB g408454 0 98 := ⟨by omega, by omega⟩
                          have bg406533'' : gB g406533 1 99 := ⟨by omega, by omega⟩
                          refine G_aload_n 4 dr_cX17_share_102 rfl ?_
                          refine Gp_get 16 hm408347 he408348 dr_cX17_share_103 (gk_X17 D I) (Nat.le_of_ble_eq_true rfl) wr_7_90 rfl ?_
                          refine G_iload 1 dr_cX17_share_106 rfl ?_
                          have hm408483 : (γ 9 16) ∈ P381024 := RS_m hT408340 ht408378 (by decide)
                          obtain ⟨f408485, he408484⟩ := show rk_19 I (F408339 (γ 9 16)) from RS_o hT408340 ht408378
                          refine Gp_iald 0 hm408483 he408484 dr_cX17_share_108 rfl (gB_in bg408454' (by decide) (by decide)) (G_nam fun z408486 hz408486 => ?_)
                          have bz408486 : gB z408486 (-2147483648) 2147483647 := gB_any z408486
                          refine G_iconst 1 dr_cX17_share_109 (by decide +kernel) ?_
                          refine G_icmp_ne 119 dr_cX17_share_110 (by decide +kernel) (fun hc408487 => ?_) (fun hc408487 => ?_)
                          · have r408488 : z408486.toInt ≠ 1 := gj_neq hc408487 (show Int32.toInt 1 = 1 by decide)
                            refine G_aload_n 4 dr_cX17_share_119 rfl ?_
                            refine Gp_get 19 hm408347 he408348 dr_cX17_share_120 (gk_X17 D I) (Nat.le_of_ble_eq_true rfl) wr_7_93 rfl ?_
                            refine G_iload_n 2 dr_cX17_share_123 rfl ?_
                            refine G_iload 1 dr_cX17_share_124 rfl ?_
                            refine Gp_iast 0 hm408394 he408395 dr_cX17_share_126 rfl (gB_in bg406533'' (by decide) (by decide)) (fun F408489 e408490 n408491 => ?_)
                            obtain ⟨f408492, hf408492⟩ : ∃ z, z = upd f408396 g406533.toNatClampNeg g408454 := ⟨_, rfl⟩
                            rw [← hf408492] at e408490
                            have he408493 : F408489 q381026 = .inr (22, [.ref (γ 9 0), .ref (γ 9 1), .ref (γ 9 2), .ref (γ 9 3), .ref (γ 9 4), .ref (γ 9 5), .ref (γ 9 6), .ref (γ 9 7), .ref (γ 9 8), .int p408351, .int p408352, .int p408353, .int p408354, .int p408355, .int p408356, .ref (γ 9 15), .ref (γ 9 16), .ref (γ 9 17), .ref (γ 9 18), .ref (γ 9 19), .ref (γ 9 20), .ref (γ 9 21), .ref (γ 9 22), .int p408357, .int p408358, .int p408359, .int p408360, .int p408361, .ref q408349, .ref (γ 9 29), .int p408362, .ref (γ 9 31), .int p408363, .int p408364, .int p408365, .ref q408350]) := (n408491 q381026 (rn_oa he408348 he408395)).trans he408348
                            have he408494 : F408489 (γ 9 16) = .inl (I .int, 2000, .inl f408485) := (n408491 (γ 9 16) (rn_ty ht408378 ht408381 (by decide))).trans he408484
                            have he408495 : F408489 (γ 9 19) = .inl (I .int, 2000, .inl f408492) := e408490
                            have hs408496 : rStr γ [1] F381025 F408489 := rStr_put hs408341 n408491 ht408381 (by decide)
                            have kp408497 : F408489 q381026 = F381025 q381026 := (n408491 q381026 (rn_ty htq381026 ht408381 (by decide))).trans x408343
                            have bf408492 : gF f408492 (-1) 1999 := gF_upd hf408492 bf408396 (gB_w bg408454' (by decide) (by decide))
                            refine G_aload_n 4 dr_cX17_share_127 rfl ?_
                            refine Gp_get 3 hm408347 he408493 dr_cX17_share_128 (gk_X17 D I) (Nat.le_of_ble_eq_true rfl) wr_7_77 rfl ?_
                            refine G_iload_n 2 dr_cX17_share_131 rfl ?_
                            have hT408498 : RS D I P381024 F408489 γ el := RS_set hT408340 n408491 ht408381 (by decide) ⟨f408492, he408495, bf408492⟩
                            have hm408499 : (γ 9 3) ∈ P381024 := RS_m hT408498 ht408371 (by decide)
                            obtain ⟨f408501, he408500, bf408501⟩ := show rk_14 I (F408489 (γ 9 3)) from RS_o hT408498 ht408371
                            refine Gp_zald 3 hm408499 he408500 dr_cX17_share_132 rfl (gB_in bg406533'' (by decide) (by decide)) (G_nam fun z408502 hz408502 => ?_)
                            have bz408502 : gB z408502 0 1 := by rw [hz408502]; exact bf408501 _
                            refine G_if_eq 145 dr_cX17_share_133 (by decide +kernel) (fun hc408503 => ?_) (fun hc408503 => ?_)
                            · have r408504 : z408502.toInt = 0 := gj_eq hc408503 (show Int32.toInt 0 = 0 by decide)
                              have bz408502' : gB z408502 0 0 := ⟨by omega, by omega⟩
                              obtain ⟨z408505, hz408505⟩ : ∃ z : Int32, z = g406533 + Int32.ofInt 1 := ⟨_, rfl⟩
                              have ez408505 : z408505.toInt = g406533.toInt + 1 := gI_inc hz408505 (by decide) bg406533'' (by decide) (by decide)
                              have bz408505 : gB z408505 2 100 := ⟨by omega, by omega⟩
                              refine G_iinc (L' := [(3, .int z408505), (5, .int g408338), (4, .int g408454), (2, .int g406534), (0, .ref q381026), (1, .ref q381027)]) z408505 2 dr_cX17_share_145 rfl hz408505.symm (Nat.le_of_ble_eq_true rfl) rfl ?_
                              refine G_goto 10 dr_cX17_share_148 (by decide +kernel) ?_
                              refine G_lv (L' := [(3, .int z408505), (2, .int g406534), (0, .ref q381026), (1, .ref q381027)]) [0, 3, 4, 5] rfl ?_
                              exact ih10_406539 F408489 z408505 g406534 (gB_w bz408505 (by decide) (by decide)) bg406534 hT408498 hs408496 (by rw [ez408505]; rw [cB_of he408495]; exact sl_u hf408492 (by omega) (by omega) (by omega) cq408459) kp408497 (by omega)
                            · have r408506 : z408502.toInt ≠ 0 := gj_neq hc408503 (show Int32.toInt 0 = 0 by decide)
                              have bz408502' : gB z408502 1 1 := ⟨by omega, by omega⟩
                              refine G_iload_n 3 dr_cX17_share_136 rfl ?_
                              refine G_iload 1 dr_cX17_share_137 rfl ?_
                              refine G_iconst 1 dr_cX17_share_139 (by decide +kernel) ?_
                              refine G_iadd dr_cX17_share_140 (G_nam fun z408507 hz408507 => ?_)
                              have ez408507 : z408507.toInt = g408454.toInt + 1 := by rw [gI_add hz408507 bg408454' (gBl (show Int32.toInt 1 = 1 by decide)) (by decide) (by decide), show Int32.toInt 1 = 1 from by decide]
                              have bz408507 : gB z408507 1 99 := gB_add (gI_add hz408507 bg408454' (gBl (show Int32.toInt 1 = 1 by decide)) (by decide) (by decide)) bg408454' (gBl (show Int32.toInt 1 = 1 by decide)) (by decide) (by decide)
                              refine G_mmax dr_cX17_share_141 wr_11_21 wr_1_140 wr_1_6 wr_1_141 (Nat.le_of_ble_eq_true rfl) (Nat.le_of_ble_eq_true rfl) (show 0 ≤ 0 by first | omega | decide) (show 0 ≤ 0 by first | omega | decide) (G_nam fun z408508 hz408508 => ?_)
                              have ez408508 : g406534.toInt ≤ z408508.toInt ∧ z408507.toInt ≤ z408508.toInt ∧ (z408508.toInt = g406534.toInt ∨ z408508.toInt = z408507.toInt) := by have := gI_max hz408508; omega
                              have bz408508 : gB z408508 1 1999 := ⟨by omega, by omega⟩
                              refine G_istore_n (L' := [(2, .int z408508), (5, .int g408338), (4, .int g408454), (3, .int g406533), (0, .ref q381026), (1, .ref q381027)]) dr_cX17_share_144 (Nat.le_of_ble_eq_true rfl) rfl ?_
                              obtain ⟨z408509, hz408509⟩ : ∃ z : Int32, z = g406533 + Int32.ofInt 1 := ⟨_, rfl⟩
                              have ez408509 : z408509.toInt = g406533.toInt + 1 := gI_inc hz408509 (by decide) bg406533'' (by decide) (by decide)
                              have bz408509 : gB z408509 2 100 := ⟨by omega, by omega⟩
                              refine G_iinc (L' := [(3, .int z408509), (2, .int z408508), (5, .int g408338), (4, .int g408454), (0, .ref q381026), (1, .ref q381027)]) z408509 3 dr_cX17_share_145 rfl hz408509.symm (Nat.le_of_ble_eq_true rfl) rfl ?_
                              refine G_goto 10 dr_cX17_share_148 (by decide +kernel) ?_
                              refine G_lv (L' := [(3, .int z408509), (2, .int z408508), (0, .ref q381026), (1, .ref q381027)]) [0, 1, 4, 5] rfl ?_
                              exact ih10_406539 F408489 z408509 z408508 (gB_w bz408509 (by decide) (by decide)) (gB_w bz408508 (by decide) (by decide)) hT408498 hs408496 (by rw [ez408509]; rw [cB_of he408495]; exact sl_u hf408492 (by omega) (by omega) (by omega) cq408459) kp408497 (by omega)
                          · have r408510 : z408486.toInt = 1 := gj_eq hc408487 (show Int32.toInt 1 = 1 by decide)
                            have bz408486' : gB z408486 1 1 := ⟨by omega, by omega⟩
                            obtain ⟨z408511, hz408511⟩ : ∃ z : Int32, z = g408454 + Int32.ofInt 1 := ⟨_, rfl⟩
                            have ez408511 : z408511.toInt = g408454.toInt + 1 := gI_inc hz408511 (by decide) bg408454' (by decide) (by decide)
                            have bz408511 : gB z408511 1 99 := ⟨by omega, by omega⟩
                            refine G_iinc (L' := [(4, .int z408511), (5, .int g408338), (3, .int g406533), (2, .int g406534), (0, .ref q381026), (1, .ref q381027)]) z408511 1 dr_cX17_share_113 rfl hz408511.symm (Nat.le_of_ble_eq_true rfl) rfl ?_
                            refine G_goto 96 dr_cX17_share_116 (by decide +kernel) ?_
                            refine G_lv (L' := [(5, .int g408338), (4, .int z408511), (3, .int g406533), (2, .int g406534), (0, .ref q381026), (1, .ref q381027)]) [1, 0, 2, 3, 4, 5] rfl ?_
                            exact ih96_408456 z408511 (gB_w bz408511 (by decide) (by decide)) (by rw [cB_of he408395]; exact cq408459) (by omega) (by omega)
                    exact hlp96_408456 (((100 : Int) - 0).toNat + 1) 0 (gB_w (gBl (show Int32.toInt 0 = 0 by decide)) (by decide) (by decide)) (by rw [cB_of he408395]; exact cq408398) (by have qa0 : Int32.toInt 0 = 0 := (by decide); omega) (Nat.lt_succ_self _)
                  · have r408512 : g408338.toInt < g406533.toInt := gC_nle hc408399
                    have bg408338' : gB g408338 0 98 := ⟨by omega, by omega⟩
                    have bg406533'' : gB g406533 1 99 := ⟨by omega, by omega⟩
                    refine G_aload_n 4 dr_cX17_share_53 rfl ?_
                    refine Gp_get 3 hm408347 he408348 dr_cX17_share_54 (gk_X17 D I) (Nat.le_of_ble_eq_true rfl) wr_7_77 rfl ?_
                    refine G_iload 0 dr_cX17_share_57 rfl ?_
                    have hm408513 : (γ 9 3) ∈ P381024 := RS_m hT408340 ht408371 (by decide)
                    obtain ⟨f408515, he408514, bf408515⟩ := show rk_14 I (F408339 (γ 9 3)) from RS_o hT408340 ht408371
                    refine Gp_zald 3 hm408513 he408514 dr_cX17_share_59 rfl (gB_in bg408338' (by decide) (by decide)) (G_nam fun z408516 hz408516 => ?_)
                    have bz408516 : gB z408516 0 1 := by rw [hz408516]; exact bf408515 _
                    refine G_if_eq 90 dr_cX17_share_60 (by decide +kernel) (fun hc408517 => ?_) (fun hc408517 => ?_)
                    · have r408518 : z408516.toInt = 0 := gj_eq hc408517 (show Int32.toInt 0 = 0 by decide)
                      have bz408516' : gB z408516 0 0 := ⟨by omega, by omega⟩
                      obtain ⟨z408519, hz408519⟩ : ∃ z : Int32, z = g408338 + Int32.ofInt 1 := ⟨_, rfl⟩
                      have ez408519 : z408519.toInt = g408338.toInt + 1 := gI_inc hz408519 (by decide) bg408338' (by decide) (by decide)
                      have bz408519 : gB z408519 1 99 := ⟨by omega, by omega⟩
                      refine G_iinc (L' := [(5, .int z408519), (4, .int 0), (3, .int g406533), (2, .int g406534), (0, .ref q381026), (1, .ref q381027)]) z408519 0 dr_cX17_share_90 rfl hz408519.symm (Nat.le_of_ble_eq_true rfl) rfl ?_
                      refine G_goto 47 dr_cX17_share_93 (by decide +kernel) ?_
                      exact ih47_408343 F408339 z408519 (gB_w bz408519 (by decide) (by decide)) hT408340 hs408341 (by rw [cB_of he408395]; exact cq408398) x408343 (by have qa0 : Int32.toInt 0 = 0 := (by decide); omega)
                    · have r408520 : z408516.toInt ≠ 0 := gj_neq hc408517 (show Int32.toInt 0 = 0 by decide)
                      have bz408516' : gB z408516 1 1 := ⟨by omega, by omega⟩
                      refine G_aload_n 4 dr_cX17_share_63 rfl ?_
                      refine Gp_get 1 hm408347 he408348 dr_cX17_share_64 (gk_X17 D I) (Nat.le_of_ble_eq_true rfl) wr_7_75 rfl ?_
                      refine G_iload_n 2 dr_cX17_share_67 rfl ?_
                      have hm408521 : (γ 9 1) ∈ P381024 := RS_m hT408340 ht408369 (by decide)
                      obtain ⟨f408523, he408522, hg408524⟩ := show rk_13 I γ (F408339 (γ 9 1)) from RS_o hT408340 ht408369
                      obtain ⟨q408525, hx408527⟩ : ∃ x, x = γ 11 g406533.toInt.toNat := ⟨_, rfl⟩
                      have ht408526 : rKd γ q408525 36 := by rw [hx408527]; exact (hg408524 _ (show g406533.toInt.toNat < 2000 by omega)).2.1
                      refine Gp_aald 5 hm408521 he408522 dr_cX17_share_68 rfl rfl (gB_in bg406533'' (by decide) (by decide)) ?_
                      rw [show f408523 g406533.toNatClampNeg = some q408525 from (hg408524 _ (show g406533.toInt.toNat < 2000 by omega)).1.trans (by rw [hx408527])]
                      change G _ _ _ _ _ _ _ (.ref q408525 :: _) _ _ _
                      refine G_iload 0 dr_cX17_share_69 rfl ?_
                      have hm408528 : q408525 ∈ P381024 := RS_m hT408340 ht408526 (by decide)
                      obtain ⟨f408530, he408529, wf408530⟩ := show rk_36 I (F408339 q408525) from RS_o hT408340 ht408526
                      refine Gw_callS (As := [.ref q408525, .int g408338]) (gV_ok D I) (cp_1838_SpillForgeModel_has l hl0 D I P381024 F408339 q408525 g408338 f408530 hm408528 he408529 (gB_w bg408338' (by decide) (by decide))) dr_cX17_share_71 ⟨wr_10_203, wr_1_14, wr_10_205, by decide, rfl, (Nat.le_of_ble_eq_true rfl), (Nat.le_of_ble_eq_true rfl)⟩ wr_10_204 (show 0 + 0 ≤ 0 by first | omega | decide) (show 0 + 0 ≤ 0 by first | omega | decide) (Nat.le_of_ble_eq_true rfl) (fun r408534 w408535 dc408531 ds408532 hp408533 => ?_) (fun _ _ _ _ _ z => z.elim)
                      rcases hp408533 with ⟨z408536, z408537, rfl, rfl, hdc, hds, r408538, r408539, r408540, r408541⟩ | ⟨z408542, z408543, rfl, rfl, hdc, hds, r408544, r408545, r408546, r408547⟩
                      · change G _ _ _ _ _ _ _ (.int 0 :: _) _ _ _
                        refine G_widen (cs' := 0) (sl' := 0) (by omega) (by omega) ?_
                        refine G_if_eq 90 dr_cX17_share_74 (by decide +kernel) (fun _ => ?_) (fun hc => absurd hc (by decide))
                        obtain ⟨z408549, hz408549⟩ : ∃ z : Int32, z = g408338 + Int32.ofInt 1 := ⟨_, rfl⟩
                        have ez408549 : z408549.toInt = g408338.toInt + 1 := gI_inc hz408549 (by decide) bg408338' (by decide) (by decide)
                        have bz408549 : gB z408549 1 99 := ⟨by omega, by omega⟩
                        refine G_iinc (L' := [(5, .int z408549), (4, .int 0), (3, .int g406533), (2, .int g406534), (0, .ref q381026), (1, .ref q381027)]) z408549 0 dr_cX17_share_90 rfl hz408549.symm (Nat.le_of_ble_eq_true rfl) rfl ?_
                        refine G_goto 47 dr_cX17_share_93 (by decide +kernel) ?_
                        exact ih47_408343 F408339 z408549 (gB_w bz408549 (by decide) (by decide)) hT408340 hs408341 (by rw [cB_of he408395]; exact cq408398) x408343 (by have qa0 : Int32.toInt 0 = 0 := (by decide); omega)
                      · change G _ _ _ _ _ _ _ (.int 1 :: _) _ _ _
                        refine G_widen (cs' := 0) (sl' := 0) (by omega) (by omega) ?_
                        refine G_if_eq 90 dr_cX17_share_74 (by decide +kernel) (fun hc => absurd hc (by decide)) (fun _ => ?_)
                        refine G_aload_n 4 dr_cX17_share_77 rfl ?_
                        refine Gp_get 16 hm408347 he408348 dr_cX17_share_78 (gk_X17 D I) (Nat.le_of_ble_eq_true rfl) wr_7_90 rfl ?_
                        refine G_aload_n 4 dr_cX17_share_81 rfl ?_
                        refine Gp_get 19 hm408347 he408348 dr_cX17_share_82 (gk_X17 D I) (Nat.le_of_ble_eq_true rfl) wr_7_93 rfl ?_
                        refine G_iload 0 dr_cX17_share_85 rfl ?_
                        refine Gp_iald 0 hm408394 he408395 dr_cX17_share_87 rfl (gB_in bg408338' (by decide) (by decide)) (G_nam fun z408550 hz408550 => ?_)
                        have bz408550 : gB z408550 (-1) 1999 := by rw [hz408550]; exact bf408396 _
                        have r408551 : 0 ≤ z408550.toInt := by rw [hz408550]; exact (cq408398 g408338.toInt.toNat (by omega)).1
                        have bz408550' : gB z408550 0 1999 := ⟨by omega, by omega⟩
                        refine G_iconst 1 dr_cX17_share_88 (by decide +kernel) ?_
                        have hm408552 : (γ 9 16) ∈ P381024 := RS_m hT408340 ht408378 (by decide)
                        obtain ⟨f408554, he408553⟩ := show rk_19 I (F408339 (γ 9 16)) from RS_o hT408340 ht408378
                        refine Gp_iast 0 hm408552 he408553 dr_cX17_share_89 rfl (gB_in bz408550' (by decide) (by decide)) (fun F408555 e408556 n408557 => ?_)
                        obtain ⟨f408558, hf408558⟩ : ∃ z, z = upd f408554 z408550.toNatClampNeg 1 := ⟨_, rfl⟩
                        rw [← hf408558] at e408556
                        have he408559 : F408555 q381026 = .inr (22, [.ref (γ 9 0), .ref (γ 9 1), .ref (γ 9 2), .ref (γ 9 3), .ref (γ 9 4), .ref (γ 9 5), .ref (γ 9 6), .ref (γ 9 7), .ref (γ 9 8), .int p408351, .int p408352, .int p408353, .int p408354, .int p408355, .int p408356, .ref (γ 9 15), .ref (γ 9 16), .ref (γ 9 17), .ref (γ 9 18), .ref (γ 9 19), .ref (γ 9 20), .ref (γ 9 21), .ref (γ 9 22), .int p408357, .int p408358, .int p408359, .int p408360, .int p408361, .ref q408349, .ref (γ 9 29), .int p408362, .ref (γ 9 31), .int p408363, .int p408364, .int p408365, .ref q408350]) := (n408557 q381026 (rn_oa he408348 he408553)).trans he408348
                        have he408560 : F408555 (γ 9 19) = .inl (I .int, 2000, .inl f408396) := (n408557 (γ 9 19) (rn_ty ht408381 ht408378 (by decide))).trans he408395
                        have he408561 : F408555 (γ 9 3) = .inl (I .boolean, 2000, .inl f408515) := (n408557 (γ 9 3) (rn_ty ht408371 ht408378 (by decide))).trans he408514
                        have he408562 : F408555 (γ 9 1) = .inl (I (.array .long), 2000, .inr (.inr (.inr (.inr f408523)))) := (n408557 (γ 9 1) (rn_ref_num he408522 he408553)).trans he408522
                        have he408563 : F408555 q408525 = .inl (I .long, 32, .inr (.inl f408530)) := (n408557 q408525 (rn_long_num he408529 he408553)).trans he408529
                        have he408564 : F408555 (γ 9 16) = .inl (I .int, 2000, .inl f408558) := e408556
                        have hs408565 : rStr γ [1] F381025 F408555 := rStr_put hs408341 n408557 ht408378 (by decide)
                        have kp408566 : F408555 q381026 = F381025 q381026 := (n408557 q381026 (rn_ty htq381026 ht408378 (by decide))).trans x408343
                        obtain ⟨z408567, hz408567⟩ : ∃ z : Int32, z = g408338 + Int32.ofInt 1 := ⟨_, rfl⟩
                        have ez408567 : z408567.toInt = g408338.toInt + 1 := gI_inc hz408567 (by decide) bg408338' (by decide) (by decide)
                        have bz408567 : gB z408567 1 99 := ⟨by omega, by omega⟩
                        refine G_iinc (L' := [(5, .int z408567), (4, .int 0), (3, .int g406533), (2, .int g406534), (0, .ref q381026), (1, .ref q381027)]) z408567 0 dr_cX17_share_90 rfl hz408567.symm (Nat.le_of_ble_eq_true rfl) rfl ?_
                        refine G_goto 47 dr_cX17_share_93 (by decide +kernel) ?_
                        have hT408568 : RS D I P381024 F408555 γ el := RS_set hT408340 n408557 ht408378 (by decide) ⟨f408558, he408564⟩
                        exact ih47_408343 F408555 z408567 (gB_w bz408567 (by decide) (by decide)) hT408568 hs408565 (by rw [cB_of he408560]; exact cq408398) kp408566 (by have qa0 : Int32.toInt 0 = 0 := (by decide); omega)
              exact hlp47_408343 (((100 : Int) - 0).toNat + 1) F408052 0 (gB_w (gBl (show Int32.toInt 0 = 0 by decide)) (by decide) (by decide)) hT408053 hs408054 (by rw [cB_of he408108]; exact cq408111) x408056 (Nat.lt_succ_self _)
            · have r408569 : g408051.toInt < g406533.toInt := gC_nle hc408112
              have bg408051' : gB g408051 0 98 := ⟨by omega, by omega⟩
              have bg406533'' : gB g406533 1 99 := ⟨by omega, by omega⟩
              refine G_aload_n 4 dr_cX17_share_30 rfl ?_
              refine Gp_get 16 hm408060 he408061 dr_cX17_share_31 (gk_X17 D I) (Nat.le_of_ble_eq_true rfl) wr_7_90 rfl ?_
              refine G_iload 0 dr_cX17_share_34 rfl ?_
              refine G_iconst 0 dr_cX17_share_36 (by decide +kernel) ?_
              have hm408570 : (γ 9 16) ∈ P381024 := RS_m hT408053 ht408091 (by decide)
              obtain ⟨f408572, he408571⟩ := show rk_19 I (F408052 (γ 9 16)) from RS_o hT408053 ht408091
              refine Gp_iast 0 hm408570 he408571 dr_cX17_share_37 rfl (gB_in bg408051' (by decide) (by decide)) (fun F408573 e408574 n408575 => ?_)
              obtain ⟨f408576, hf408576⟩ : ∃ z, z = upd f408572 g408051.toNatClampNeg 0 := ⟨_, rfl⟩
              rw [← hf408576] at e408574
              have he408577 : F408573 q381026 = .inr (22, [.ref (γ 9 0), .ref (γ 9 1), .ref (γ 9 2), .ref (γ 9 3), .ref (γ 9 4), .ref (γ 9 5), .ref (γ 9 6), .ref (γ 9 7), .ref (γ 9 8), .int p408064, .int p408065, .int p408066, .int p408067, .int p408068, .int p408069, .ref (γ 9 15), .ref (γ 9 16), .ref (γ 9 17), .ref (γ 9 18), .ref (γ 9 19), .ref (γ 9 20), .ref (γ 9 21), .ref (γ 9 22), .int p408070, .int p408071, .int p408072, .int p408073, .int p408074, .ref q408062, .ref (γ 9 29), .int p408075, .ref (γ 9 31), .int p408076, .int p408077, .int p408078, .ref q408063]) := (n408575 q381026 (rn_oa he408061 he408571)).trans he408061
              have he408578 : F408573 (γ 9 19) = .inl (I .int, 2000, .inl f408109) := (n408575 (γ 9 19) (rn_ty ht408094 ht408091 (by decide))).trans he408108
              have he408579 : F408573 (γ 9 16) = .inl (I .int, 2000, .inl f408576) := e408574
              have hs408580 : rStr γ [1] F381025 F408573 := rStr_put hs408054 n408575 ht408091 (by decide)
              have kp408581 : F408573 q381026 = F381025 q381026 := (n408575 q381026 (rn_ty htq381026 ht408091 (by decide))).trans x408056
              obtain ⟨z408582, hz408582⟩ : ∃ z : Int32, z = g408051 + Int32.ofInt 1 := ⟨_, rfl⟩
              have ez408582 : z408582.toInt = g408051.toInt + 1 := gI_inc hz408582 (by decide) bg408051' (by decide) (by decide)
              have bz408582 : gB z408582 1 99 := ⟨by omega, by omega⟩
              refine G_iinc (L' := [(5, .int z408582), (4, .int 0), (3, .int g406533), (2, .int g406534), (0, .ref q381026), (1, .ref q381027)]) z408582 0 dr_cX17_share_38 rfl hz408582.symm (Nat.le_of_ble_eq_true rfl) rfl ?_
              refine G_goto 24 dr_cX17_share_41 (by decide +kernel) ?_
              have hT408583 : RS D I P381024 F408573 γ el := RS_set hT408053 n408575 ht408091 (by decide) ⟨f408576, he408579⟩
              exact ih24_408056 F408573 z408582 (gB_w bz408582 (by decide) (by decide)) hT408583 hs408580 (by rw [cB_of he408578]; exact cq408111) kp408581 (by have qa0 : Int32.toInt 0 = 0 := (by decide); omega)
        exact hlp24_408056 (((2000 : Int) - 0).toNat + 1) F406535 0 (gB_w (gBl (show Int32.toInt 0 = 0 by decide)) (by decide) (by decide)) hT406536 hs406537 (by rw [cB_of he406591]; exact cq406594) x406539 (Nat.lt_succ_self _)
  exact hlp10_406539 (((101 : Int) - 0).toNat + 1) F381089 0 0 (gB_w (gBl (show Int32.toInt 0 = 0 by decide)) (by decide) (by decide)) (gB_w (gBl (show Int32.toInt 0 = 0 by decide)) (by decide) (by decide)) hT381090 hs381092 (fun q hq => absurd hq (by have qa : Int32.toInt 0 = 0 := (by decide); omega)) kp381093 (Nat.lt_succ_self _)
