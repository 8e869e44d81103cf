theorem dr_cX17_coloured_0 : decode cX17_coloured 0 = .ok (.aload_n 1, 1) := by decide +kernel
theorem dr_cX17_coloured_1 : decode cX17_coloured 1 = .ok (.invokevirtual 70, 3) := by decide +kernel
theorem dr_cX17_coloured_4 : decode cX17_coloured 4 = .ok (.ifCond .eq 16, 3) := by decide +kernel
theorem dr_cX17_coloured_20 : decode cX17_coloured 20 = .ok (.aload_n 1, 1) := by decide +kernel
theorem dr_cX17_coloured_21 : decode cX17_coloured 21 = .ok (.invokevirtual 76, 3) := by decide +kernel
theorem dr_cX17_coloured_24 : decode cX17_coloured 24 = .ok (.ifCond .eq 16, 3) := by decide +kernel
theorem dr_cX17_coloured_40 : decode cX17_coloured 40 = .ok (.aload_n 1, 1) := by decide +kernel
theorem dr_cX17_coloured_41 : decode cX17_coloured 41 = .ok (.invokevirtual 48, 3) := by decide +kernel
theorem dr_cX17_coloured_44 : decode cX17_coloured 44 = .ok (.ifCond .eq 16, 3) := by decide +kernel
theorem dr_cX17_coloured_60 : decode cX17_coloured 60 = .ok (.return_, 1) := by decide +kernel
theorem dr_cX17_coloured_47 : decode cX17_coloured 47 = .ok (.aload_n 1, 1) := by decide +kernel
theorem dr_cX17_coloured_48 : decode cX17_coloured 48 = .ok (.aload_n 0, 1) := by decide +kernel
theorem dr_cX17_coloured_49 : decode cX17_coloured 49 = .ok (.getfield 212, 3) := by decide +kernel
theorem dr_cX17_coloured_52 : decode cX17_coloured 52 = .ok (.aload_n 1, 1) := by decide +kernel
theorem dr_cX17_coloured_53 : decode cX17_coloured 53 = .ok (.getfield 52, 3) := by decide +kernel
theorem dr_cX17_coloured_56 : decode cX17_coloured 56 = .ok (.iaload, 1) := by decide +kernel
theorem dr_cX17_coloured_57 : decode cX17_coloured 57 = .ok (.putfield 52, 3) := by decide +kernel
theorem dr_cX17_coloured_27 : decode cX17_coloured 27 = .ok (.aload_n 1, 1) := by decide +kernel
theorem dr_cX17_coloured_28 : decode cX17_coloured 28 = .ok (.aload_n 0, 1) := by decide +kernel
theorem dr_cX17_coloured_29 : decode cX17_coloured 29 = .ok (.getfield 212, 3) := by decide +kernel
theorem dr_cX17_coloured_32 : decode cX17_coloured 32 = .ok (.aload_n 1, 1) := by decide +kernel
theorem dr_cX17_coloured_33 : decode cX17_coloured 33 = .ok (.getfield 79, 3) := by decide +kernel
theorem dr_cX17_coloured_36 : decode cX17_coloured 36 = .ok (.iaload, 1) := by decide +kernel
theorem dr_cX17_coloured_37 : decode cX17_coloured 37 = .ok (.putfield 79, 3) := by decide +kernel
theorem dr_cX17_coloured_7 : decode cX17_coloured 7 = .ok (.aload_n 1, 1) := by decide +kernel
theorem dr_cX17_coloured_8 : decode cX17_coloured 8 = .ok (.aload_n 0, 1) := by decide +kernel
theorem dr_cX17_coloured_9 : decode cX17_coloured 9 = .ok (.getfield 212, 3) := by decide +kernel
theorem dr_cX17_coloured_12 : decode cX17_coloured 12 = .ok (.aload_n 1, 1) := by decide +kernel
theorem dr_cX17_coloured_13 : decode cX17_coloured 13 = .ok (.getfield 73, 3) := by decide +kernel
theorem dr_cX17_coloured_16 : decode cX17_coloured 16 = .ok (.iaload, 1) := by decide +kernel
theorem dr_cX17_coloured_17 : decode cX17_coloured 17 = .ok (.putfield 73, 3) := by decide +kernel
theorem dr_cX17_share_0 : decode cX17_share 0 = .ok (.aload_n 0, 1) := by decide +kernel
theorem dr_cX17_share_1 : decode cX17_share 1 = .ok (.aload_n 1, 1) := by decide +kernel
theorem dr_cX17_share_2 : decode cX17_share 2 = .ok (.iconst 1, 1) := by decide +kernel
theorem dr_cX17_share_3 : decode cX17_share 3 = .ok (.invokevirtual 243, 3) := by decide +kernel
theorem wr_10_229 : (Jvm.Cond.methodLink "SpillForgeModel" (243 : Nat) ({ cls := "SpillForgeModel", name := "graph", desc := "(LSpillForgeModel$Code;Z)V" } : Jvm.MethodName)) ∈ gw := gw_10 229 rfl rfl
theorem wr_10_232 : (Jvm.Cond.code ({ cls := "SpillForgeModel", name := "graph", desc := "(LSpillForgeModel$Code;Z)V" } : Jvm.MethodName) prog_14_method_10_code (11 : Nat) (Option.none : Option Jvm.ClassFile.FieldType)) ∈ gw := gw_10 232 rfl rfl
theorem wr_10_231 : (Jvm.Cond.instanceMethod ({ cls := "SpillForgeModel", name := "graph", desc := "(LSpillForgeModel$Code;Z)V" } : Jvm.MethodName)) ∈ gw := gw_10 231 rfl rfl
theorem wr_p_99 : Cond.selects "SpillForgeModel" ⟨"SpillForgeModel", "graph", "(LSpillForgeModel$Code;Z)V"⟩ ⟨"SpillForgeModel", "graph", "(LSpillForgeModel$Code;Z)V"⟩ ∈ gw := gw_p _ 99 rfl rfl rfl
theorem dr_cX17_share_6 : decode cX17_share 6 = .ok (.iconst 0, 1) := by decide +kernel
theorem dr_cX17_share_7 : decode cX17_share 7 = .ok (.istore_n 2, 1) := by decide +kernel
theorem dr_cX17_share_8 : decode cX17_share 8 = .ok (.iconst 0, 1) := by decide +kernel
theorem dr_cX17_share_9 : decode cX17_share 9 = .ok (.istore_n 3, 1) := by decide +kernel
theorem dr_cX17_share_10 : decode cX17_share 10 = .ok (.iload_n 3, 1) := by decide +kernel
theorem dr_cX17_share_11 : decode cX17_share 11 = .ok (.aload_n 0, 1) := by decide +kernel
theorem dr_cX17_share_12 : decode cX17_share 12 = .ok (.getfield 224, 3) := by decide +kernel
theorem wr_7_85 : (Jvm.Cond.fieldLink "SpillForgeModel" (224 : Nat) "SpillForgeModel" "slots" "I") ∈ gw := gw_7 85 rfl rfl
theorem dr_cX17_share_15 : decode cX17_share 15 = .ok (.if_icmp .ge 136, 3) := by decide +kernel
theorem dr_cX17_share_151 : decode cX17_share 151 = .ok (.iconst 0, 1) := by decide +kernel
theorem dr_cX17_share_152 : decode cX17_share 152 = .ok (.istore_n 3, 1) := by decide +kernel
theorem dr_cX17_share_153 : decode cX17_share 153 = .ok (.iload_n 3, 1) := by decide +kernel
theorem dr_cX17_share_154 : decode cX17_share 154 = .ok (.aload_n 1, 1) := by decide +kernel
theorem dr_cX17_share_155 : decode cX17_share 155 = .ok (.invokevirtual 96, 3) := by decide +kernel
theorem dr_cX17_share_158 : decode cX17_share 158 = .ok (.if_icmp .ge 88, 3) := by decide +kernel
theorem dr_cX17_share_246 : decode cX17_share 246 = .ok (.aload_n 0, 1) := by decide +kernel
theorem dr_cX17_share_247 : decode cX17_share 247 = .ok (.iload_n 2, 1) := by decide +kernel
theorem dr_cX17_share_248 : decode cX17_share 248 = .ok (.putfield 224, 3) := by decide +kernel
theorem dr_cX17_share_251 : decode cX17_share 251 = .ok (.return_, 1) := by decide +kernel
theorem dr_cX17_share_161 : decode cX17_share 161 = .ok (.aload_n 1, 1) := by decide +kernel
theorem dr_cX17_share_162 : decode cX17_share 162 = .ok (.iload_n 3, 1) := by decide +kernel
theorem dr_cX17_share_163 : decode cX17_share 163 = .ok (.invokevirtual 101, 3) := by decide +kernel
theorem dr_cX17_share_166 : decode cX17_share 166 = .ok (.astore 4, 2) := by decide +kernel
theorem dr_cX17_share_168 : decode cX17_share 168 = .ok (.iconst 0, 1) := by decide +kernel
theorem dr_cX17_share_169 : decode cX17_share 169 = .ok (.istore 5, 2) := by decide +kernel
theorem dr_cX17_share_171 : decode cX17_share 171 = .ok (.iload 5, 2) := by decide +kernel
theorem dr_cX17_share_173 : decode cX17_share 173 = .ok (.aload 4, 2) := by decide +kernel
theorem dr_cX17_share_175 : decode cX17_share 175 = .ok (.getfield 117, 3) := by decide +kernel
theorem dr_cX17_share_178 : decode cX17_share 178 = .ok (.invokevirtual 121, 3) := by decide +kernel
theorem dr_cX17_share_181 : decode cX17_share 181 = .ok (.if_icmp .ge 59, 3) := by decide +kernel
theorem dr_cX17_share_240 : decode cX17_share 240 = .ok (.iinc 3 1, 3) := by decide +kernel
theorem dr_cX17_share_243 : decode cX17_share 243 = .ok (.goto (-90), 3) := by decide +kernel
theorem dr_cX17_share_184 : decode cX17_share 184 = .ok (.aload 4, 2) := by decide +kernel
theorem dr_cX17_share_186 : decode cX17_share 186 = .ok (.getfield 117, 3) := by decide +kernel
theorem dr_cX17_share_189 : decode cX17_share 189 = .ok (.iload 5, 2) := by decide +kernel
theorem dr_cX17_share_191 : decode cX17_share 191 = .ok (.invokevirtual 124, 3) := by decide +kernel
theorem dr_cX17_share_194 : decode cX17_share 194 = .ok (.checkcast 40, 3) := by decide +kernel
theorem dr_cX17_share_197 : decode cX17_share 197 = .ok (.astore 6, 2) := by decide +kernel
theorem dr_cX17_share_199 : decode cX17_share 199 = .ok (.aload 6, 2) := by decide +kernel
theorem dr_cX17_share_201 : decode cX17_share 201 = .ok (.getfield 39, 3) := by decide +kernel
theorem dr_cX17_share_204 : decode cX17_share 204 = .ok (.bipush 21, 2) := by decide +kernel
theorem dr_cX17_share_206 : decode cX17_share 206 = .ok (.if_icmp .eq 13, 3) := by decide +kernel
theorem dr_cX17_share_219 : decode cX17_share 219 = .ok (.aload 6, 2) := by decide +kernel
theorem dr_cX17_share_221 : decode cX17_share 221 = .ok (.aload_n 0, 1) := by decide +kernel
theorem dr_cX17_share_222 : decode cX17_share 222 = .ok (.getfield 221, 3) := by decide +kernel
theorem wr_7_93 : (Jvm.Cond.fieldLink "SpillForgeModel" (221 : Nat) "SpillForgeModel" "slotOf" "[I") ∈ gw := gw_7 93 rfl rfl
theorem dr_cX17_share_225 : decode cX17_share 225 = .ok (.aload 6, 2) := by decide +kernel
theorem dr_cX17_share_227 : decode cX17_share 227 = .ok (.getfield 45, 3) := by decide +kernel
theorem dr_cX17_share_230 : decode cX17_share 230 = .ok (.iaload, 1) := by decide +kernel
theorem dr_cX17_share_231 : decode cX17_share 231 = .ok (.putfield 45, 3) := by decide +kernel
theorem dr_cX17_share_234 : decode cX17_share 234 = .ok (.iinc 5 1, 3) := by decide +kernel
theorem dr_cX17_share_237 : decode cX17_share 237 = .ok (.goto (-66), 3) := by decide +kernel
theorem dr_cX17_share_209 : decode cX17_share 209 = .ok (.aload 6, 2) := by decide +kernel
theorem dr_cX17_share_211 : decode cX17_share 211 = .ok (.getfield 39, 3) := by decide +kernel
theorem dr_cX17_share_214 : decode cX17_share 214 = .ok (.bipush 23, 2) := by decide +kernel
theorem dr_cX17_share_216 : decode cX17_share 216 = .ok (.if_icmp .ne 18, 3) := by decide +kernel
theorem dr_cX17_share_18 : decode cX17_share 18 = .ok (.iconst 0, 1) := by decide +kernel
theorem dr_cX17_share_19 : decode cX17_share 19 = .ok (.istore 4, 2) := by decide +kernel
theorem dr_cX17_share_21 : decode cX17_share 21 = .ok (.iconst 0, 1) := by decide +kernel
theorem dr_cX17_share_22 : decode cX17_share 22 = .ok (.istore 5, 2) := by decide +kernel
theorem dr_cX17_share_24 : decode cX17_share 24 = .ok (.iload 5, 2) := by decide +kernel
theorem dr_cX17_share_26 : decode cX17_share 26 = .ok (.iload_n 3, 1) := by decide +kernel
theorem dr_cX17_share_27 : decode cX17_share 27 = .ok (.if_icmp .ge 17, 3) := by decide +kernel
theorem dr_cX17_share_44 : decode cX17_share 44 = .ok (.iconst 0, 1) := by decide +kernel
theorem dr_cX17_share_45 : decode cX17_share 45 = .ok (.istore 5, 2) := by decide +kernel
theorem dr_cX17_share_47 : decode cX17_share 47 = .ok (.iload 5, 2) := by decide +kernel
theorem dr_cX17_share_49 : decode cX17_share 49 = .ok (.iload_n 3, 1) := by decide +kernel
theorem dr_cX17_share_50 : decode cX17_share 50 = .ok (.if_icmp .ge 46, 3) := by decide +kernel
theorem dr_cX17_share_96 : decode cX17_share 96 = .ok (.iload 4, 2) := by decide +kernel
theorem dr_cX17_share_98 : decode cX17_share 98 = .ok (.iload_n 3, 1) := by decide +kernel
theorem dr_cX17_share_99 : decode cX17_share 99 = .ok (.if_icmp .ge 20, 3) := by decide +kernel
theorem dr_cX17_share_119 : decode cX17_share 119 = .ok (.aload_n 0, 1) := by decide +kernel
theorem dr_cX17_share_120 : decode cX17_share 120 = .ok (.getfield 221, 3) := by decide +kernel
theorem dr_cX17_share_123 : decode cX17_share 123 = .ok (.iload_n 3, 1) := by decide +kernel
theorem dr_cX17_share_124 : decode cX17_share 124 = .ok (.iload 4, 2) := by decide +kernel
theorem dr_cX17_share_126 : decode cX17_share 126 = .ok (.iastore, 1) := by decide +kernel
theorem dr_cX17_share_127 : decode cX17_share 127 = .ok (.aload_n 0, 1) := by decide +kernel
theorem dr_cX17_share_128 : decode cX17_share 128 = .ok (.getfield 131, 3) := by decide +kernel
theorem dr_cX17_share_131 : decode cX17_share 131 = .ok (.iload_n 3, 1) := by decide +kernel
theorem dr_cX17_share_132 : decode cX17_share 132 = .ok (.baload, 1) := by decide +kernel
theorem dr_cX17_share_133 : decode cX17_share 133 = .ok (.ifCond .eq 12, 3) := by decide +kernel
theorem dr_cX17_share_145 : decode cX17_share 145 = .ok (.iinc 3 1, 3) := by decide +kernel
theorem dr_cX17_share_148 : decode cX17_share 148 = .ok (.goto (-138), 3) := by decide +kernel
theorem dr_cX17_share_136 : decode cX17_share 136 = .ok (.iload_n 2, 1) := by decide +kernel
theorem dr_cX17_share_137 : decode cX17_share 137 = .ok (.iload 4, 2) := by decide +kernel
theorem dr_cX17_share_139 : decode cX17_share 139 = .ok (.iconst 1, 1) := by decide +kernel
theorem dr_cX17_share_140 : decode cX17_share 140 = .ok (.iadd, 1) := by decide +kernel
theorem dr_cX17_share_141 : decode cX17_share 141 = .ok (.invokestatic 189, 3) := by decide +kernel
theorem dr_cX17_share_144 : decode cX17_share 144 = .ok (.istore_n 2, 1) := by decide +kernel
theorem dr_cX17_share_102 : decode cX17_share 102 = .ok (.aload_n 0, 1) := by decide +kernel
theorem dr_cX17_share_103 : decode cX17_share 103 = .ok (.getfield 209, 3) := by decide +kernel
theorem dr_cX17_share_106 : decode cX17_share 106 = .ok (.iload 4, 2) := by decide +kernel
theorem dr_cX17_share_108 : decode cX17_share 108 = .ok (.iaload, 1) := by decide +kernel
theorem dr_cX17_share_109 : decode cX17_share 109 = .ok (.iconst 1, 1) := by decide +kernel
theorem dr_cX17_share_110 : decode cX17_share 110 = .ok (.if_icmp .ne 9, 3) := by decide +kernel
theorem dr_cX17_share_113 : decode cX17_share 113 = .ok (.iinc 4 1, 3) := by decide +kernel
theorem dr_cX17_share_116 : decode cX17_share 116 = .ok (.goto (-20), 3) := by decide +kernel
theorem dr_cX17_share_53 : decode cX17_share 53 = .ok (.aload_n 0, 1) := by decide +kernel
theorem dr_cX17_share_54 : decode cX17_share 54 = .ok (.getfield 131, 3) := by decide +kernel
theorem dr_cX17_share_57 : decode cX17_share 57 = .ok (.iload 5, 2) := by decide +kernel
theorem dr_cX17_share_59 : decode cX17_share 59 = .ok (.baload, 1) := by decide +kernel
theorem dr_cX17_share_60 : decode cX17_share 60 = .ok (.ifCond .eq 30, 3) := by decide +kernel
theorem dr_cX17_share_90 : decode cX17_share 90 = .ok (.iinc 5 1, 3) := by decide +kernel
theorem dr_cX17_share_93 : decode cX17_share 93 = .ok (.goto (-46), 3) := by decide +kernel
theorem dr_cX17_share_63 : decode cX17_share 63 = .ok (.aload_n 0, 1) := by decide +kernel
theorem dr_cX17_share_64 : decode cX17_share 64 = .ok (.getfield 135, 3) := by decide +kernel
theorem dr_cX17_share_67 : decode cX17_share 67 = .ok (.iload_n 3, 1) := by decide +kernel
theorem dr_cX17_share_68 : decode cX17_share 68 = .ok (.aaload, 1) := by decide +kernel
theorem dr_cX17_share_69 : decode cX17_share 69 = .ok (.iload 5, 2) := by decide +kernel
theorem dr_cX17_share_71 : decode cX17_share 71 = .ok (.invokestatic 145, 3) := by decide +kernel
theorem dr_cX17_share_74 : decode cX17_share 74 = .ok (.ifCond .eq 16, 3) := by decide +kernel
theorem dr_cX17_share_77 : decode cX17_share 77 = .ok (.aload_n 0, 1) := by decide +kernel
theorem dr_cX17_share_78 : decode cX17_share 78 = .ok (.getfield 209, 3) := by decide +kernel
theorem dr_cX17_share_81 : decode cX17_share 81 = .ok (.aload_n 0, 1) := by decide +kernel
theorem dr_cX17_share_82 : decode cX17_share 82 = .ok (.getfield 221, 3) := by decide +kernel
theorem dr_cX17_share_85 : decode cX17_share 85 = .ok (.iload 5, 2) := by decide +kernel
theorem dr_cX17_share_87 : decode cX17_share 87 = .ok (.iaload, 1) := by decide +kernel
theorem dr_cX17_share_88 : decode cX17_share 88 = .ok (.iconst 1, 1) := by decide +kernel
theorem dr_cX17_share_89 : decode cX17_share 89 = .ok (.iastore, 1) := by decide +kernel
theorem dr_cX17_share_30 : decode cX17_share 30 = .ok (.aload_n 0, 1) := by decide +kernel
theorem dr_cX17_share_31 : decode cX17_share 31 = .ok (.getfield 209, 3) := by decide +kernel
theorem dr_cX17_share_34 : decode cX17_share 34 = .ok (.iload 5, 2) := by decide +kernel
theorem dr_cX17_share_36 : decode cX17_share 36 = .ok (.iconst 0, 1) := by decide +kernel
theorem dr_cX17_share_37 : decode cX17_share 37 = .ok (.iastore, 1) := by decide +kernel
theorem dr_cX17_share_38 : decode cX17_share 38 = .ok (.iinc 5 1, 3) := by decide +kernel
theorem dr_cX17_share_41 : decode cX17_share 41 = .ok (.goto (-17), 3) := by decide +kernel
abbrev ky_335839_SpillForgeModel_coloured : gKey := (cX17_coloured, 2, "SpillForgeModel", none, [], "coloured", fun _ _ => True)
def pt_335839_SpillForgeModel_coloured (D : va_G) (I : FieldType → ClassId) (γ el : Nat → Nat → Nat) (P335834 : List Nat) (F335835 : Nat → va_E) (q335836 : Nat) (q335837 : Nat) : Option Value → va_W → Nat → Nat → Prop := fun r w dc ds => ∃ (F336073 : Nat → va_E), r = none ∧ w = va_pl P335834 F336073 ∧ RS D I P335834 F336073 γ el ∧ rStr γ [1] F335835 F336073 ∧ dc ≤ 0 ∧ ds ≤ 0 ∧ (∀ b, b ≠ q335837 → F336073 b = F335835 b) ∧ (F336073 q335836 = F335835 q335836) ∧ (F336073 (γ 9 3) = F335835 (γ 9 3)) ∧ (F336073 (γ 9 17) = F335835 (γ 9 17))
set_option maxRecDepth 100000 in
set_option maxHeartbeats 4000000 in
theorem ct_335839_SpillForgeModel_coloured (l : Launch) (hl0 : l.stackTraces = false) (D : va_G) (I : FieldType → ClassId) (γ el : Nat → Nat → Nat) (P335834 : List Nat) (F335835 : Nat → va_E) (q335836 : Nat) (q335837 : Nat) (hT : RS D I P335834 F335835 γ el) (htq335836 : rKd γ q335836 10) (htq335837 : rKd γ q335837 1) (x335838 : (rNm (fun n => 0 ≤ (cB (F335835 (γ 9 17)) n).toInt) (F335835 q335837))) : CtA (gV D I) l yX17_coloured cX17_coloured 2 none 1 20 0 0 [.ref q335836, .ref q335837] (va_pl P335834 F335835) (pt_335839_SpillForgeModel_coloured D I γ el P335834 F335835 q335836 q335837) gNA := by
  refine CtA_of hl0 (by decide) (Nat.le_of_ble_eq_true rfl) ?_
  have hm335840 : q335836 ∈ P335834 := RS_m hT htq335836 (by decide)
  obtain ⟨q335842, q335843, p335844, p335845, p335846, p335847, p335848, p335849, p335850, p335851, p335852, p335853, p335854, p335855, p335856, p335857, p335858, he335841, hB335885, ht335859, ht335860, ht335861, ht335862, ht335863, ht335864, ht335865, ht335866, ht335867, ht335868, ht335869, ht335870, ht335871, ht335872, ht335873, ht335874, ht335875, ht335876, ht335877, ht335878, ht335879, ht335880, ht335881, ht335882, hB335886⟩ := show rk_10 γ (F335835 q335836) from RS_o hT htq335836
  have hm335887 : (γ 9 17) ∈ P335834 := RS_m hT ht335872 (by decide)
  obtain ⟨f335889, he335888, bf335889⟩ := show rk_20 I (F335835 (γ 9 17)) from RS_o hT ht335872
  have hm335890 : q335837 ∈ P335834 := RS_m hT htq335837 (by decide)
  obtain ⟨p335892, p335893, p335894, p335895, p335896, p335897, p335898, he335891, bp335892, bp335893, bp335896, bp335897, bp335898, r335899, r335900, r335901, r335902, r335903⟩ := show rk_1 γ q335837 (F335835 q335837) from RS_o hT htq335837
  have bp335894 := gB_any p335894
  have bp335895 := gB_any p335895
  have cq335904 : ∀ n, nmV p335892.toInt p335893.toInt p335894.toInt p335895.toInt p335897.toInt p335898.toInt n → 0 ≤ (f335889 n).toInt := by have z := x335838; unfold rNm at z; rw [nmS_of he335891, cB_of he335888] at z; exact z
  refine G_aload_n 1 dr_cX17_coloured_0 rfl ?_
  refine Gw_callV (As := []) (gV_ok D I) (cp_215439_Row_usesA l hl0 D I P335834 F335835 q335837 p335892 p335893 p335894 p335895 p335896 p335897 p335898 hm335890 he335891 bp335892 bp335893 bp335896 bp335897 bp335898) dr_cX17_coloured_1 ⟨wr_10_188, wr_1_39, wr_10_191, by decide, rfl, (Nat.le_of_ble_eq_true rfl), (Nat.le_of_ble_eq_true rfl)⟩ wr_10_189 wr_10_190 hm335890 he335891 rfl (show 0 + 0 ≤ 0 by first | omega | decide) (show 0 + 0 ≤ 0 by first | omega | decide) (Nat.le_of_ble_eq_true rfl) (fun r335908 w335909 dc335905 ds335906 hp335907 => ?_) (fun _ _ _ _ _ z => z.elim)
  obtain ⟨o335910, rfl, rfl, hdc, hds, bo335910, x335911⟩ := hp335907
  change G _ _ _ _ _ _ _ (.int o335910 :: _) _ _ _
  refine G_widen (cs' := 0) (sl' := 0) (by omega) (by omega) ?_
  refine G_if_eq 20 dr_cX17_coloured_4 (by decide +kernel) (fun hc335912 => ?_) (fun hc335912 => ?_)
  · have r335913 : o335910.toInt = 0 := gj_eq hc335912 (show Int32.toInt 0 = 0 by decide)
    have bo335910' : gB o335910 0 0 := ⟨by omega, by omega⟩
    refine G_aload_n 1 dr_cX17_coloured_20 rfl ?_
    refine Gw_callV (As := []) (gV_ok D I) (cp_215463_Row_usesB l hl0 D I P335834 F335835 q335837 p335892 p335893 p335894 p335895 p335896 p335897 p335898 hm335890 he335891 bp335892 bp335893 bp335896 bp335897 bp335898) dr_cX17_coloured_21 ⟨wr_10_192, wr_1_39, wr_10_195, by decide, rfl, (Nat.le_of_ble_eq_true rfl), (Nat.le_of_ble_eq_true rfl)⟩ wr_10_193 wr_10_194 hm335890 he335891 rfl (show 0 + 0 ≤ 0 by first | omega | decide) (show 0 + 0 ≤ 0 by first | omega | decide) (Nat.le_of_ble_eq_true rfl) (fun r335917 w335918 dc335914 ds335915 hp335916 => ?_) (fun _ _ _ _ _ z => z.elim)
    obtain ⟨o335919, rfl, rfl, hdc, hds, bo335919, x335920⟩ := hp335916
    change G _ _ _ _ _ _ _ (.int o335919 :: _) _ _ _
    refine G_widen (cs' := 0) (sl' := 0) (by omega) (by omega) ?_
    refine G_if_eq 40 dr_cX17_coloured_24 (by decide +kernel) (fun hc335921 => ?_) (fun hc335921 => ?_)
    · have r335922 : o335919.toInt = 0 := gj_eq hc335921 (show Int32.toInt 0 = 0 by decide)
      have bo335919' : gB o335919 0 0 := ⟨by omega, by omega⟩
      refine G_aload_n 1 dr_cX17_coloured_40 rfl ?_
      refine Gw_callV (As := []) (gV_ok D I) (cp_215484_Row_sets l hl0 D I P335834 F335835 q335837 p335892 p335893 p335894 p335895 p335896 p335897 p335898 hm335890 he335891 bp335892 bp335893 bp335896 bp335897 bp335898) dr_cX17_coloured_41 ⟨wr_10_177, wr_1_39, wr_10_180, by decide, rfl, (Nat.le_of_ble_eq_true rfl), (Nat.le_of_ble_eq_true rfl)⟩ wr_10_178 wr_10_179 hm335890 he335891 rfl (show 0 + 0 ≤ 0 by first | omega | decide) (show 0 + 0 ≤ 0 by first | omega | decide) (Nat.le_of_ble_eq_true rfl) (fun r335926 w335927 dc335923 ds335924 hp335925 => ?_) (fun _ _ _ _ _ z => z.elim)
      obtain ⟨o335928, rfl, rfl, hdc, hds, bo335928, x335929⟩ := hp335925
      change G _ _ _ _ _ _ _ (.int o335928 :: _) _ _ _
      refine G_widen (cs' := 0) (sl' := 0) (by omega) (by omega) ?_
      refine G_if_eq 60 dr_cX17_coloured_44 (by decide +kernel) (fun hc335930 => ?_) (fun hc335930 => ?_)
      · have r335931 : o335928.toInt = 0 := gj_eq hc335930 (show Int32.toInt 0 = 0 by decide)
        have bo335928' : gB o335928 0 0 := ⟨by omega, by omega⟩
        exact G_vretA dr_cX17_coloured_60 rfl (Nat.le_of_ble_eq_true rfl) (Nat.le_of_ble_eq_true rfl) ⟨F335835, rfl, rfl, hT, (rStr_rf (γ := γ) (W := [1]) (F := F335835)), (Nat.le_of_ble_eq_true rfl), (Nat.le_of_ble_eq_true rfl), (fun _ _ => rfl), rfl, rfl, rfl⟩
      · have r335932 : o335928.toInt ≠ 0 := gj_neq hc335930 (show Int32.toInt 0 = 0 by decide)
        have bo335928' : gB o335928 1 1 := ⟨by omega, by omega⟩
        refine G_aload_n 1 dr_cX17_coloured_47 rfl ?_
        refine G_aload_n 0 dr_cX17_coloured_48 rfl ?_
        refine Gp_get 17 hm335840 he335841 dr_cX17_coloured_49 (gk_X17 D I) (Nat.le_of_ble_eq_true rfl) wr_7_91 rfl ?_
        refine G_aload_n 1 dr_cX17_coloured_52 rfl ?_
        refine Gp_get 1 hm335890 he335891 dr_cX17_coloured_53 (gk_X15 D I) (Nat.le_of_ble_eq_true rfl) wr_9_178 rfl ?_
        refine Gp_iald 0 hm335887 he335888 dr_cX17_coloured_56 rfl (gB_in bp335893 (by decide) (by decide)) (G_nam fun z335933 hz335933 => ?_)
        have bz335933 : gB z335933 (-1) 31 := by rw [hz335933]; exact bf335889 _
        have r335934 : 0 ≤ z335933.toInt := by rw [hz335933]; exact cq335904 _ (Or.inl ⟨by omega, rfl⟩)
        have bz335933' : gB z335933 0 31 := ⟨by omega, by omega⟩
        refine Gp_put 1 hm335890 he335891 dr_cX17_coloured_57 (gk_X15 D I) (Nat.le_of_ble_eq_true rfl) wr_9_178 rfl rfl rfl (Nat.le_of_ble_eq_true rfl) (fun F335935 e335936 n335937 => ?_)
        have he335938 : F335935 q335836 = .inr (22, [.ref (γ 9 0), .ref (γ 9 1), .ref (γ 9 2), .ref (γ 9 3), .ref (γ 9 4), .ref (γ 9 5), .ref (γ 9 6), .ref (γ 9 7), .ref (γ 9 8), .int p335844, .int p335845, .int p335846, .int p335847, .int p335848, .int p335849, .ref (γ 9 15), .ref (γ 9 16), .ref (γ 9 17), .ref (γ 9 18), .ref (γ 9 19), .ref (γ 9 20), .ref (γ 9 21), .ref (γ 9 22), .int p335850, .int p335851, .int p335852, .int p335853, .int p335854, .ref q335842, .ref (γ 9 29), .int p335855, .ref (γ 9 31), .int p335856, .int p335857, .int p335858, .ref q335843]) := (n335937 q335836 (rn_oo he335841 he335891 (by decide))).trans he335841
        have he335939 : F335935 (γ 9 17) = .inl (I .int, 2000, .inl f335889) := (n335937 (γ 9 17) (rn_ao he335888 he335891)).trans he335888
        have he335940 : F335935 q335837 = .inr (20, [.int p335892, .int z335933, .int p335894, .int p335895, .int p335896, .int p335897, .int p335898]) := e335936
        have hs335941 : rStr γ [1] F335835 F335935 := rStr_pu2 (rStr_rf (γ := γ) (W := [1]) (F := F335835)) n335937 htq335837 (by decide)
        have kp335942 : F335935 q335836 = F335835 q335836 := n335937 q335836 (rn_ty htq335836 htq335837 (by decide))
        have kp335943 : F335935 (γ 9 3) = F335835 (γ 9 3) := n335937 (γ 9 3) (rn_ty ht335864 htq335837 (by decide))
        have kp335944 : F335935 (γ 9 17) = F335835 (γ 9 17) := n335937 (γ 9 17) (rn_ty ht335872 htq335837 (by decide))
        have hT335945 : RS D I P335834 F335935 γ el := RS_set hT n335937 htq335837 (by decide) ⟨p335892, z335933, p335894, p335895, p335896, p335897, p335898, he335940, bp335892, (gB_w bz335933' (by decide) (by decide)), bp335896, bp335897, bp335898, (by omega), (by omega), (by omega), (by omega), (by omega)⟩
        have of335946 : ∀ b, b ≠ q335837 → F335935 b = F335835 b := fun b hb => n335937 b hb
        exact G_vretA dr_cX17_coloured_60 rfl (Nat.le_of_ble_eq_true rfl) (Nat.le_of_ble_eq_true rfl) ⟨F335935, rfl, rfl, hT335945, hs335941, (Nat.le_of_ble_eq_true rfl), (Nat.le_of_ble_eq_true rfl), of335946, kp335942, kp335943, kp335944⟩
    · have r335947 : o335919.toInt ≠ 0 := gj_neq hc335921 (show Int32.toInt 0 = 0 by decide)
      have bo335919' : gB o335919 1 1 := ⟨by omega, by omega⟩
      refine G_aload_n 1 dr_cX17_coloured_27 rfl ?_
      refine G_aload_n 0 dr_cX17_coloured_28 rfl ?_
      refine Gp_get 17 hm335840 he335841 dr_cX17_coloured_29 (gk_X17 D I) (Nat.le_of_ble_eq_true rfl) wr_7_91 rfl ?_
      refine G_aload_n 1 dr_cX17_coloured_32 rfl ?_
      refine Gp_get 3 hm335890 he335891 dr_cX17_coloured_33 (gk_X15 D I) (Nat.le_of_ble_eq_true rfl) wr_9_186 rfl ?_
      refine Gp_iald 0 hm335887 he335888 dr_cX17_coloured_36 rfl (gB_inr (by omega) (by omega)) (G_nam fun z335948 hz335948 => ?_)
      have bz335948 : gB z335948 (-1) 31 := by rw [hz335948]; exact bf335889 _
      have r335949 : 0 ≤ z335948.toInt := by rw [hz335948]; exact cq335904 _ (Or.inr (Or.inr ⟨by omega, rfl⟩))
      have bz335948' : gB z335948 0 31 := ⟨by omega, by omega⟩
      refine Gp_put 3 hm335890 he335891 dr_cX17_coloured_37 (gk_X15 D I) (Nat.le_of_ble_eq_true rfl) wr_9_186 rfl rfl rfl (Nat.le_of_ble_eq_true rfl) (fun F335950 e335951 n335952 => ?_)
      have he335953 : F335950 q335836 = .inr (22, [.ref (γ 9 0), .ref (γ 9 1), .ref (γ 9 2), .ref (γ 9 3), .ref (γ 9 4), .ref (γ 9 5), .ref (γ 9 6), .ref (γ 9 7), .ref (γ 9 8), .int p335844, .int p335845, .int p335846, .int p335847, .int p335848, .int p335849, .ref (γ 9 15), .ref (γ 9 16), .ref (γ 9 17), .ref (γ 9 18), .ref (γ 9 19), .ref (γ 9 20), .ref (γ 9 21), .ref (γ 9 22), .int p335850, .int p335851, .int p335852, .int p335853, .int p335854, .ref q335842, .ref (γ 9 29), .int p335855, .ref (γ 9 31), .int p335856, .int p335857, .int p335858, .ref q335843]) := (n335952 q335836 (rn_oo he335841 he335891 (by decide))).trans he335841
      have he335954 : F335950 (γ 9 17) = .inl (I .int, 2000, .inl f335889) := (n335952 (γ 9 17) (rn_ao he335888 he335891)).trans he335888
      have he335955 : F335950 q335837 = .inr (20, [.int p335892, .int p335893, .int p335894, .int z335948, .int p335896, .int p335897, .int p335898]) := e335951
      have hs335956 : rStr γ [1] F335835 F335950 := rStr_pu2 (rStr_rf (γ := γ) (W := [1]) (F := F335835)) n335952 htq335837 (by decide)
      have kp335957 : F335950 q335836 = F335835 q335836 := n335952 q335836 (rn_ty htq335836 htq335837 (by decide))
      have kp335958 : F335950 (γ 9 3) = F335835 (γ 9 3) := n335952 (γ 9 3) (rn_ty ht335864 htq335837 (by decide))
      have kp335959 : F335950 (γ 9 17) = F335835 (γ 9 17) := n335952 (γ 9 17) (rn_ty ht335872 htq335837 (by decide))
      refine G_aload_n 1 dr_cX17_coloured_40 rfl ?_
      have hT335960 : RS D I P335834 F335950 γ el := RS_set hT n335952 htq335837 (by decide) ⟨p335892, p335893, p335894, z335948, p335896, p335897, p335898, he335955, bp335892, bp335893, bp335896, bp335897, bp335898, (by omega), (by omega), (by omega), (by omega), (by omega)⟩
      have of335961 : ∀ b, b ≠ q335837 → F335950 b = F335835 b := fun b hb => n335952 b hb
      refine Gw_callV (As := []) (gV_ok D I) (cp_215484_Row_sets l hl0 D I P335834 F335950 q335837 p335892 p335893 p335894 z335948 p335896 p335897 p335898 hm335890 he335955 bp335892 bp335893 bp335896 bp335897 bp335898) dr_cX17_coloured_41 ⟨wr_10_177, wr_1_39, wr_10_180, by decide, rfl, (Nat.le_of_ble_eq_true rfl), (Nat.le_of_ble_eq_true rfl)⟩ wr_10_178 wr_10_179 hm335890 he335955 rfl (show 0 + 0 ≤ 0 by first | omega | decide) (show 0 + 0 ≤ 0 by first | omega | decide) (Nat.le_of_ble_eq_true rfl) (fun r335965 w335966 dc335962 ds335963 hp335964 => ?_) (fun _ _ _ _ _ z => z.elim)
      obtain ⟨o335967, rfl, rfl, hdc, hds, bo335967, x335968⟩ := hp335964
      change G _ _ _ _ _ _ _ (.int o335967 :: _) _ _ _
      refine G_widen (cs' := 0) (sl' := 0) (by omega) (by omega) ?_
      refine G_if_eq 60 dr_cX17_coloured_44 (by decide +kernel) (fun hc335969 => ?_) (fun hc335969 => ?_)
      · have r335970 : o335967.toInt = 0 := gj_eq hc335969 (show Int32.toInt 0 = 0 by decide)
        have bo335967' : gB o335967 0 0 := ⟨by omega, by omega⟩
        exact G_vretA dr_cX17_coloured_60 rfl (Nat.le_of_ble_eq_true rfl) (Nat.le_of_ble_eq_true rfl) ⟨F335950, rfl, rfl, hT335960, hs335956, (Nat.le_of_ble_eq_true rfl), (Nat.le_of_ble_eq_true rfl), of335961, kp335957, kp335958, kp335959⟩
      · have r335971 : o335967.toInt ≠ 0 := gj_neq hc335969 (show Int32.toInt 0 = 0 by decide)
        have bo335967' : gB o335967 1 1 := ⟨by omega, by omega⟩
        refine G_aload_n 1 dr_cX17_coloured_47 rfl ?_
        refine G_aload_n 0 dr_cX17_coloured_48 rfl ?_
        refine Gp_get 17 hm335840 he335953 dr_cX17_coloured_49 (gk_X17 D I) (Nat.le_of_ble_eq_true rfl) wr_7_91 rfl ?_
        refine G_aload_n 1 dr_cX17_coloured_52 rfl ?_
        refine Gp_get 1 hm335890 he335955 dr_cX17_coloured_53 (gk_X15 D I) (Nat.le_of_ble_eq_true rfl) wr_9_178 rfl ?_
        refine Gp_iald 0 hm335887 he335954 dr_cX17_coloured_56 rfl (gB_in bp335893 (by decide) (by decide)) (G_nam fun z335972 hz335972 => ?_)
        have bz335972 : gB z335972 (-1) 31 := by rw [hz335972]; exact bf335889 _
        have r335973 : 0 ≤ z335972.toInt := by rw [hz335972]; exact cq335904 _ (Or.inl ⟨by omega, rfl⟩)
        have bz335972' : gB z335972 0 31 := ⟨by omega, by omega⟩
        refine Gp_put 1 hm335890 he335955 dr_cX17_coloured_57 (gk_X15 D I) (Nat.le_of_ble_eq_true rfl) wr_9_178 rfl rfl rfl (Nat.le_of_ble_eq_true rfl) (fun F335974 e335975 n335976 => ?_)
        have he335977 : F335974 q335836 = .inr (22, [.ref (γ 9 0), .ref (γ 9 1), .ref (γ 9 2), .ref (γ 9 3), .ref (γ 9 4), .ref (γ 9 5), .ref (γ 9 6), .ref (γ 9 7), .ref (γ 9 8), .int p335844, .int p335845, .int p335846, .int p335847, .int p335848, .int p335849, .ref (γ 9 15), .ref (γ 9 16), .ref (γ 9 17), .ref (γ 9 18), .ref (γ 9 19), .ref (γ 9 20), .ref (γ 9 21), .ref (γ 9 22), .int p335850, .int p335851, .int p335852, .int p335853, .int p335854, .ref q335842, .ref (γ 9 29), .int p335855, .ref (γ 9 31), .int p335856, .int p335857, .int p335858, .ref q335843]) := (n335976 q335836 (rn_oo he335953 he335955 (by decide))).trans he335953
        have he335978 : F335974 (γ 9 17) = .inl (I .int, 2000, .inl f335889) := (n335976 (γ 9 17) (rn_ao he335954 he335955)).trans he335954
        have he335979 : F335974 q335837 = .inr (20, [.int p335892, .int z335972, .int p335894, .int z335948, .int p335896, .int p335897, .int p335898]) := e335975
        have hs335980 : rStr γ [1] F335835 F335974 := rStr_pu2 hs335956 n335976 htq335837 (by decide)
        have kp335981 : F335974 q335836 = F335835 q335836 := (n335976 q335836 (rn_ty htq335836 htq335837 (by decide))).trans kp335957
        have kp335982 : F335974 (γ 9 3) = F335835 (γ 9 3) := (n335976 (γ 9 3) (rn_ty ht335864 htq335837 (by decide))).trans kp335958
        have kp335983 : F335974 (γ 9 17) = F335835 (γ 9 17) := (n335976 (γ 9 17) (rn_ty ht335872 htq335837 (by decide))).trans kp335959
        have hT335984 : RS D I P335834 F335974 γ el := RS_set hT335960 n335976 htq335837 (by decide) ⟨p335892, z335972, p335894, z335948, p335896, p335897, p335898, he335979, bp335892, (gB_w bz335972' (by decide) (by decide)), bp335896, bp335897, bp335898, (by omega), (by omega), (by omega), (by omega), (by omega)⟩
        have of335985 : ∀ b, b ≠ q335837 → F335974 b = F335835 b := fun b hb => (n335976 b hb).trans (of335961 b hb)
        exact G_vretA dr_cX17_coloured_60 rfl (Nat.le_of_ble_eq_true rfl) (Nat.le_of_ble_eq_true rfl) ⟨F335974, rfl, rfl, hT335984, hs335980, (Nat.le_of_ble_eq_true rfl), (Nat.le_of_ble_eq_true rfl), of335985, kp335981, kp335982, kp335983⟩
  · have r335986 : o335910.toInt ≠ 0 := gj_neq hc335912 (show Int32.toInt 0 = 0 by decide)
    have bo335910' : gB o335910 1 1 := ⟨by omega, by omega⟩
    refine G_aload_n 1 dr_cX17_coloured_7 rfl ?_
    refine G_aload_n 0 dr_cX17_coloured_8 rfl ?_
    refine Gp_get 17 hm335840 he335841 dr_cX17_coloured_9 (gk_X17 D I) (Nat.le_of_ble_eq_true rfl) wr_7_91 rfl ?_
    refine G_aload_n 1 dr_cX17_coloured_12 rfl ?_
    refine Gp_get 2 hm335890 he335891 dr_cX17_coloured_13 (gk_X15 D I) (Nat.le_of_ble_eq_true rfl) wr_9_182 rfl ?_
    refine Gp_iald 0 hm335887 he335888 dr_cX17_coloured_16 rfl (gB_inr (by omega) (by omega)) (G_nam fun z335987 hz335987 => ?_)
    have bz335987 : gB z335987 (-1) 31 := by rw [hz335987]; exact bf335889 _
    have r335988 : 0 ≤ z335987.toInt := by rw [hz335987]; exact cq335904 _ (Or.inr (Or.inl ⟨by omega, rfl⟩))
    have bz335987' : gB z335987 0 31 := ⟨by omega, by omega⟩
    refine Gp_put 2 hm335890 he335891 dr_cX17_coloured_17 (gk_X15 D I) (Nat.le_of_ble_eq_true rfl) wr_9_182 rfl rfl rfl (Nat.le_of_ble_eq_true rfl) (fun F335989 e335990 n335991 => ?_)
    have he335992 : F335989 q335836 = .inr (22, [.ref (γ 9 0), .ref (γ 9 1), .ref (γ 9 2), .ref (γ 9 3), .ref (γ 9 4), .ref (γ 9 5), .ref (γ 9 6), .ref (γ 9 7), .ref (γ 9 8), .int p335844, .int p335845, .int p335846, .int p335847, .int p335848, .int p335849, .ref (γ 9 15), .ref (γ 9 16), .ref (γ 9 17), .ref (γ 9 18), .ref (γ 9 19), .ref (γ 9 20), .ref (γ 9 21), .ref (γ 9 22), .int p335850, .int p335851, .int p335852, .int p335853, .int p335854, .ref q335842, .ref (γ 9 29), .int p335855, .ref (γ 9 31), .int p335856, .int p335857, .int p335858, .ref q335843]) := (n335991 q335836 (rn_oo he335841 he335891 (by decide))).trans he335841
    have he335993 : F335989 (γ 9 17) = .inl (I .int, 2000, .inl f335889) := (n335991 (γ 9 17) (rn_ao he335888 he335891)).trans he335888
    have he335994 : F335989 q335837 = .inr (20, [.int p335892, .int p335893, .int z335987, .int p335895, .int p335896, .int p335897, .int p335898]) := e335990
    have hs335995 : rStr γ [1] F335835 F335989 := rStr_pu2 (rStr_rf (γ := γ) (W := [1]) (F := F335835)) n335991 htq335837 (by decide)
    have kp335996 : F335989 q335836 = F335835 q335836 := n335991 q335836 (rn_ty htq335836 htq335837 (by decide))
    have kp335997 : F335989 (γ 9 3) = F335835 (γ 9 3) := n335991 (γ 9 3) (rn_ty ht335864 htq335837 (by decide))
    have kp335998 : F335989 (γ 9 17) = F335835 (γ 9 17) := n335991 (γ 9 17) (rn_ty ht335872 htq335837 (by decide))
    refine G_aload_n 1 dr_cX17_coloured_20 rfl ?_
    have hT335999 : RS D I P335834 F335989 γ el := RS_set hT n335991 htq335837 (by decide) ⟨p335892, p335893, z335987, p335895, p335896, p335897, p335898, he335994, bp335892, bp335893, bp335896, bp335897, bp335898, (by omega), (by omega), (by omega), (by omega), (by omega)⟩
    have of336000 : ∀ b, b ≠ q335837 → F335989 b = F335835 b := fun b hb => n335991 b hb
    refine Gw_callV (As := []) (gV_ok D I) (cp_215463_Row_usesB l hl0 D I P335834 F335989 q335837 p335892 p335893 z335987 p335895 p335896 p335897 p335898 hm335890 he335994 bp335892 bp335893 bp335896 bp335897 bp335898) dr_cX17_coloured_21 ⟨wr_10_192, wr_1_39, wr_10_195, by decide, rfl, (Nat.le_of_ble_eq_true rfl), (Nat.le_of_ble_eq_true rfl)⟩ wr_10_193 wr_10_194 hm335890 he335994 rfl (show 0 + 0 ≤ 0 by first | omega | decide) (show 0 + 0 ≤ 0 by first | omega | decide) (Nat.le_of_ble_eq_true rfl) (fun r336004 w336005 dc336001 ds336002 hp336003 => ?_) (fun _ _ _ _ _ z => z.elim)
    obtain ⟨o336006, rfl, rfl, hdc, hds, bo336006, x336007⟩ := hp336003
    change G _ _ _ _ _ _ _ (.int o336006 :: _) _ _ _
    refine G_widen (cs' := 0) (sl' := 0) (by omega) (by omega) ?_
    refine G_if_eq 40 dr_cX17_coloured_24 (by decide +kernel) (fun hc336008 => ?_) (fun hc336008 => ?_)
    · have r336009 : o336006.toInt = 0 := gj_eq hc336008 (show Int32.toInt 0 = 0 by decide)
      have bo336006' : gB o336006 0 0 := ⟨by omega, by omega⟩
      refine G_aload_n 1 dr_cX17_coloured_40 rfl ?_
      refine Gw_callV (As := []) (gV_ok D I) (cp_215484_Row_sets l hl0 D I P335834 F335989 q335837 p335892 p335893 z335987 p335895 p335896 p335897 p335898 hm335890 he335994 bp335892 bp335893 bp335896 bp335897 bp335898) dr_cX17_coloured_41 ⟨wr_10_177, wr_1_39, wr_10_180, by decide, rfl, (Nat.le_of_ble_eq_true rfl), (Nat.le_of_ble_eq_true rfl)⟩ wr_10_178 wr_10_179 hm335890 he335994 rfl (show 0 + 0 ≤ 0 by first | omega | decide) (show 0 + 0 ≤ 0 by first | omega | decide) (Nat.le_of_ble_eq_true rfl) (fun r336013 w336014 dc336010 ds336011 hp336012 => ?_) (fun _ _ _ _ _ z => z.elim)
      obtain ⟨o336015, rfl, rfl, hdc, hds, bo336015, x336016⟩ := hp336012
      change G _ _ _ _ _ _ _ (.int o336015 :: _) _ _ _
      refine G_widen (cs' := 0) (sl' := 0) (by omega) (by omega) ?_
      refine G_if_eq 60 dr_cX17_coloured_44 (by decide +kernel) (fun hc336017 => ?_) (fun hc336017 => ?_)
      · have r336018 : o336015.toInt = 0 := gj_eq hc336017 (show Int32.toInt 0 = 0 by decide)
        have bo336015' : gB o336015 0 0 := ⟨by omega, by omega⟩
        exact G_vretA dr_cX17_coloured_60 rfl (Nat.le_of_ble_eq_true rfl) (Nat.le_of_ble_eq_true rfl) ⟨F335989, rfl, rfl, hT335999, hs335995, (Nat.le_of_ble_eq_true rfl), (Nat.le_of_ble_eq_true rfl), of336000, kp335996, kp335997, kp335998⟩
      · have r336019 : o336015.toInt ≠ 0 := gj_neq hc336017 (show Int32.toInt 0 = 0 by decide)
        have bo336015' : gB o336015 1 1 := ⟨by omega, by omega⟩
        refine G_aload_n 1 dr_cX17_coloured_47 rfl ?_
        refine G_aload_n 0 dr_cX17_coloured_48 rfl ?_
        refine Gp_get 17 hm335840 he335992 dr_cX17_coloured_49 (gk_X17 D I) (Nat.le_of_ble_eq_true rfl) wr_7_91 rfl ?_
        refine G_aload_n 1 dr_cX17_coloured_52 rfl ?_
        refine Gp_get 1 hm335890 he335994 dr_cX17_coloured_53 (gk_X15 D I) (Nat.le_of_ble_eq_true rfl) wr_9_178 rfl ?_
        refine Gp_iald 0 hm335887 he335993 dr_cX17_coloured_56 rfl (gB_in bp335893 (by decide) (by decide)) (G_nam fun z336020 hz336020 => ?_)
        have bz336020 : gB z336020 (-1) 31 := by rw [hz336020]; exact bf335889 _
        have r336021 : 0 ≤ z336020.toInt := by rw [hz336020]; exact cq335904 _ (Or.inl ⟨by omega, rfl⟩)
        have bz336020' : gB z336020 0 31 := ⟨by omega, by omega⟩
        refine Gp_put 1 hm335890 he335994 dr_cX17_coloured_57 (gk_X15 D I) (Nat.le_of_ble_eq_true rfl) wr_9_178 rfl rfl rfl (Nat.le_of_ble_eq_true rfl) (fun F336022 e336023 n336024 => ?_)
        have he336025 : F336022 q335836 = .inr (22, [.ref (γ 9 0), .ref (γ 9 1), .ref (γ 9 2), .ref (γ 9 3), .ref (γ 9 4), .ref (γ 9 5), .ref (γ 9 6), .ref (γ 9 7), .ref (γ 9 8), .int p335844, .int p335845, .int p335846, .int p335847, .int p335848, .int p335849, .ref (γ 9 15), .ref (γ 9 16), .ref (γ 9 17), .ref (γ 9 18), .ref (γ 9 19), .ref (γ 9 20), .ref (γ 9 21), .ref (γ 9 22), .int p335850, .int p335851, .int p335852, .int p335853, .int p335854, .ref q335842, .ref (γ 9 29), .int p335855, .ref (γ 9 31), .int p335856, .int p335857, .int p335858, .ref q335843]) := (n336024 q335836 (rn_oo he335992 he335994 (by decide))).trans he335992
        have he336026 : F336022 (γ 9 17) = .inl (I .int, 2000, .inl f335889) := (n336024 (γ 9 17) (rn_ao he335993 he335994)).trans he335993
        have he336027 : F336022 q335837 = .inr (20, [.int p335892, .int z336020, .int z335987, .int p335895, .int p335896, .int p335897, .int p335898]) := e336023
        have hs336028 : rStr γ [1] F335835 F336022 := rStr_pu2 hs335995 n336024 htq335837 (by decide)
        have kp336029 : F336022 q335836 = F335835 q335836 := (n336024 q335836 (rn_ty htq335836 htq335837 (by decide))).trans kp335996
        have kp336030 : F336022 (γ 9 3) = F335835 (γ 9 3) := (n336024 (γ 9 3) (rn_ty ht335864 htq335837 (by decide))).trans kp335997
        have kp336031 : F336022 (γ 9 17) = F335835 (γ 9 17) := (n336024 (γ 9 17) (rn_ty ht335872 htq335837 (by decide))).trans kp335998
        have hT336032 : RS D I P335834 F336022 γ el := RS_set hT335999 n336024 htq335837 (by decide) ⟨p335892, z336020, z335987, p335895, p335896, p335897, p335898, he336027, bp335892, (gB_w bz336020' (by decide) (by decide)), bp335896, bp335897, bp335898, (by omega), (by omega), (by omega), (by omega), (by omega)⟩
        have of336033 : ∀ b, b ≠ q335837 → F336022 b = F335835 b := fun b hb => (n336024 b hb).trans (of336000 b hb)
        exact G_vretA dr_cX17_coloured_60 rfl (Nat.le_of_ble_eq_true rfl) (Nat.le_of_ble_eq_true rfl) ⟨F336022, rfl, rfl, hT336032, hs336028, (Nat.le_of_ble_eq_true rfl), (Nat.le_of_ble_eq_true rfl), of336033, kp336029, kp336030, kp336031⟩
    · have r336034 : o336006.toInt ≠ 0 := gj_neq hc336008 (show Int32.toInt 0 = 0 by decide)
      have bo336006' : gB o336006 1 1 := ⟨by omega, by omega⟩
      refine G_aload_n 1 dr_cX17_coloured_27 rfl ?_
      refine G_aload_n 0 dr_cX17_coloured_28 rfl ?_
      refine Gp_get 17 hm335840 he335992 dr_cX17_coloured_29 (gk_X17 D I) (Nat.le_of_ble_eq_true rfl) wr_7_91 rfl ?_
      refine G_aload_n 1 dr_cX17_coloured_32 rfl ?_
      refine Gp_get 3 hm335890 he335994 dr_cX17_coloured_33 (gk_X15 D I) (Nat.le_of_ble_eq_true rfl) wr_9_186 rfl ?_
      refine Gp_iald 0 hm335887 he335993 dr_cX17_coloured_36 rfl (gB_inr (by omega) (by omega)) (G_nam fun z336035 hz336035 => ?_)
      have bz336035 : gB z336035 (-1) 31 := by rw [hz336035]; exact bf335889 _
      have r336036 : 0 ≤ z336035.toInt := by rw [hz336035]; exact cq335904 _ (Or.inr (Or.inr ⟨by omega, rfl⟩))
      have bz336035' : gB z336035 0 31 := ⟨by omega, by omega⟩
      refine Gp_put 3 hm335890 he335994 dr_cX17_coloured_37 (gk_X15 D I) (Nat.le_of_ble_eq_true rfl) wr_9_186 rfl rfl rfl (Nat.le_of_ble_eq_true rfl) (fun F336037 e336038 n336039 => ?_)
      have he336040 : F336037 q335836 = .inr (22, [.ref (γ 9 0), .ref (γ 9 1), .ref (γ 9 2), .ref (γ 9 3), .ref (γ 9 4), .ref (γ 9 5), .ref (γ 9 6), .ref (γ 9 7), .ref (γ 9 8), .int p335844, .int p335845, .int p335846, .int p335847, .int p335848, .int p335849, .ref (γ 9 15), .ref (γ 9 16), .ref (γ 9 17), .ref (γ 9 18), .ref (γ 9 19), .ref (γ 9 20), .ref (γ 9 21), .ref (γ 9 22), .int p335850, .int p335851, .int p335852, .int p335853, .int p335854, .ref q335842, .ref (γ 9 29), .int p335855, .ref (γ 9 31), .int p335856, .int p335857, .int p335858, .ref q335843]) := (n336039 q335836 (rn_oo he335992 he335994 (by decide))).trans he335992
      have he336041 : F336037 (γ 9 17) = .inl (I .int, 2000, .inl f335889) := (n336039 (γ 9 17) (rn_ao he335993 he335994)).trans he335993
      have he336042 : F336037 q335837 = .inr (20, [.int p335892, .int p335893, .int z335987, .int z336035, .int p335896, .int p335897, .int p335898]) := e336038
      have hs336043 : rStr γ [1] F335835 F336037 := rStr_pu2 hs335995 n336039 htq335837 (by decide)
      have kp336044 : F336037 q335836 = F335835 q335836 := (n336039 q335836 (rn_ty htq335836 htq335837 (by decide))).trans kp335996
      have kp336045 : F336037 (γ 9 3) = F335835 (γ 9 3) := (n336039 (γ 9 3) (rn_ty ht335864 htq335837 (by decide))).trans kp335997
      have kp336046 : F336037 (γ 9 17) = F335835 (γ 9 17) := (n336039 (γ 9 17) (rn_ty ht335872 htq335837 (by decide))).trans kp335998
      refine G_aload_n 1 dr_cX17_coloured_40 rfl ?_
      have hT336047 : RS D I P335834 F336037 γ el := RS_set hT335999 n336039 htq335837 (by decide) ⟨p335892, p335893, z335987, z336035, p335896, p335897, p335898, he336042, bp335892, bp335893, bp335896, bp335897, bp335898, (by omega), (by omega), (by omega), (by omega), (by omega)⟩
      have of336048 : ∀ b, b ≠ q335837 → F336037 b = F335835 b := fun b hb => (n336039 b hb).trans (of336000 b hb)
      refine Gw_callV (As := []) (gV_ok D I) (cp_215484_Row_sets l hl0 D I P335834 F336037 q335837 p335892 p335893 z335987 z336035 p335896 p335897 p335898 hm335890 he336042 bp335892 bp335893 bp335896 bp335897 bp335898) dr_cX17_coloured_41 ⟨wr_10_177, wr_1_39, wr_10_180, by decide, rfl, (Nat.le_of_ble_eq_true rfl), (Nat.le_of_ble_eq_true rfl)⟩ wr_10_178 wr_10_179 hm335890 he336042 rfl (show 0 + 0 ≤ 0 by first | omega | decide) (show 0 + 0 ≤ 0 by first | omega | decide) (Nat.le_of_ble_eq_true rfl) (fun r336052 w336053 dc336049 ds336050 hp336051 => ?_) (fun _ _ _ _ _ z => z.elim)
      obtain ⟨o336054, rfl, rfl, hdc, hds, bo336054, x336055⟩ := hp336051
      change G _ _ _ _ _ _ _ (.int o336054 :: _) _ _ _
      refine G_widen (cs' := 0) (sl' := 0) (by omega) (by omega) ?_
      refine G_if_eq 60 dr_cX17_coloured_44 (by decide +kernel) (fun hc336056 => ?_) (fun hc336056 => ?_)
      · have r336057 : o336054.toInt = 0 := gj_eq hc336056 (show Int32.toInt 0 = 0 by decide)
        have bo336054' : gB o336054 0 0 := ⟨by omega, by omega⟩
        exact G_vretA dr_cX17_coloured_60 rfl (Nat.le_of_ble_eq_true rfl) (Nat.le_of_ble_eq_true rfl) ⟨F336037, rfl, rfl, hT336047, hs336043, (Nat.le_of_ble_eq_true rfl), (Nat.le_of_ble_eq_true rfl), of336048, kp336044, kp336045, kp336046⟩
      · have r336058 : o336054.toInt ≠ 0 := gj_neq hc336056 (show Int32.toInt 0 = 0 by decide)
        have bo336054' : gB o336054 1 1 := ⟨by omega, by omega⟩
        refine G_aload_n 1 dr_cX17_coloured_47 rfl ?_
        refine G_aload_n 0 dr_cX17_coloured_48 rfl ?_
        refine Gp_get 17 hm335840 he336040 dr_cX17_coloured_49 (gk_X17 D I) (Nat.le_of_ble_eq_true rfl) wr_7_91 rfl ?_
        refine G_aload_n 1 dr_cX17_coloured_52 rfl ?_
        refine Gp_get 1 hm335890 he336042 dr_cX17_coloured_53 (gk_X15 D I) (Nat.le_of_ble_eq_true rfl) wr_9_178 rfl ?_
        refine Gp_iald 0 hm335887 he336041 dr_cX17_coloured_56 rfl (gB_in bp335893 (by decide) (by decide)) (G_nam fun z336059 hz336059 => ?_)
        have bz336059 : gB z336059 (-1) 31 := by rw [hz336059]; exact bf335889 _
        have r336060 : 0 ≤ z336059.toInt := by rw [hz336059]; exact cq335904 _ (Or.inl ⟨by omega, rfl⟩)
        have bz336059' : gB z336059 0 31 := ⟨by omega, by omega⟩
        refine Gp_put 1 hm335890 he336042 dr_cX17_coloured_57 (gk_X15 D I) (Nat.le_of_ble_eq_true rfl) wr_9_178 rfl rfl rfl (Nat.le_of_ble_eq_true rfl) (fun F336061 e336062 n336063 => ?_)
        have he336064 : F336061 q335836 = .inr (22, [.ref (γ 9 0), .ref (γ 9 1), .ref (γ 9 2), .ref (γ 9 3), .ref (γ 9 4), .ref (γ 9 5), .ref (γ 9 6), .ref (γ 9 7), .ref (γ 9 8), .int p335844, .int p335845, .int p335846, .int p335847, .int p335848, .int p335849, .ref (γ 9 15), .ref (γ 9 16), .ref (γ 9 17), .ref (γ 9 18), .ref (γ 9 19), .ref (γ 9 20), .ref (γ 9 21), .ref (γ 9 22), .int p335850, .int p335851, .int p335852, .int p335853, .int p335854, .ref q335842, .ref (γ 9 29), .int p335855, .ref (γ 9 31), .int p335856, .int p335857, .int p335858, .ref q335843]) := (n336063 q335836 (rn_oo he336040 he336042 (by decide))).trans he336040
        have he336065 : F336061 (γ 9 17) = .inl (I .int, 2000, .inl f335889) := (n336063 (γ 9 17) (rn_ao he336041 he336042)).trans he336041
        have he336066 : F336061 q335837 = .inr (20, [.int p335892, .int z336059, .int z335987, .int z336035, .int p335896, .int p335897, .int p335898]) := e336062
        have hs336067 : rStr γ [1] F335835 F336061 := rStr_pu2 hs336043 n336063 htq335837 (by decide)
        have kp336068 : F336061 q335836 = F335835 q335836 := (n336063 q335836 (rn_ty htq335836 htq335837 (by decide))).trans kp336044
        have kp336069 : F336061 (γ 9 3) = F335835 (γ 9 3) := (n336063 (γ 9 3) (rn_ty ht335864 htq335837 (by decide))).trans kp336045
        have kp336070 : F336061 (γ 9 17) = F335835 (γ 9 17) := (n336063 (γ 9 17) (rn_ty ht335872 htq335837 (by decide))).trans kp336046
        have hT336071 : RS D I P335834 F336061 γ el := RS_set hT336047 n336063 htq335837 (by decide) ⟨p335892, z336059, z335987, z336035, p335896, p335897, p335898, he336066, bp335892, (gB_w bz336059' (by decide) (by decide)), bp335896, bp335897, bp335898, (by omega), (by omega), (by omega), (by omega), (by omega)⟩
        have of336072 : ∀ b, b ≠ q335837 → F336061 b = F335835 b := fun b hb => (n336063 b hb).trans (of336048 b hb)
        exact G_vretA dr_cX17_coloured_60 rfl (Nat.le_of_ble_eq_true rfl) (Nat.le_of_ble_eq_true rfl) ⟨F336061, rfl, rfl, hT336071, hs336067, (Nat.le_of_ble_eq_true rfl), (Nat.le_of_ble_eq_true rfl), of336072, kp336068, kp336069, kp336070⟩
abbrev ky_336080_SpillForgeModel_share : gKey := (cX17_share, 7, "SpillForgeModel", none, [], "share", fun _ _ => True)
def pt_336080_SpillForgeModel_share (D : va_G) (I : FieldType → ClassId) (γ el : Nat → Nat → Nat) (P336074 : List Nat) (F336075 : Nat → va_E) (q336076 : Nat) (q336077 : Nat) : Option Value → va_W → Nat → Nat → Prop := fun r w dc ds => ∃ (F356973 : Nat → va_E), r = none ∧ w = va_pl P336074 F356973 ∧ RS D I P336074 F356973 γ el ∧ rStr γ [1] F336075 F356973 ∧ dc ≤ 0 ∧ ds ≤ 0 ∧ mKp (F336075 q336076) (F356973 q336076)
set_option maxRecDepth 100000 in
set_option maxHeartbeats 4000000 in
theorem ct_336080_SpillForgeModel_share (l : Launch) (hl0 : l.stackTraces = false) (D : va_G) (I : FieldType → ClassId) (γ el : Nat → Nat → Nat) (P336074 : List Nat) (F336075 : Nat → va_E) (q336076 : Nat) (q336077 : Nat) (hT : RS D I P336074 F336075 γ el) (htq336076 : rKd γ q336076 10) (htq336077 : rKd γ q336077 9) (x336078 : 0 < γ 6 (γ 1 q336077)) (x336079 : (((γ 7 (γ 1 q336077) : Nat) : Int) ≤ (fI (F336075 q336076) 11).toInt)) : CtA (gV D I) l yX17_share cX17_share 7 none 6 141 0 0 [.ref q336076, .ref q336077] (va_pl P336074 F336075) (pt_336080_SpillForgeModel_share D I γ el P336074 F336075 q336076 q336077) gNA := by
  refine CtA_of hl0 (by decide) (Nat.le_of_ble_eq_true rfl) ?_
  have hm336081 : q336076 ∈ P336074 := RS_m hT htq336076 (by decide)
  refine rk10_e (show rk_10 γ (F336075 q336076) from RS_o hT htq336076) (fun q336083 q336084 p336085 p336086 p336087 p336088 p336089 p336090 p336091 p336092 p336093 p336094 p336095 p336096 p336097 p336098 p336099 he336082 hB336126 ht336100 ht336101 ht336102 ht336103 ht336104 ht336105 ht336106 ht336107 ht336108 ht336109 ht336110 ht336111 ht336112 ht336113 ht336114 ht336115 ht336116 ht336117 ht336118 ht336119 ht336120 ht336121 ht336122 ht336123 hB336127 => ?_)
  have hm336128 : (γ 9 19) ∈ P336074 := RS_m hT ht336115 (by decide)
  obtain ⟨f336130, he336129, bf336130⟩ := show rk_21 I (F336075 (γ 9 19)) from RS_o hT ht336115
  have r336131 : (γ 7 (γ 1 q336077) : Int) ≤ p336087.toInt := by have z := x336079; rw [he336082] at z; exact z
  have bp336087 : gB p336087 0 100 := (hB336126.2.2.1)
  refine G_aload_n 0 dr_cX17_share_0 rfl ?_
  refine G_aload_n 1 dr_cX17_share_1 rfl ?_
  refine G_iconst 1 dr_cX17_share_2 (by decide +kernel) ?_
  refine Gw_callV (As := [.ref q336077, .int 1]) (gV_ok D I) (ct_270169_SpillForgeModel_graph l hl0 D I γ el P336074 F336075 q336076 q336077 1 hT htq336076 htq336077 (gB_w (gBl (show Int32.toInt 1 = 1 by decide)) (by decide) (by decide)) (by omega)) dr_cX17_share_3 ⟨wr_10_229, wr_1_14, wr_10_232, by decide, rfl, (Nat.le_of_ble_eq_true rfl), (Nat.le_of_ble_eq_true rfl)⟩ wr_10_231 wr_p_99 hm336081 he336082 rfl (show 0 + 0 ≤ 0 by first | omega | decide) (show 0 + 0 ≤ 0 by first | omega | decide) (Nat.le_of_ble_eq_true rfl) (fun r336135 w336136 dc336132 ds336133 hp336134 => ?_) (fun _ _ _ _ _ z => z.elim)
  obtain ⟨F336139, rfl, rfl, hT336140, hs336141, hdc, hds, x336137, x336138⟩ := hp336134
  have hs336142 : rStr γ [1] F336075 F336139 := rStr_tr (rStr_rf (γ := γ) (W := [1]) (F := F336075)) (rStr_w hs336141 (by decide))
  have kp336143 : F336139 q336076 = F336075 q336076 := x336138
  have mk336144 : mKp (F336075 q336076) (F336139 q336076) := mKp_tr mKp_rf (mKp_eq x336138)
  have he336145 : F336139 q336076 = .inr (22, [.ref (γ 9 0), .ref (γ 9 1), .ref (γ 9 2), .ref (γ 9 3), .ref (γ 9 4), .ref (γ 9 5), .ref (γ 9 6), .ref (γ 9 7), .ref (γ 9 8), .int p336085, .int p336086, .int p336087, .int p336088, .int p336089, .int p336090, .ref (γ 9 15), .ref (γ 9 16), .ref (γ 9 17), .ref (γ 9 18), .ref (γ 9 19), .ref (γ 9 20), .ref (γ 9 21), .ref (γ 9 22), .int p336091, .int p336092, .int p336093, .int p336094, .int p336095, .ref q336083, .ref (γ 9 29), .int p336096, .ref (γ 9 31), .int p336097, .int p336098, .int p336099, .ref q336084]) := (x336138).trans he336082
  rw [show Int32.toInt 1 = 1 from by decide] at x336137
  change G _ _ _ _ _ _ _ _ _ _ _
  refine G_widen (cs' := 0) (sl' := 0) (by omega) (by omega) ?_
  refine G_iconst 0 dr_cX17_share_6 (by decide +kernel) ?_
  refine G_istore_n (L' := [(2, .int 0), (0, .ref q336076), (1, .ref q336077)]) dr_cX17_share_7 (Nat.le_of_ble_eq_true rfl) rfl ?_
  refine G_iconst 0 dr_cX17_share_8 (by decide +kernel) ?_
  refine G_istore_n (L' := [(3, .int 0), (2, .int 0), (0, .ref q336076), (1, .ref q336077)]) dr_cX17_share_9 (Nat.le_of_ble_eq_true rfl) rfl ?_
  have hlp10_355477 : ∀ (n10_355477 : Nat) (F355471 : Nat → va_E) (g355469 : Int32) (g355470 : Int32), gB g355469 0 100 → gB g355470 0 1999 → RS D I P336074 F355471 γ el → rStr γ [1] F336075 F355471 → (∀ q : Nat, (q : Int) < g355469.toInt → 0 ≤ (cB (F355471 (γ 9 19)) q).toInt ∧ (cB (F355471 (γ 9 19)) q).toInt ≤ q) → (g355470.toInt ≤ 100) → (F355471 q336076 = F336075 q336076) → mKp (F336075 q336076) (F355471 q336076) → ((101 : Int) - g355469.toInt).toNat < n10_355477 → G (gV D I) l (gRm 6 141 0 0) (gMA (gV D I) (pt_336080_SpillForgeModel_share D I γ el P336074 F336075 q336076 q336077) gNA 0 0) ky_336080_SpillForgeModel_share 10 [(3, .int g355469), (2, .int g355470), (0, .ref q336076), (1, .ref q336077)] [] (va_pl P336074 F355471) 0 0 := by
    intro n10_355477
    induction n10_355477 with
    | zero => intro F355471 g355469 g355470 bg355469 bg355470 hT355472 hs355473 x355474 x355475 x355476 x355477 hm10_355477; exact absurd hm10_355477 (Nat.not_lt_zero _)
    | succ n10_355477 ih10_355477 =>
      intro F355471 g355469 g355470 bg355469 bg355470 hT355472 hs355473 x355474 x355475 x355476 x355477 hm10_355477
      have hs355479 : rStr γ [1] F336139 F355471 := fun b h0 hb hw => (hs355473 b h0 hb hw).trans (hs336142 b h0 hb hw).symm
      have hs355480 : rStr γ [1] F336075 F355471 := rStr_tr hs336142 hs355479
      have he355481 : F355471 q336076 = .inr (22, [.ref (γ 9 0), .ref (γ 9 1), .ref (γ 9 2), .ref (γ 9 3), .ref (γ 9 4), .ref (γ 9 5), .ref (γ 9 6), .ref (γ 9 7), .ref (γ 9 8), .int p336085, .int p336086, .int p336087, .int p336088, .int p336089, .int p336090, .ref (γ 9 15), .ref (γ 9 16), .ref (γ 9 17), .ref (γ 9 18), .ref (γ 9 19), .ref (γ 9 20), .ref (γ 9 21), .ref (γ 9 22), .int p336091, .int p336092, .int p336093, .int p336094, .int p336095, .ref q336083, .ref (γ 9 29), .int p336096, .ref (γ 9 31), .int p336097, .int p336098, .int p336099, .ref q336084]) := x355476.trans he336082
      have hm355482 : q336076 ∈ P336074 := RS_m hT355472 htq336076 (by decide)
      have hm355483 : (γ 9 19) ∈ P336074 := RS_m hT355472 ht336115 (by decide)
      obtain ⟨f355485, he355484, bf355485⟩ := show rk_21 I (F355471 (γ 9 19)) from RS_o hT355472 ht336115
      have cq355486 := x355474
      rw [cB_of he355484] at cq355486
      refine G_iload_n 0 dr_cX17_share_10 rfl ?_
      refine G_aload_n 2 dr_cX17_share_11 rfl ?_
      refine Gp_get 11 hm355482 he355481 dr_cX17_share_12 (gk_X17 D I) (Nat.le_of_ble_eq_true rfl) wr_7_85 rfl ?_
      refine G_icmp_ge 151 dr_cX17_share_15 (by decide +kernel) (fun hc355487 => ?_) (fun hc355487 => ?_)
      · have r355488 : p336087.toInt ≤ g355469.toInt := gC_le hc355487
        refine G_iconst 0 dr_cX17_share_151 (by decide +kernel) ?_
        refine G_istore_n (L' := [(3, .int 0), (2, .int g355470), (0, .ref q336076), (1, .ref q336077)]) dr_cX17_share_152 (Nat.le_of_ble_eq_true rfl) rfl ?_
        have hlp153_355829 : ∀ (n153_355829 : Nat) (F355824 : Nat → va_E) (g355823 : Int32), gB g355823 0 1000000 → RS D I P336074 F355824 γ el → rStr γ [1] F336075 F355824 → (∀ q : Nat, (q : Int) < ((γ 7 (γ 1 q336077) : Nat) : Int) → 0 ≤ (cB (F355824 (γ 9 19)) q).toInt ∧ (cB (F355824 (γ 9 19)) q).toInt ≤ q) → (F355824 q336076 = F336075 q336076) → mKp (F336075 q336076) (F355824 q336076) → ((1000001 : Int) - g355823.toInt).toNat < n153_355829 → G (gV D I) l (gRm 6 141 0 0) (gMA (gV D I) (pt_336080_SpillForgeModel_share D I γ el P336074 F336075 q336076 q336077) gNA 0 0) ky_336080_SpillForgeModel_share 153 [(3, .int g355823), (2, .int g355470), (0, .ref q336076), (1, .ref q336077)] [] (va_pl P336074 F355824) 0 0 := by
          intro n153_355829
          induction n153_355829 with
          | zero => intro F355824 g355823 bg355823 hT355825 hs355826 x355827 x355828 x355829 hm153_355829; exact absurd hm153_355829 (Nat.not_lt_zero _)
          | succ n153_355829 ih153_355829 =>
            intro F355824 g355823 bg355823 hT355825 hs355826 x355827 x355828 x355829 hm153_355829
            have hs355831 : rStr γ [1] F355471 F355824 := fun b h0 hb hw => (hs355826 b h0 hb hw).trans (hs355473 b h0 hb hw).symm
            have hs355832 : rStr γ [1] F336075 F355824 := rStr_tr hs355473 hs355831
            have he355833 : F355824 q336076 = .inr (22, [.ref (γ 9 0), .ref (γ 9 1), .ref (γ 9 2), .ref (γ 9 3), .ref (γ 9 4), .ref (γ 9 5), .ref (γ 9 6), .ref (γ 9 7), .ref (γ 9 8), .int p336085, .int p336086, .int p336087, .int p336088, .int p336089, .int p336090, .ref (γ 9 15), .ref (γ 9 16), .ref (γ 9 17), .ref (γ 9 18), .ref (γ 9 19), .ref (γ 9 20), .ref (γ 9 21), .ref (γ 9 22), .int p336091, .int p336092, .int p336093, .int p336094, .int p336095, .ref q336083, .ref (γ 9 29), .int p336096, .ref (γ 9 31), .int p336097, .int p336098, .int p336099, .ref q336084]) := x355828.trans he336082
            have hm355834 : q336076 ∈ P336074 := RS_m hT355825 htq336076 (by decide)
            have hm355835 : (γ 9 19) ∈ P336074 := RS_m hT355825 ht336115 (by decide)
            obtain ⟨f355837, he355836, bf355837⟩ := show rk_21 I (F355824 (γ 9 19)) from RS_o hT355825 ht336115
            have cq355838 := x355827
            rw [cB_of he355836] at cq355838
            refine G_iload_n 0 dr_cX17_share_153 rfl ?_
            refine G_aload_n 3 dr_cX17_share_154 rfl ?_
            have hm355839 : q336077 ∈ P336074 := RS_m hT355825 htq336077 (by decide)
            obtain ⟨q355841, q355842, p355843, p355844, he355840, ht355860, ht355845, ht355846, ht355847, ht355848, r355849, r355850, r355851, r355852, r355853, r355854, r355855, r355856, r355857, r355858, r355859⟩ := show rk_9 γ el q336077 (F355824 q336077) from RS_o hT355825 htq336077
            have bp355843 : gB p355843 0 1000000 := ⟨by omega, by omega⟩
            have bp355844 : gB p355844 0 1000000 := ⟨by omega, by omega⟩
            refine Gw_callV (As := []) (gV_ok D I) (cp_12496_Code_size l hl0 D I P336074 F355824 q336077 q355841 q355842 p355843 p355844 hm355839 he355840) dr_cX17_share_155 ⟨wr_10_156, wr_1_15, wr_9_127, by decide, rfl, (Nat.le_of_ble_eq_true rfl), (Nat.le_of_ble_eq_true rfl)⟩ wr_9_125 wr_9_126 hm355839 he355840 rfl (show 0 + 0 ≤ 0 by first | omega | decide) (show 0 + 0 ≤ 0 by first | omega | decide) (Nat.le_of_ble_eq_true rfl) (fun r355864 w355865 dc355861 ds355862 hp355863 => ?_) (fun _ _ _ _ _ z => z.elim)
            obtain ⟨rfl, rfl, hdc, hds⟩ := hp355863
            change G _ _ _ _ _ _ _ (.int p355844 :: _) _ _ _
            refine G_widen (cs' := 0) (sl' := 0) (by omega) (by omega) ?_
            refine G_icmp_ge 246 dr_cX17_share_158 (by decide +kernel) (fun hc355866 => ?_) (fun hc355866 => ?_)
            · have r355867 : p355844.toInt ≤ g355823.toInt := gC_le hc355866
              refine G_aload_n 2 dr_cX17_share_246 rfl ?_
              refine G_iload_n 1 dr_cX17_share_247 rfl ?_
              refine Gp_put 11 hm355834 he355833 dr_cX17_share_248 (gk_X17 D I) (Nat.le_of_ble_eq_true rfl) wr_7_85 rfl rfl rfl (Nat.le_of_ble_eq_true rfl) (fun F355868 e355869 n355870 => ?_)
              have he355871 : F355868 (γ 9 19) = .inl (I .int, 2000, .inl f355837) := (n355870 (γ 9 19) (rn_ao he355836 he355833)).trans he355836
              have he355872 : F355868 q336077 = .inr (18, [.ref q355841, .ref q355842, .int p355843, .int p355844]) := (n355870 q336077 (rn_oo he355840 he355833 (by decide))).trans he355840
              have he355873 : F355868 q336076 = .inr (22, [.ref (γ 9 0), .ref (γ 9 1), .ref (γ 9 2), .ref (γ 9 3), .ref (γ 9 4), .ref (γ 9 5), .ref (γ 9 6), .ref (γ 9 7), .ref (γ 9 8), .int p336085, .int p336086, .int g355470, .int p336088, .int p336089, .int p336090, .ref (γ 9 15), .ref (γ 9 16), .ref (γ 9 17), .ref (γ 9 18), .ref (γ 9 19), .ref (γ 9 20), .ref (γ 9 21), .ref (γ 9 22), .int p336091, .int p336092, .int p336093, .int p336094, .int p336095, .ref q336083, .ref (γ 9 29), .int p336096, .ref (γ 9 31), .int p336097, .int p336098, .int p336099, .ref q336084]) := e355869
              have mk355874 : mKp (F336075 q336076) (F355868 q336076) := mKp_tr x355829 (by rw [he355833, he355873]; exact ⟨rfl, rfl⟩)
              have hs355875 : rStr γ [1] F336075 F355868 := rStr_put hs355826 n355870 htq336076 (by decide)
              have hT355876 : RS D I P336074 F355868 γ el := RS_set hT355825 n355870 htq336076 (by decide) ⟨q336083, q336084, p336085, p336086, g355470, p336088, p336089, p336090, p336091, p336092, p336093, p336094, p336095, p336096, p336097, p336098, p336099, he355873, ⟨(hB336126.1), (hB336126.2.1), ⟨by omega, by omega⟩, (hB336126.2.2.2.1), (hB336126.2.2.2.2.1), (hB336126.2.2.2.2.2.1), (hB336126.2.2.2.2.2.2.1), (hB336126.2.2.2.2.2.2.2.1), (hB336126.2.2.2.2.2.2.2.2)⟩, ht336100, ht336101, ht336102, ht336103, ht336104, ht336105, ht336106, ht336107, ht336108, ht336109, ht336110, ht336111, ht336112, ht336113, ht336114, ht336115, ht336116, ht336117, ht336118, ht336119, ht336120, ht336121, ht336122, ht336123, hB336127⟩
              exact G_vretA dr_cX17_share_251 rfl (Nat.le_of_ble_eq_true rfl) (Nat.le_of_ble_eq_true rfl) ⟨F355868, rfl, rfl, hT355876, hs355875, (Nat.le_of_ble_eq_true rfl), (Nat.le_of_ble_eq_true rfl), mk355874⟩
            · have r355877 : g355823.toInt < p355844.toInt := gC_nle hc355866
              have bg355823' : gB g355823 0 999999 := ⟨by omega, by omega⟩
              have bp355844' : gB p355844 1 1000000 := ⟨by omega, by omega⟩
              refine G_aload_n 3 dr_cX17_share_161 rfl ?_
              refine G_iload_n 0 dr_cX17_share_162 rfl ?_
              have hm355878 : q355841 ∈ P336074 := RS_m hT355825 ht355845 (by decide)
              obtain ⟨⟨p355880, p355881, q355882, he355879, r355883, r355884, r355885, r355887⟩, r355886⟩ := show rk_4 D I γ el F355824 q355841 from RS_o hT355825 ht355845
              have bp355880 := gB_any p355880
              have bp355881 : gB p355881 0 1000000 := ⟨by omega, by omega⟩
              obtain ⟨r355888, r355889, n355896, f355897, r355890, r355891, r355892, r355893, r355894, r355895⟩ := rLC_n r355885 (by omega)
              have hm355898 : q355882 ∈ P336074 := RS_m hT355825 r355888 (by decide)
              obtain ⟨q355899, hx355900⟩ : ∃ x, x = el q355841 g355823.toInt.toNat := ⟨_, rfl⟩
              have hx355901 : f355897 g355823.toNatClampNeg = some q355899 := (r355894 _ (show g355823.toInt.toNat < γ 2 q355841 by omega)).trans (by rw [hx355900])
              have ht355904 : rKd γ q355899 2 := by rw [hx355900]; exact (r355856 _ (by omega)).resolve_right (fun z => absurd z.1 (by omega))
              have ht355905 : rFm γ q355899 q355841 := by rw [hx355900]; exact (r355886 _ (show g355823.toInt.toNat < γ 2 q355841 by omega)).2.1
              have hm355906 : q355899 ∈ P336074 := RS_m hT355825 ht355904 (by decide)
              obtain ⟨q355908, q355909, p355910, p355911, he355907, ht355918, ht355912, ht355913, ht355914, ht355915, ht355916, bp355910, bp355911, r355917, r355919, r355920⟩ := show rk_2 γ q355899 (F355824 q355899) from RS_o hT355825 ht355904
              refine Gw_callV (As := [.int g355823]) (gV_ok D I) (cp_7737_Code_get l hl0 D I P336074 F355824 q336077 q355841 q355882 g355823 q355842 p355843 p355844 p355880 p355881 f355897 n355896 q355899 q355908 q355909 p355910 p355911 hm355839 hm355878 hm355898 hm355906 he355840 he355879 r355890 he355907 (gB_w bg355823' (by decide) (by decide)) (gB_w bp355881 (by decide) (by decide)) (by omega) (by omega) (by assumption) (by omega)) dr_cX17_share_163 ⟨wr_10_157, wr_1_15, wr_10_137, by decide, rfl, (Nat.le_of_ble_eq_true rfl), (Nat.le_of_ble_eq_true rfl)⟩ wr_10_135 wr_10_136 hm355839 he355840 rfl (show 0 + 0 ≤ 0 by first | omega | decide) (show 0 + 0 ≤ 0 by first | omega | decide) (Nat.le_of_ble_eq_true rfl) (fun r355924 w355925 dc355921 ds355922 hp355923 => ?_) (fun _ _ _ _ _ z => z.elim)
              obtain ⟨rfl, rfl, hdc, hds⟩ := hp355923
              change G _ _ _ _ _ _ _ (.ref q355899 :: _) _ _ _
              refine G_widen (cs' := 0) (sl' := 0) (by omega) (by omega) ?_
              refine G_astore (L' := [(4, .ref q355899), (3, .int g355823), (2, .int g355470), (0, .ref q336076), (1, .ref q336077)]) dr_cX17_share_166 (Nat.le_of_ble_eq_true rfl) rfl ?_
              refine G_iconst 0 dr_cX17_share_168 (by decide +kernel) ?_
              refine G_istore (L' := [(5, .int 0), (4, .ref q355899), (3, .int g355823), (2, .int g355470), (0, .ref q336076), (1, .ref q336077)]) dr_cX17_share_169 (Nat.le_of_ble_eq_true rfl) rfl ?_
              have hlp171_356048 : ∀ (n171_356048 : Nat) (F356043 : Nat → va_E) (g356042 : Int32), gB g356042 0 1000000 → RS D I P336074 F356043 γ el → rStr γ [1] F336075 F356043 → (∀ q : Nat, (q : Int) < ((γ 7 (γ 1 q336077) : Nat) : Int) → 0 ≤ (cB (F356043 (γ 9 19)) q).toInt ∧ (cB (F356043 (γ 9 19)) q).toInt ≤ q) → (F356043 q336076 = F336075 q336076) → mKp (F336075 q336076) (F356043 q336076) → ((1000001 : Int) - g356042.toInt).toNat < n171_356048 → G (gV D I) l (gRm 6 141 0 0) (gMA (gV D I) (pt_336080_SpillForgeModel_share D I γ el P336074 F336075 q336076 q336077) gNA 0 0) ky_336080_SpillForgeModel_share 171 [(5, .int g356042), (4, .ref q355899), (3, .int g355823), (2, .int g355470), (0, .ref q336076), (1, .ref q336077)] [] (va_pl P336074 F356043) 0 0 := by
                intro n171_356048
                induction n171_356048 with
                | zero => intro F356043 g356042 bg356042 hT356044 hs356045 x356046 x356047 x356048 hm171_356048; exact absurd hm171_356048 (Nat.not_lt_zero _)
                | succ n171_356048 ih171_356048 =>
                  intro F356043 g356042 bg356042 hT356044 hs356045 x356046 x356047 x356048 hm171_356048
                  have hs356050 : rStr γ [1] F355824 F356043 := fun b h0 hb hw => (hs356045 b h0 hb hw).trans (hs355826 b h0 hb hw).symm
                  have he356051 : F356043 q336077 = .inr (18, [.ref q355841, .ref q355842, .int p355843, .int p355844]) := (hs356050 q336077 (rT0 htq336077 (by decide)) (rT1 htq336077 (by decide)) (rT2 htq336077 (by decide))).trans he355840
                  have he356052 : F356043 q355841 = .inr (4, [.int p355880, .ref q355882, .int p355881]) := (hs356050 q355841 (rT0 ht355845 (by decide)) (rT1 ht355845 (by decide)) (rT2 ht355845 (by decide))).trans he355879
                  have he356053 : F356043 q355882 = .inl (I (.object "java/lang/Object"), n355896, .inr (.inr (.inr (.inr f355897)))) := (hs356050 q355882 (rT0 r355888 (by decide)) (rT1 r355888 (by decide)) (rT2 r355888 (by decide))).trans r355890
                  have he356054 : F356043 q355899 = .inr (17, [.ref q355908, .ref q355909, .int p355910, .int p355911]) := (hs356050 q355899 (rT0 ht355904 (by decide)) (rT1 ht355904 (by decide)) (rT2 ht355904 (by decide))).trans he355907
                  have hs356055 : rStr γ [1] F336075 F356043 := rStr_tr hs355826 hs356050
                  have he356056 : F356043 q336076 = .inr (22, [.ref (γ 9 0), .ref (γ 9 1), .ref (γ 9 2), .ref (γ 9 3), .ref (γ 9 4), .ref (γ 9 5), .ref (γ 9 6), .ref (γ 9 7), .ref (γ 9 8), .int p336085, .int p336086, .int p336087, .int p336088, .int p336089, .int p336090, .ref (γ 9 15), .ref (γ 9 16), .ref (γ 9 17), .ref (γ 9 18), .ref (γ 9 19), .ref (γ 9 20), .ref (γ 9 21), .ref (γ 9 22), .int p336091, .int p336092, .int p336093, .int p336094, .int p336095, .ref q336083, .ref (γ 9 29), .int p336096, .ref (γ 9 31), .int p336097, .int p336098, .int p336099, .ref q336084]) := x356047.trans he336082
                  have hm356057 : q336076 ∈ P336074 := RS_m hT356044 htq336076 (by decide)
                  have hm356058 : (γ 9 19) ∈ P336074 := RS_m hT356044 ht336115 (by decide)
                  obtain ⟨f356060, he356059, bf356060⟩ := show rk_21 I (F356043 (γ 9 19)) from RS_o hT356044 ht336115
                  have cq356061 := x356046
                  rw [cB_of he356059] at cq356061
                  refine G_iload 0 dr_cX17_share_171 rfl ?_
                  refine G_aload 1 dr_cX17_share_173 rfl ?_
                  refine Gp_get 0 hm355906 he356054 dr_cX17_share_175 (gk_X12 D I) (Nat.le_of_ble_eq_true rfl) wr_9_216 rfl ?_
                  have hm356062 : q355908 ∈ P336074 := RS_m hT356044 ht355912 (by decide)
                  obtain ⟨⟨p356064, p356065, q356066, he356063, r356067, r356068, r356069, r356071⟩, r356070⟩ := show rk_3 D I γ el F356043 q355908 from RS_o hT356044 ht355912
                  have bp356064 := gB_any p356064
                  have bp356065 : gB p356065 0 1000000 := ⟨by omega, by omega⟩
                  refine Gw_callV (As := []) (gV_ok D I) (cp_7_ArrayList_size l hl0 D I P336074 F356043 q355908 p356064 q356066 p356065 hm356062 he356063 (gB_w bp356065 (by decide) (by decide))) dr_cX17_share_178 ⟨wr_10_196, wr_1_18, wr_9_156, by decide, rfl, (Nat.le_of_ble_eq_true rfl), (Nat.le_of_ble_eq_true rfl)⟩ wr_9_154 wr_9_155 hm356062 he356063 rfl (show 0 + 0 ≤ 0 by first | omega | decide) (show 0 + 0 ≤ 0 by first | omega | decide) (Nat.le_of_ble_eq_true rfl) (fun r356075 w356076 dc356072 ds356073 hp356074 => ?_) (fun _ _ _ _ _ z => z.elim)
                  obtain ⟨rfl, rfl, hdc, hds⟩ := hp356074
                  change G _ _ _ _ _ _ _ (.int p356065 :: _) _ _ _
                  refine G_widen (cs' := 0) (sl' := 0) (by omega) (by omega) ?_
                  refine G_icmp_ge 240 dr_cX17_share_181 (by decide +kernel) (fun hc356077 => ?_) (fun hc356077 => ?_)
                  · have r356078 : p356065.toInt ≤ g356042.toInt := gC_le hc356077
                    obtain ⟨z356079, hz356079⟩ : ∃ z : Int32, z = g355823 + Int32.ofInt 1 := ⟨_, rfl⟩
                    have ez356079 : z356079.toInt = g355823.toInt + 1 := gI_inc hz356079 (by decide) bg355823' (by decide) (by decide)
                    have bz356079 : gB z356079 1 1000000 := ⟨by omega, by omega⟩
                    refine G_iinc (L' := [(3, .int z356079), (5, .int g356042), (4, .ref q355899), (2, .int g355470), (0, .ref q336076), (1, .ref q336077)]) z356079 2 dr_cX17_share_240 rfl hz356079.symm (Nat.le_of_ble_eq_true rfl) rfl ?_
                    refine G_goto 153 dr_cX17_share_243 (by decide +kernel) ?_
                    refine G_lv (L' := [(3, .int z356079), (2, .int g355470), (0, .ref q336076), (1, .ref q336077)]) [0, 3, 4, 5] rfl ?_
                    exact ih153_355829 F356043 z356079 (gB_w bz356079 (by decide) (by decide)) hT356044 hs356045 (by rw [cB_of he356059]; exact cq356061) x356047 x356048 (mz_up ez356079 (Int.le_trans bg355823'.2 (by decide)) hm153_355829)
                  · have r356080 : g356042.toInt < p356065.toInt := gC_nle hc356077
                    have bg356042' : gB g356042 0 999999 := ⟨by omega, by omega⟩
                    have bp356065' : gB p356065 1 1000000 := ⟨by omega, by omega⟩
                    refine G_aload 1 dr_cX17_share_184 rfl ?_
                    refine Gp_get 0 hm355906 he356054 dr_cX17_share_186 (gk_X12 D I) (Nat.le_of_ble_eq_true rfl) wr_9_216 rfl ?_
                    refine G_iload 0 dr_cX17_share_189 rfl ?_
                    obtain ⟨r356081, r356082, n356089, f356090, r356083, r356084, r356085, r356086, r356087, r356088⟩ := rLC_n r356069 (by omega)
                    have hm356091 : q356066 ∈ P336074 := RS_m hT356044 r356081 (by decide)
                    obtain ⟨q356092, hx356093⟩ : ∃ x, x = el q355908 g356042.toInt.toNat := ⟨_, rfl⟩
                    have hx356094 : f356090 g356042.toNatClampNeg = some q356092 := (r356087 _ (show g356042.toInt.toNat < γ 2 q355908 by omega)).trans (by rw [hx356093])
                    have ht356095 : rKd γ q356092 1 := by rw [hx356093]; exact (r356070 _ (show g356042.toInt.toNat < γ 2 q355908 by omega)).1
                    have ht356096 : rFm γ q356092 q355908 := by rw [hx356093]; exact (r356070 _ (show g356042.toInt.toNat < γ 2 q355908 by omega)).2.1
                    refine Gw_callV (As := [.int g356042]) (gV_ok D I) (cp_22_ArrayList_get l hl0 D I P336074 F356043 q355908 q356066 g356042 p356064 p356065 f356090 n356089 q356092 hm356062 hm356091 he356063 r356083 (gB_w bg356042' (by decide) (by decide)) (gB_w bp356065' (by decide) (by decide)) (by omega) (by omega) (by assumption) (by omega)) dr_cX17_share_191 ⟨wr_10_197, wr_1_18, wr_10_61, by decide, rfl, (Nat.le_of_ble_eq_true rfl), (Nat.le_of_ble_eq_true rfl)⟩ wr_10_59 wr_10_60 hm356062 he356063 rfl (show 0 + 0 ≤ 0 by first | omega | decide) (show 0 + 0 ≤ 0 by first | omega | decide) (Nat.le_of_ble_eq_true rfl) (fun r356100 w356101 dc356097 ds356098 hp356099 => ?_) (fun _ _ _ _ _ z => z.elim)
                    obtain ⟨rfl, rfl, hdc, hds⟩ := hp356099
                    change G _ _ _ _ _ _ _ (.ref q356092 :: _) _ _ _
                    refine G_widen (cs' := 0) (sl' := 0) (by omega) (by omega) ?_
                    have hm356102 : q356092 ∈ P336074 := RS_m hT356044 ht356095 (by decide)
                    obtain ⟨p356104, p356105, p356106, p356107, p356108, p356109, p356110, he356103, bp356104, bp356105, bp356108, bp356109, bp356110, r356111, r356112, r356113, r356114, r356115⟩ := show rk_1 γ q356092 (F356043 q356092) from RS_o hT356044 ht356095
                    have bp356106 := gB_any p356106
                    have bp356107 := gB_any p356107
                    refine Gp_cast hm356102 he356103 rfl dr_cX17_share_194 wr_10_198 (gr_cast 1 rfl) ?_
                    refine G_astore (L' := [(6, .ref q356092), (5, .int g356042), (4, .ref q355899), (3, .int g355823), (2, .int g355470), (0, .ref q336076), (1, .ref q336077)]) dr_cX17_share_197 (Nat.le_of_ble_eq_true rfl) rfl ?_
                    refine G_aload 0 dr_cX17_share_199 rfl ?_
                    refine Gp_get 0 hm356102 he356103 dr_cX17_share_201 (gk_X15 D I) (Nat.le_of_ble_eq_true rfl) wr_9_173 rfl ?_
                    refine G_bipush 21 dr_cX17_share_204 (by decide +kernel) ?_
                    refine G_icmp_eq 219 dr_cX17_share_206 (by decide +kernel) (fun hc356116 => ?_) (fun hc356116 => ?_)
                    · have r356117 : p356104.toInt = 21 := gj_eq hc356116 (show Int32.toInt 21 = 21 by decide)
                      have bp356104' : gB p356104 21 21 := ⟨by omega, by omega⟩
                      refine G_aload 0 dr_cX17_share_219 rfl ?_
                      refine G_aload_n 5 dr_cX17_share_221 rfl ?_
                      refine Gp_get 19 hm356057 he356056 dr_cX17_share_222 (gk_X17 D I) (Nat.le_of_ble_eq_true rfl) wr_7_93 rfl ?_
                      refine G_aload 0 dr_cX17_share_225 rfl ?_
                      refine Gp_get 4 hm356102 he356103 dr_cX17_share_227 (gk_X15 D I) (Nat.le_of_ble_eq_true rfl) wr_9_189 rfl ?_
                      refine Gp_iald 0 hm356058 he356059 dr_cX17_share_230 rfl (gB_in bp356108 (by decide) (by decide)) (G_nam fun z356118 hz356118 => ?_)
                      have bz356118 : gB z356118 (-1) 1999 := by rw [hz356118]; exact bf356060 _
                      have r356119 : γ 7 (γ 1 q356092) = γ 7 (γ 1 q336077) := by rw [show γ 1 q356092 = γ 1 q355908 from ht356096, show γ 1 q355908 = γ 1 q355899 from ht355913, show γ 1 q355899 = γ 1 q355841 from ht355905, show γ 1 q355841 = γ 1 q336077 from ht355846]
                      have r356120 : 0 ≤ z356118.toInt ∧ z356118.toInt ≤ (p356108.toInt.toNat : Int) := by rw [hz356118]; exact cq356061 p356108.toInt.toNat (by omega)
                      have bz356118' : gB z356118 0 1999 := ⟨by omega, by omega⟩
                      refine Gp_put 4 hm356102 he356103 dr_cX17_share_231 (gk_X15 D I) (Nat.le_of_ble_eq_true rfl) wr_9_189 rfl rfl rfl (Nat.le_of_ble_eq_true rfl) (fun F356121 e356122 n356123 => ?_)
                      have he356124 : F356121 q336077 = .inr (18, [.ref q355841, .ref q355842, .int p355843, .int p355844]) := (n356123 q336077 (rn_oo he356051 he356103 (by decide))).trans he356051
                      have he356125 : F356121 q355841 = .inr (4, [.int p355880, .ref q355882, .int p355881]) := (n356123 q355841 (rn_oo he356052 he356103 (by decide))).trans he356052
                      have he356126 : F356121 q355882 = .inl (I (.object "java/lang/Object"), n355896, .inr (.inr (.inr (.inr f355897)))) := (n356123 q355882 (rn_ao he356053 he356103)).trans he356053
                      have he356127 : F356121 q355899 = .inr (17, [.ref q355908, .ref q355909, .int p355910, .int p355911]) := (n356123 q355899 (rn_oo he356054 he356103 (by decide))).trans he356054
                      have he356128 : F356121 q336076 = .inr (22, [.ref (γ 9 0), .ref (γ 9 1), .ref (γ 9 2), .ref (γ 9 3), .ref (γ 9 4), .ref (γ 9 5), .ref (γ 9 6), .ref (γ 9 7), .ref (γ 9 8), .int p336085, .int p336086, .int p336087, .int p336088, .int p336089, .int p336090, .ref (γ 9 15), .ref (γ 9 16), .ref (γ 9 17), .ref (γ 9 18), .ref (γ 9 19), .ref (γ 9 20), .ref (γ 9 21), .ref (γ 9 22), .int p336091, .int p336092, .int p336093, .int p336094, .int p336095, .ref q336083, .ref (γ 9 29), .int p336096, .ref (γ 9 31), .int p336097, .int p336098, .int p336099, .ref q336084]) := (n356123 q336076 (rn_oo he356056 he356103 (by decide))).trans he356056
                      have he356129 : F356121 (γ 9 19) = .inl (I .int, 2000, .inl f356060) := (n356123 (γ 9 19) (rn_ao he356059 he356103)).trans he356059
                      have he356130 : F356121 q355908 = .inr (4, [.int p356064, .ref q356066, .int p356065]) := (n356123 q355908 (rn_oo he356063 he356103 (by decide))).trans he356063
                      have he356131 : F356121 q356066 = .inl (I (.object "java/lang/Object"), n356089, .inr (.inr (.inr (.inr f356090)))) := (n356123 q356066 (rn_ao r356083 he356103)).trans r356083
                      have he356132 : F356121 q356092 = .inr (20, [.int p356104, .int p356105, .int p356106, .int p356107, .int z356118, .int p356109, .int p356110]) := e356122
                      have mk356133 : mKp (F336075 q336076) (F356121 q336076) := mKp_tr x356048 (mKp_eq (n356123 q336076 (rn_ty htq336076 ht356095 (by decide))))
                      have hs356134 : rStr γ [1] F336075 F356121 := rStr_pu2 hs356045 n356123 ht356095 (by decide)
                      have kp356135 : F356121 q336076 = F336075 q336076 := (n356123 q336076 (rn_ty htq336076 ht356095 (by decide))).trans x356047
                      obtain ⟨z356136, hz356136⟩ : ∃ z : Int32, z = g356042 + Int32.ofInt 1 := ⟨_, rfl⟩
                      have ez356136 : z356136.toInt = g356042.toInt + 1 := gI_inc hz356136 (by decide) bg356042' (by decide) (by decide)
                      have bz356136 : gB z356136 1 1000000 := ⟨by omega, by omega⟩
                      refine G_iinc (L' := [(5, .int z356136), (6, .ref q356092), (4, .ref q355899), (3, .int g355823), (2, .int g355470), (0, .ref q336076), (1, .ref q336077)]) z356136 1 dr_cX17_share_234 rfl hz356136.symm (Nat.le_of_ble_eq_true rfl) rfl ?_
                      refine G_goto 171 dr_cX17_share_237 (by decide +kernel) ?_
                      have hT356137 : RS D I P336074 F356121 γ el := RS_set hT356044 n356123 ht356095 (by decide) ⟨p356104, p356105, p356106, p356107, z356118, p356109, p356110, he356132, (gB_w bp356104' (by decide) (by decide)), bp356105, bz356118', bp356109, bp356110, (by omega), (by omega), (by omega), (by omega), (by omega)⟩
                      refine G_lv (L' := [(5, .int z356136), (4, .ref q355899), (3, .int g355823), (2, .int g355470), (0, .ref q336076), (1, .ref q336077)]) [0, 2, 3, 4, 5, 6] rfl ?_
                      exact ih171_356048 F356121 z356136 (gB_w bz356136 (by decide) (by decide)) hT356137 hs356134 (by rw [cB_of he356129]; exact cq356061) kp356135 mk356133 (mz_up ez356136 (Int.le_trans bg356042'.2 (by decide)) hm171_356048)
                    · have r356138 : p356104.toInt ≠ 21 := gj_neq hc356116 (show Int32.toInt 21 = 21 by decide)
                      refine G_aload 0 dr_cX17_share_209 rfl ?_
                      refine Gp_get 0 hm356102 he356103 dr_cX17_share_211 (gk_X15 D I) (Nat.le_of_ble_eq_true rfl) wr_9_173 rfl ?_
                      refine G_bipush 23 dr_cX17_share_214 (by decide +kernel) ?_
                      refine G_icmp_ne 234 dr_cX17_share_216 (by decide +kernel) (fun hc356139 => ?_) (fun hc356139 => ?_)
                      · have r356140 : p356104.toInt ≠ 23 := gj_neq hc356139 (show Int32.toInt 23 = 23 by decide)
                        obtain ⟨z356141, hz356141⟩ : ∃ z : Int32, z = g356042 + Int32.ofInt 1 := ⟨_, rfl⟩
                        have ez356141 : z356141.toInt = g356042.toInt + 1 := gI_inc hz356141 (by decide) bg356042' (by decide) (by decide)
                        have bz356141 : gB z356141 1 1000000 := ⟨by omega, by omega⟩
                        refine G_iinc (L' := [(5, .int z356141), (6, .ref q356092), (4, .ref q355899), (3, .int g355823), (2, .int g355470), (0, .ref q336076), (1, .ref q336077)]) z356141 1 dr_cX17_share_234 rfl hz356141.symm (Nat.le_of_ble_eq_true rfl) rfl ?_
                        refine G_goto 171 dr_cX17_share_237 (by decide +kernel) ?_
                        refine G_lv (L' := [(5, .int z356141), (4, .ref q355899), (3, .int g355823), (2, .int g355470), (0, .ref q336076), (1, .ref q336077)]) [0, 2, 3, 4, 5, 6] rfl ?_
                        exact ih171_356048 F356043 z356141 (gB_w bz356141 (by decide) (by decide)) hT356044 hs356045 (by rw [cB_of he356059]; exact cq356061) x356047 x356048 (mz_up ez356141 (Int.le_trans bg356042'.2 (by decide)) hm171_356048)
                      · have r356142 : p356104.toInt = 23 := gj_eq hc356139 (show Int32.toInt 23 = 23 by decide)
                        have bp356104' : gB p356104 23 23 := ⟨by omega, by omega⟩
                        refine G_aload 0 dr_cX17_share_219 rfl ?_
                        refine G_aload_n 5 dr_cX17_share_221 rfl ?_
                        refine Gp_get 19 hm356057 he356056 dr_cX17_share_222 (gk_X17 D I) (Nat.le_of_ble_eq_true rfl) wr_7_93 rfl ?_
                        refine G_aload 0 dr_cX17_share_225 rfl ?_
                        refine Gp_get 4 hm356102 he356103 dr_cX17_share_227 (gk_X15 D I) (Nat.le_of_ble_eq_true rfl) wr_9_189 rfl ?_
                        refine Gp_iald 0 hm356058 he356059 dr_cX17_share_230 rfl (gB_in bp356108 (by decide) (by decide)) (G_nam fun z356143 hz356143 => ?_)
                        have bz356143 : gB z356143 (-1) 1999 := by rw [hz356143]; exact bf356060 _
                        have r356144 : γ 7 (γ 1 q356092) = γ 7 (γ 1 q336077) := by rw [show γ 1 q356092 = γ 1 q355908 from ht356096, show γ 1 q355908 = γ 1 q355899 from ht355913, show γ 1 q355899 = γ 1 q355841 from ht355905, show γ 1 q355841 = γ 1 q336077 from ht355846]
                        have r356145 : 0 ≤ z356143.toInt ∧ z356143.toInt ≤ (p356108.toInt.toNat : Int) := by rw [hz356143]; exact cq356061 p356108.toInt.toNat (by omega)
                        have bz356143' : gB z356143 0 1999 := ⟨by omega, by omega⟩
                        refine Gp_put 4 hm356102 he356103 dr_cX17_share_231 (gk_X15 D I) (Nat.le_of_ble_eq_true rfl) wr_9_189 rfl rfl rfl (Nat.le_of_ble_eq_true rfl) (fun F356146 e356147 n356148 => ?_)
                        have he356149 : F356146 q336077 = .inr (18, [.ref q355841, .ref q355842, .int p355843, .int p355844]) := (n356148 q336077 (rn_oo he356051 he356103 (by decide))).trans he356051
                        have he356150 : F356146 q355841 = .inr (4, [.int p355880, .ref q355882, .int p355881]) := (n356148 q355841 (rn_oo he356052 he356103 (by decide))).trans he356052
                        have he356151 : F356146 q355882 = .inl (I (.object "java/lang/Object"), n355896, .inr (.inr (.inr (.inr f355897)))) := (n356148 q355882 (rn_ao he356053 he356103)).trans he356053
                        have he356152 : F356146 q355899 = .inr (17, [.ref q355908, .ref q355909, .int p355910, .int p355911]) := (n356148 q355899 (rn_oo he356054 he356103 (by decide))).trans he356054
                        have he356153 : F356146 q336076 = .inr (22, [.ref (γ 9 0), .ref (γ 9 1), .ref (γ 9 2), .ref (γ 9 3), .ref (γ 9 4), .ref (γ 9 5), .ref (γ 9 6), .ref (γ 9 7), .ref (γ 9 8), .int p336085, .int p336086, .int p336087, .int p336088, .int p336089, .int p336090, .ref (γ 9 15), .ref (γ 9 16), .ref (γ 9 17), .ref (γ 9 18), .ref (γ 9 19), .ref (γ 9 20), .ref (γ 9 21), .ref (γ 9 22), .int p336091, .int p336092, .int p336093, .int p336094, .int p336095, .ref q336083, .ref (γ 9 29), .int p336096, .ref (γ 9 31), .int p336097, .int p336098, .int p336099, .ref q336084]) := (n356148 q336076 (rn_oo he356056 he356103 (by decide))).trans he356056
                        have he356154 : F356146 (γ 9 19) = .inl (I .int, 2000, .inl f356060) := (n356148 (γ 9 19) (rn_ao he356059 he356103)).trans he356059
                        have he356155 : F356146 q355908 = .inr (4, [.int p356064, .ref q356066, .int p356065]) := (n356148 q355908 (rn_oo he356063 he356103 (by decide))).trans he356063
                        have he356156 : F356146 q356066 = .inl (I (.object "java/lang/Object"), n356089, .inr (.inr (.inr (.inr f356090)))) := (n356148 q356066 (rn_ao r356083 he356103)).trans r356083
                        have he356157 : F356146 q356092 = .inr (20, [.int p356104, .int p356105, .int p356106, .int p356107, .int z356143, .int p356109, .int p356110]) := e356147
                        have mk356158 : mKp (F336075 q336076) (F356146 q336076) := mKp_tr x356048 (mKp_eq (n356148 q336076 (rn_ty htq336076 ht356095 (by decide))))
                        have hs356159 : rStr γ [1] F336075 F356146 := rStr_pu2 hs356045 n356148 ht356095 (by decide)
                        have kp356160 : F356146 q336076 = F336075 q336076 := (n356148 q336076 (rn_ty htq336076 ht356095 (by decide))).trans x356047
                        obtain ⟨z356161, hz356161⟩ : ∃ z : Int32, z = g356042 + Int32.ofInt 1 := ⟨_, rfl⟩
                        have ez356161 : z356161.toInt = g356042.toInt + 1 := gI_inc hz356161 (by decide) bg356042' (by decide) (by decide)
                        have bz356161 : gB z356161 1 1000000 := ⟨by omega, by omega⟩
                        refine G_iinc (L' := [(5, .int z356161), (6, .ref q356092), (4, .ref q355899), (3, .int g355823), (2, .int g355470), (0, .ref q336076), (1, .ref q336077)]) z356161 1 dr_cX17_share_234 rfl hz356161.symm (Nat.le_of_ble_eq_true rfl) rfl ?_
                        refine G_goto 171 dr_cX17_share_237 (by decide +kernel) ?_
                        have hT356162 : RS D I P336074 F356146 γ el := RS_set hT356044 n356148 ht356095 (by decide) ⟨p356104, p356105, p356106, p356107, z356143, p356109, p356110, he356157, (gB_w bp356104' (by decide) (by decide)), bp356105, bz356143', bp356109, bp356110, (by omega), (by omega), (by omega), (by omega), (by omega)⟩
                        refine G_lv (L' := [(5, .int z356161), (4, .ref q355899), (3, .int g355823), (2, .int g355470), (0, .ref q336076), (1, .ref q336077)]) [0, 2, 3, 4, 5, 6] rfl ?_
                        exact ih171_356048 F356146 z356161 (gB_w bz356161 (by decide) (by decide)) hT356162 hs356159 (by rw [cB_of he356154]; exact cq356061) kp356160 mk356158 (mz_up ez356161 (Int.le_trans bg356042'.2 (by decide)) hm171_356048)
              exact hlp171_356048 (((1000001 : Int) - 0).toNat + 1) F355824 0 (gB_w (gBl (show Int32.toInt 0 = 0 by decide)) (by decide) (by decide)) hT355825 hs355826 (by rw [cB_of he355836]; exact cq355838) x355828 x355829 (Nat.lt_succ_self _)
        exact hlp153_355829 (((1000001 : Int) - 0).toNat + 1) F355471 0 (gB_w (gBl (show Int32.toInt 0 = 0 by decide)) (by decide) (by decide)) hT355472 hs355473 (by rw [cB_of he355484]; exact fun q hq => cq355486 q (by omega)) x355476 x355477 (Nat.lt_succ_self _)
      · have r356163 : g355469.toInt < p336087.toInt := gC_nle hc355487
        have bg355469' : gB g355469 0 99 := ⟨by omega, by omega⟩
        have bp336087' : gB p336087 1 100 := ⟨by omega, by omega⟩
        refine G_iconst 0 dr_cX17_share_18 (by decide +kernel) ?_
        refine G_istore (L' := [(4, .int 0), (3, .int g355469), (2, .int g355470), (0, .ref q336076), (1, .ref q336077)]) dr_cX17_share_19 (Nat.le_of_ble_eq_true rfl) rfl ?_
        refine G_iconst 0 dr_cX17_share_21 (by decide +kernel) ?_
        refine G_istore (L' := [(5, .int 0), (4, .int 0), (3, .int g355469), (2, .int g355470), (0, .ref q336076), (1, .ref q336077)]) dr_cX17_share_22 (Nat.le_of_ble_eq_true rfl) rfl ?_
        have hlp24_356571 : ∀ (n24_356571 : Nat) (F356566 : Nat → va_E) (g356565 : Int32), gB g356565 0 1999 → RS D I P336074 F356566 γ el → rStr γ [1] F336075 F356566 → (∀ q : Nat, (q : Int) < g355469.toInt → 0 ≤ (cB (F356566 (γ 9 19)) q).toInt ∧ (cB (F356566 (γ 9 19)) q).toInt ≤ q) → (F356566 q336076 = F336075 q336076) → mKp (F336075 q336076) (F356566 q336076) → ((2000 : Int) - g356565.toInt).toNat < n24_356571 → G (gV D I) l (gRm 6 141 0 0) (gMA (gV D I) (pt_336080_SpillForgeModel_share D I γ el P336074 F336075 q336076 q336077) gNA 0 0) ky_336080_SpillForgeModel_share 24 [(5, .int g356565), (4, .int 0), (3, .int g355469), (2, .int g355470), (0, .ref q336076), (1, .ref q336077)] [] (va_pl P336074 F356566) 0 0 := by
          intro n24_356571
          induction n24_356571 with
          | zero => intro F356566 g356565 bg356565 hT356567 hs356568 x356569 x356570 x356571 hm24_356571; exact absurd hm24_356571 (Nat.not_lt_zero _)
          | succ n24_356571 ih24_356571 =>
            intro F356566 g356565 bg356565 hT356567 hs356568 x356569 x356570 x356571 hm24_356571
            have hs356573 : rStr γ [1] F355471 F356566 := fun b h0 hb hw => (hs356568 b h0 hb hw).trans (hs355473 b h0 hb hw).symm
            have hs356574 : rStr γ [1] F336075 F356566 := rStr_tr hs355473 hs356573
            have he356575 : F356566 q336076 = .inr (22, [.ref (γ 9 0), .ref (γ 9 1), .ref (γ 9 2), .ref (γ 9 3), .ref (γ 9 4), .ref (γ 9 5), .ref (γ 9 6), .ref (γ 9 7), .ref (γ 9 8), .int p336085, .int p336086, .int p336087, .int p336088, .int p336089, .int p336090, .ref (γ 9 15), .ref (γ 9 16), .ref (γ 9 17), .ref (γ 9 18), .ref (γ 9 19), .ref (γ 9 20), .ref (γ 9 21), .ref (γ 9 22), .int p336091, .int p336092, .int p336093, .int p336094, .int p336095, .ref q336083, .ref (γ 9 29), .int p336096, .ref (γ 9 31), .int p336097, .int p336098, .int p336099, .ref q336084]) := x356570.trans he336082
            have hm356576 : q336076 ∈ P336074 := RS_m hT356567 htq336076 (by decide)
            have hm356577 : (γ 9 19) ∈ P336074 := RS_m hT356567 ht336115 (by decide)
            obtain ⟨f356579, he356578, bf356579⟩ := show rk_21 I (F356566 (γ 9 19)) from RS_o hT356567 ht336115
            have cq356580 := x356569
            rw [cB_of he356578] at cq356580
            refine G_iload 0 dr_cX17_share_24 rfl ?_
            refine G_iload_n 2 dr_cX17_share_26 rfl ?_
            refine G_icmp_ge 44 dr_cX17_share_27 (by decide +kernel) (fun hc356581 => ?_) (fun hc356581 => ?_)
            · have r356582 : g355469.toInt ≤ g356565.toInt := gC_le hc356581
              refine G_iconst 0 dr_cX17_share_44 (by decide +kernel) ?_
              refine G_istore (L' := [(5, .int 0), (4, .int 0), (3, .int g355469), (2, .int g355470), (0, .ref q336076), (1, .ref q336077)]) dr_cX17_share_45 (Nat.le_of_ble_eq_true rfl) rfl ?_
              have hlp47_356773 : ∀ (n47_356773 : Nat) (F356768 : Nat → va_E) (g356767 : Int32), gB g356767 0 99 → RS D I P336074 F356768 γ el → rStr γ [1] F336075 F356768 → (∀ q : Nat, (q : Int) < g355469.toInt → 0 ≤ (cB (F356768 (γ 9 19)) q).toInt ∧ (cB (F356768 (γ 9 19)) q).toInt ≤ q) → (F356768 q336076 = F336075 q336076) → mKp (F336075 q336076) (F356768 q336076) → ((100 : Int) - g356767.toInt).toNat < n47_356773 → G (gV D I) l (gRm 6 141 0 0) (gMA (gV D I) (pt_336080_SpillForgeModel_share D I γ el P336074 F336075 q336076 q336077) gNA 0 0) ky_336080_SpillForgeModel_share 47 [(5, .int g356767), (4, .int 0), (3, .int g355469), (2, .int g355470), (0, .ref q336076), (1, .ref q336077)] [] (va_pl P336074 F356768) 0 0 := by
                intro n47_356773
                induction n47_356773 with
                | zero => intro F356768 g356767 bg356767 hT356769 hs356770 x356771 x356772 x356773 hm47_356773; exact absurd hm47_356773 (Nat.not_lt_zero _)
                | succ n47_356773 ih47_356773 =>
                  intro F356768 g356767 bg356767 hT356769 hs356770 x356771 x356772 x356773 hm47_356773
                  have hs356775 : rStr γ [1] F356566 F356768 := fun b h0 hb hw => (hs356770 b h0 hb hw).trans (hs356568 b h0 hb hw).symm
                  have hs356776 : rStr γ [1] F336075 F356768 := rStr_tr hs356568 hs356775
                  have he356777 : F356768 q336076 = .inr (22, [.ref (γ 9 0), .ref (γ 9 1), .ref (γ 9 2), .ref (γ 9 3), .ref (γ 9 4), .ref (γ 9 5), .ref (γ 9 6), .ref (γ 9 7), .ref (γ 9 8), .int p336085, .int p336086, .int p336087, .int p336088, .int p336089, .int p336090, .ref (γ 9 15), .ref (γ 9 16), .ref (γ 9 17), .ref (γ 9 18), .ref (γ 9 19), .ref (γ 9 20), .ref (γ 9 21), .ref (γ 9 22), .int p336091, .int p336092, .int p336093, .int p336094, .int p336095, .ref q336083, .ref (γ 9 29), .int p336096, .ref (γ 9 31), .int p336097, .int p336098, .int p336099, .ref q336084]) := x356772.trans he336082
                  have hm356778 : q336076 ∈ P336074 := RS_m hT356769 htq336076 (by decide)
                  have hm356779 : (γ 9 19) ∈ P336074 := RS_m hT356769 ht336115 (by decide)
                  obtain ⟨f356781, he356780, bf356781⟩ := show rk_21 I (F356768 (γ 9 19)) from RS_o hT356769 ht336115
                  have cq356782 := x356771
                  rw [cB_of he356780] at cq356782
                  refine G_iload 0 dr_cX17_share_47 rfl ?_
                  refine G_iload_n 2 dr_cX17_share_49 rfl ?_
                  refine G_icmp_ge 96 dr_cX17_share_50 (by decide +kernel) (fun hc356783 => ?_) (fun hc356783 => ?_)
                  · have r356784 : g355469.toInt ≤ g356767.toInt := gC_le hc356783
                    have hlp96_356842 : ∀ (n96_356842 : Nat) (g356840 : Int32), gB g356840 0 99 → (∀ q : Nat, (q : Int) < g355469.toInt → 0 ≤ (cB (F356768 (γ 9 19)) q).toInt ∧ (cB (F356768 (γ 9 19)) q).toInt ≤ q) → (g356840.toInt ≤ g355469.toInt) → ((100 : Int) - g356840.toInt).toNat < n96_356842 → G (gV D I) l (gRm 6 141 0 0) (gMA (gV D I) (pt_336080_SpillForgeModel_share D I γ el P336074 F336075 q336076 q336077) gNA 0 0) ky_336080_SpillForgeModel_share 96 [(5, .int g356767), (4, .int g356840), (3, .int g355469), (2, .int g355470), (0, .ref q336076), (1, .ref q336077)] [] (va_pl P336074 F356768) 0 0 := by
                      intro n96_356842
                      induction n96_356842 with
                      | zero => intro g356840 bg356840 x356841 x356842 hm96_356842; exact absurd hm96_356842 (Nat.not_lt_zero _)
                      | succ n96_356842 ih96_356842 =>
                        intro g356840 bg356840 x356841 x356842 hm96_356842
                        have cq356844 := x356841
                        rw [cB_of he356780] at cq356844
                        refine G_iload 1 dr_cX17_share_96 rfl ?_
                        refine G_iload_n 2 dr_cX17_share_98 rfl ?_
                        refine G_icmp_ge 119 dr_cX17_share_99 (by decide +kernel) (fun hc356845 => ?_) (fun hc356845 => ?_)
                        · have r356846 : g355469.toInt ≤ g356840.toInt := gC_le hc356845
                          refine G_aload_n 4 dr_cX17_share_119 rfl ?_
                          refine Gp_get 19 hm356778 he356777 dr_cX17_share_120 (gk_X17 D I) (Nat.le_of_ble_eq_true rfl) wr_7_93 rfl ?_
                          refine G_iload_n 2 dr_cX17_share_123 rfl ?_
                          refine G_iload 1 dr_cX17_share_124 rfl ?_
                          refine Gp_iast 0 hm356779 he356780 dr_cX17_share_126 rfl (gB_in bg355469' (by decide) (by decide)) (fun F356847 e356848 n356849 => ?_)
                          obtain ⟨f356850, hf356850⟩ : ∃ z, z = upd f356781 g355469.toNatClampNeg g356840 := ⟨_, rfl⟩
                          rw [← hf356850] at e356848
                          have he356851 : F356847 q336076 = .inr (22, [.ref (γ 9 0), .ref (γ 9 1), .ref (γ 9 2), .ref (γ 9 3), .ref (γ 9 4), .ref (γ 9 5), .ref (γ 9 6), .ref (γ 9 7), .ref (γ 9 8), .int p336085, .int p336086, .int p336087, .int p336088, .int p336089, .int p336090, .ref (γ 9 15), .ref (γ 9 16), .ref (γ 9 17), .ref (γ 9 18), .ref (γ 9 19), .ref (γ 9 20), .ref (γ 9 21), .ref (γ 9 22), .int p336091, .int p336092, .int p336093, .int p336094, .int p336095, .ref q336083, .ref (γ 9 29), .int p336096, .ref (γ 9 31), .int p336097, .int p336098, .int p336099, .ref q336084]) := (n356849 q336076 (rn_oa he356777 he356780)).trans he356777
                          have he356852 : F356847 (γ 9 19) = .inl (I .int, 2000, .inl f356850) := e356848
                          have mk356853 : mKp (F336075 q336076) (F356847 q336076) := mKp_tr x356773 (mKp_eq (n356849 q336076 (rn_ty htq336076 ht336115 (by decide))))
                          have hs356854 : rStr γ [1] F336075 F356847 := rStr_put hs356770 n356849 ht336115 (by decide)
                          have kp356855 : F356847 q336076 = F336075 q336076 := (n356849 q336076 (rn_ty htq336076 ht336115 (by decide))).trans x356772
                          have bf356850 : gF f356850 (-1) 1999 := gF_upd hf356850 bf356781 (gB_w bg356840 (by decide) (by decide))
                          refine G_aload_n 4 dr_cX17_share_127 rfl ?_
                          refine Gp_get 3 hm356778 he356851 dr_cX17_share_128 (gk_X17 D I) (Nat.le_of_ble_eq_true rfl) wr_7_77 rfl ?_
                          refine G_iload_n 2 dr_cX17_share_131 rfl ?_
                          have hT356856 : RS D I P336074 F356847 γ el := RS_set hT356769 n356849 ht336115 (by decide) ⟨f356850, he356852, bf356850⟩
                          have hm356857 : (γ 9 3) ∈ P336074 := RS_m hT356856 ht336105 (by decide)
                          obtain ⟨f356859, he356858, bf356859⟩ := show rk_14 I (F356847 (γ 9 3)) from RS_o hT356856 ht336105
                          refine Gp_zald 3 hm356857 he356858 dr_cX17_share_132 rfl (gB_in bg355469' (by decide) (by decide)) (G_nam fun z356860 hz356860 => ?_)
                          have bz356860 : gB z356860 0 1 := by rw [hz356860]; exact bf356859 _
                          refine G_if_eq 145 dr_cX17_share_133 (by decide +kernel) (fun hc356861 => ?_) (fun hc356861 => ?_)
                          · have r356862 : z356860.toInt = 0 := gj_eq hc356861 (show Int32.toInt 0 = 0 by decide)
                            have bz356860' : gB z356860 0 0 := gB_t0 r356862
                            obtain ⟨z356863, hz356863⟩ : ∃ z : Int32, z = g355469 + Int32.ofInt 1 := ⟨_, rfl⟩
                            have ez356863 : z356863.toInt = g355469.toInt + 1 := gI_inc hz356863 (by decide) bg355469' (by decide) (by decide)
                            have bz356863 : gB z356863 1 100 := ⟨by omega, by omega⟩
                            refine G_iinc (L' := [(3, .int z356863), (5, .int g356767), (4, .int g356840), (2, .int g355470), (0, .ref q336076), (1, .ref q336077)]) z356863 2 dr_cX17_share_145 rfl hz356863.symm (Nat.le_of_ble_eq_true rfl) rfl ?_
                            refine G_goto 10 dr_cX17_share_148 (by decide +kernel) ?_
                            refine G_lv (L' := [(3, .int z356863), (2, .int g355470), (0, .ref q336076), (1, .ref q336077)]) [0, 3, 4, 5] rfl ?_
                            exact ih10_355477 F356847 z356863 g355470 (gB_w bz356863 (by decide) (by decide)) bg355470 hT356856 hs356854 (by rw [ez356863]; rw [cB_of he356852]; exact sl_u hf356850 (by omega) (by omega) (by omega) cq356844) (by omega) kp356855 mk356853 (mz_up ez356863 (Int.le_trans bg355469'.2 (by decide)) hm10_355477)
                          · have r356864 : z356860.toInt ≠ 0 := gj_neq hc356861 (show Int32.toInt 0 = 0 by decide)
                            have bz356860' : gB z356860 1 1 := gB_t1 bz356860 r356864
                            refine G_iload_n 3 dr_cX17_share_136 rfl ?_
                            refine G_iload 1 dr_cX17_share_137 rfl ?_
                            refine G_iconst 1 dr_cX17_share_139 (by decide +kernel) ?_
                            refine G_iadd dr_cX17_share_140 (G_nam fun z356865 hz356865 => ?_)
                            have ez356865 : z356865.toInt = g356840.toInt + 1 := by rw [gI_add hz356865 bg356840 (gBl (show Int32.toInt 1 = 1 by decide)) (by decide) (by decide), show Int32.toInt 1 = 1 from by decide]
                            have bz356865 : gB z356865 1 100 := gB_add (gI_add hz356865 bg356840 (gBl (show Int32.toInt 1 = 1 by decide)) (by decide) (by decide)) bg356840 (gBl (show Int32.toInt 1 = 1 by decide)) (by decide) (by decide)
                            refine G_mmax dr_cX17_share_141 wr_11_17 wr_1_140 wr_1_6 wr_1_141 (Nat.le_of_ble_eq_true rfl) (Nat.le_of_ble_eq_true rfl) (show 0 ≤ 0 by first | omega | decide) (show 0 ≤ 0 by first | omega | decide) (G_nam fun z356866 hz356866 => ?_)
                            have ez356866 : g355470.toInt ≤ z356866.toInt ∧ z356865.toInt ≤ z356866.toInt ∧ (z356866.toInt = g355470.toInt ∨ z356866.toInt = z356865.toInt) := by have := gI_max hz356866; omega
                            have bz356866 : gB z356866 1 1999 := ⟨by omega, by omega⟩
                            have bz356866' : gB z356866 1 100 := ⟨by omega, by omega⟩
                            refine G_istore_n (L' := [(2, .int z356866), (5, .int g356767), (4, .int g356840), (3, .int g355469), (0, .ref q336076), (1, .ref q336077)]) dr_cX17_share_144 (Nat.le_of_ble_eq_true rfl) rfl ?_
                            obtain ⟨z356867, hz356867⟩ : ∃ z : Int32, z = g355469 + Int32.ofInt 1 := ⟨_, rfl⟩
                            have ez356867 : z356867.toInt = g355469.toInt + 1 := gI_inc hz356867 (by decide) bg355469' (by decide) (by decide)
                            have bz356867 : gB z356867 1 100 := ⟨by omega, by omega⟩
                            refine G_iinc (L' := [(3, .int z356867), (2, .int z356866), (5, .int g356767), (4, .int g356840), (0, .ref q336076), (1, .ref q336077)]) z356867 3 dr_cX17_share_145 rfl hz356867.symm (Nat.le_of_ble_eq_true rfl) rfl ?_
                            refine G_goto 10 dr_cX17_share_148 (by decide +kernel) ?_
                            refine G_lv (L' := [(3, .int z356867), (2, .int z356866), (0, .ref q336076), (1, .ref q336077)]) [0, 1, 4, 5] rfl ?_
                            exact ih10_355477 F356847 z356867 z356866 (gB_w bz356867 (by decide) (by decide)) (gB_w bz356866' (by decide) (by decide)) hT356856 hs356854 (by rw [ez356867]; rw [cB_of he356852]; exact sl_u hf356850 (by omega) (by omega) (by omega) cq356844) (by omega) kp356855 mk356853 (mz_up ez356867 (Int.le_trans bg355469'.2 (by decide)) hm10_355477)
                        · have r356868 : g356840.toInt < g355469.toInt := gC_nle hc356845
                          have bg356840' : gB g356840 0 98 := ⟨by omega, by omega⟩
                          have bg355469'' : gB g355469 1 99 := ⟨by omega, by omega⟩
                          refine G_aload_n 4 dr_cX17_share_102 rfl ?_
                          refine Gp_get 16 hm356778 he356777 dr_cX17_share_103 (gk_X17 D I) (Nat.le_of_ble_eq_true rfl) wr_7_90 rfl ?_
                          refine G_iload 1 dr_cX17_share_106 rfl ?_
                          have hm356869 : (γ 9 16) ∈ P336074 := RS_m hT356769 ht336112 (by decide)
                          obtain ⟨f356871, he356870⟩ := show rk_19 I (F356768 (γ 9 16)) from RS_o hT356769 ht336112
                          refine Gp_iald 0 hm356869 he356870 dr_cX17_share_108 rfl (gB_in bg356840' (by decide) (by decide)) (G_nam fun z356872 hz356872 => ?_)
                          have bz356872 : gB z356872 (-2147483648) 2147483647 := gB_any z356872
                          refine G_iconst 1 dr_cX17_share_109 (by decide +kernel) ?_
                          refine G_icmp_ne 119 dr_cX17_share_110 (by decide +kernel) (fun hc356873 => ?_) (fun hc356873 => ?_)
                          · have r356874 : z356872.toInt ≠ 1 := gj_neq hc356873 (show Int32.toInt 1 = 1 by decide)
                            refine G_aload_n 4 dr_cX17_share_119 rfl ?_
                            refine Gp_get 19 hm356778 he356777 dr_cX17_share_120 (gk_X17 D I) (Nat.le_of_ble_eq_true rfl) wr_7_93 rfl ?_
                            refine G_iload_n 2 dr_cX17_share_123 rfl ?_
                            refine G_iload 1 dr_cX17_share_124 rfl ?_
                            refine Gp_iast 0 hm356779 he356780 dr_cX17_share_126 rfl (gB_in bg355469'' (by decide) (by decide)) (fun F356875 e356876 n356877 => ?_)
                            obtain ⟨f356878, hf356878⟩ : ∃ z, z = upd f356781 g355469.toNatClampNeg g356840 := ⟨_, rfl⟩
                            rw [← hf356878] at e356876
                            have he356879 : F356875 q336076 = .inr (22, [.ref (γ 9 0), .ref (γ 9 1), .ref (γ 9 2), .ref (γ 9 3), .ref (γ 9 4), .ref (γ 9 5), .ref (γ 9 6), .ref (γ 9 7), .ref (γ 9 8), .int p336085, .int p336086, .int p336087, .int p336088, .int p336089, .int p336090, .ref (γ 9 15), .ref (γ 9 16), .ref (γ 9 17), .ref (γ 9 18), .ref (γ 9 19), .ref (γ 9 20), .ref (γ 9 21), .ref (γ 9 22), .int p336091, .int p336092, .int p336093, .int p336094, .int p336095, .ref q336083, .ref (γ 9 29), .int p336096, .ref (γ 9 31), .int p336097, .int p336098, .int p336099, .ref q336084]) := (n356877 q336076 (rn_oa he356777 he356780)).trans he356777
                            have he356880 : F356875 (γ 9 16) = .inl (I .int, 2000, .inl f356871) := (n356877 (γ 9 16) (rn_ty ht336112 ht336115 (by decide))).trans he356870
                            have he356881 : F356875 (γ 9 19) = .inl (I .int, 2000, .inl f356878) := e356876
                            have mk356882 : mKp (F336075 q336076) (F356875 q336076) := mKp_tr x356773 (mKp_eq (n356877 q336076 (rn_ty htq336076 ht336115 (by decide))))
                            have hs356883 : rStr γ [1] F336075 F356875 := rStr_put hs356770 n356877 ht336115 (by decide)
                            have kp356884 : F356875 q336076 = F336075 q336076 := (n356877 q336076 (rn_ty htq336076 ht336115 (by decide))).trans x356772
                            have bf356878 : gF f356878 (-1) 1999 := gF_upd hf356878 bf356781 (gB_w bg356840' (by decide) (by decide))
                            refine G_aload_n 4 dr_cX17_share_127 rfl ?_
                            refine Gp_get 3 hm356778 he356879 dr_cX17_share_128 (gk_X17 D I) (Nat.le_of_ble_eq_true rfl) wr_7_77 rfl ?_
                            refine G_iload_n 2 dr_cX17_share_131 rfl ?_
                            have hT356885 : RS D I P336074 F356875 γ el := RS_set hT356769 n356877 ht336115 (by decide) ⟨f356878, he356881, bf356878⟩
                            have hm356886 : (γ 9 3) ∈ P336074 := RS_m hT356885 ht336105 (by decide)
                            obtain ⟨f356888, he356887, bf356888⟩ := show rk_14 I (F356875 (γ 9 3)) from RS_o hT356885 ht336105
                            refine Gp_zald 3 hm356886 he356887 dr_cX17_share_132 rfl (gB_in bg355469'' (by decide) (by decide)) (G_nam fun z356889 hz356889 => ?_)
                            have bz356889 : gB z356889 0 1 := by rw [hz356889]; exact bf356888 _
                            refine G_if_eq 145 dr_cX17_share_133 (by decide +kernel) (fun hc356890 => ?_) (fun hc356890 => ?_)
                            · have r356891 : z356889.toInt = 0 := gj_eq hc356890 (show Int32.toInt 0 = 0 by decide)
                              have bz356889' : gB z356889 0 0 := gB_t0 r356891
                              obtain ⟨z356892, hz356892⟩ : ∃ z : Int32, z = g355469 + Int32.ofInt 1 := ⟨_, rfl⟩
                              have ez356892 : z356892.toInt = g355469.toInt + 1 := gI_inc hz356892 (by decide) bg355469'' (by decide) (by decide)
                              have bz356892 : gB z356892 2 100 := ⟨by omega, by omega⟩
                              refine G_iinc (L' := [(3, .int z356892), (5, .int g356767), (4, .int g356840), (2, .int g355470), (0, .ref q336076), (1, .ref q336077)]) z356892 2 dr_cX17_share_145 rfl hz356892.symm (Nat.le_of_ble_eq_true rfl) rfl ?_
                              refine G_goto 10 dr_cX17_share_148 (by decide +kernel) ?_
                              refine G_lv (L' := [(3, .int z356892), (2, .int g355470), (0, .ref q336076), (1, .ref q336077)]) [0, 3, 4, 5] rfl ?_
                              exact ih10_355477 F356875 z356892 g355470 (gB_w bz356892 (by decide) (by decide)) bg355470 hT356885 hs356883 (by rw [ez356892]; rw [cB_of he356881]; exact sl_u hf356878 (by omega) (by omega) (by omega) cq356844) (by omega) kp356884 mk356882 (mz_up ez356892 (Int.le_trans bg355469''.2 (by decide)) hm10_355477)
                            · have r356893 : z356889.toInt ≠ 0 := gj_neq hc356890 (show Int32.toInt 0 = 0 by decide)
                              have bz356889' : gB z356889 1 1 := gB_t1 bz356889 r356893
                              refine G_iload_n 3 dr_cX17_share_136 rfl ?_
                              refine G_iload 1 dr_cX17_share_137 rfl ?_
                              refine G_iconst 1 dr_cX17_share_139 (by decide +kernel) ?_
                              refine G_iadd dr_cX17_share_140 (G_nam fun z356894 hz356894 => ?_)
                              have ez356894 : z356894.toInt = g356840.toInt + 1 := by rw [gI_add hz356894 bg356840' (gBl (show Int32.toInt 1 = 1 by decide)) (by decide) (by decide), show Int32.toInt 1 = 1 from by decide]
                              have bz356894 : gB z356894 1 99 := gB_add (gI_add hz356894 bg356840' (gBl (show Int32.toInt 1 = 1 by decide)) (by decide) (by decide)) bg356840' (gBl (show Int32.toInt 1 = 1 by decide)) (by decide) (by decide)
                              refine G_mmax dr_cX17_share_141 wr_11_17 wr_1_140 wr_1_6 wr_1_141 (Nat.le_of_ble_eq_true rfl) (Nat.le_of_ble_eq_true rfl) (show 0 ≤ 0 by first | omega | decide) (show 0 ≤ 0 by first | omega | decide) (G_nam fun z356895 hz356895 => ?_)
                              have ez356895 : g355470.toInt ≤ z356895.toInt ∧ z356894.toInt ≤ z356895.toInt ∧ (z356895.toInt = g355470.toInt ∨ z356895.toInt = z356894.toInt) := by have := gI_max hz356895; omega
                              have bz356895 : gB z356895 1 1999 := ⟨by omega, by omega⟩
                              have bz356895' : gB z356895 1 100 := ⟨by omega, by omega⟩
                              refine G_istore_n (L' := [(2, .int z356895), (5, .int g356767), (4, .int g356840), (3, .int g355469), (0, .ref q336076), (1, .ref q336077)]) dr_cX17_share_144 (Nat.le_of_ble_eq_true rfl) rfl ?_
                              obtain ⟨z356896, hz356896⟩ : ∃ z : Int32, z = g355469 + Int32.ofInt 1 := ⟨_, rfl⟩
                              have ez356896 : z356896.toInt = g355469.toInt + 1 := gI_inc hz356896 (by decide) bg355469'' (by decide) (by decide)
                              have bz356896 : gB z356896 2 100 := ⟨by omega, by omega⟩
                              refine G_iinc (L' := [(3, .int z356896), (2, .int z356895), (5, .int g356767), (4, .int g356840), (0, .ref q336076), (1, .ref q336077)]) z356896 3 dr_cX17_share_145 rfl hz356896.symm (Nat.le_of_ble_eq_true rfl) rfl ?_
                              refine G_goto 10 dr_cX17_share_148 (by decide +kernel) ?_
                              refine G_lv (L' := [(3, .int z356896), (2, .int z356895), (0, .ref q336076), (1, .ref q336077)]) [0, 1, 4, 5] rfl ?_
                              exact ih10_355477 F356875 z356896 z356895 (gB_w bz356896 (by decide) (by decide)) (gB_w bz356895' (by decide) (by decide)) hT356885 hs356883 (by rw [ez356896]; rw [cB_of he356881]; exact sl_u hf356878 (by omega) (by omega) (by omega) cq356844) (by omega) kp356884 mk356882 (mz_up ez356896 (Int.le_trans bg355469''.2 (by decide)) hm10_355477)
                          · have r356897 : z356872.toInt = 1 := gj_eq hc356873 (show Int32.toInt 1 = 1 by decide)
                            have bz356872' : gB z356872 1 1 := ⟨by omega, by omega⟩
                            obtain ⟨z356898, hz356898⟩ : ∃ z : Int32, z = g356840 + Int32.ofInt 1 := ⟨_, rfl⟩
                            have ez356898 : z356898.toInt = g356840.toInt + 1 := gI_inc hz356898 (by decide) bg356840' (by decide) (by decide)
                            have bz356898 : gB z356898 1 99 := ⟨by omega, by omega⟩
                            refine G_iinc (L' := [(4, .int z356898), (5, .int g356767), (3, .int g355469), (2, .int g355470), (0, .ref q336076), (1, .ref q336077)]) z356898 1 dr_cX17_share_113 rfl hz356898.symm (Nat.le_of_ble_eq_true rfl) rfl ?_
                            refine G_goto 96 dr_cX17_share_116 (by decide +kernel) ?_
                            refine G_lv (L' := [(5, .int g356767), (4, .int z356898), (3, .int g355469), (2, .int g355470), (0, .ref q336076), (1, .ref q336077)]) [1, 0, 2, 3, 4, 5] rfl ?_
                            exact ih96_356842 z356898 (gB_w bz356898 (by decide) (by decide)) (by rw [cB_of he356780]; exact cq356844) (by omega) (mz_up ez356898 (Int.le_trans bg356840'.2 (by decide)) hm96_356842)
                    exact hlp96_356842 (((100 : Int) - 0).toNat + 1) 0 (gB_w (gBl (show Int32.toInt 0 = 0 by decide)) (by decide) (by decide)) (by rw [cB_of he356780]; exact cq356782) (by have qa0 : Int32.toInt 0 = 0 := (by decide); omega) (Nat.lt_succ_self _)
                  · have r356899 : g356767.toInt < g355469.toInt := gC_nle hc356783
                    have bg356767' : gB g356767 0 98 := ⟨by omega, by omega⟩
                    have bg355469'' : gB g355469 1 99 := ⟨by omega, by omega⟩
                    refine G_aload_n 4 dr_cX17_share_53 rfl ?_
                    refine Gp_get 3 hm356778 he356777 dr_cX17_share_54 (gk_X17 D I) (Nat.le_of_ble_eq_true rfl) wr_7_77 rfl ?_
                    refine G_iload 0 dr_cX17_share_57 rfl ?_
                    have hm356900 : (γ 9 3) ∈ P336074 := RS_m hT356769 ht336105 (by decide)
                    obtain ⟨f356902, he356901, bf356902⟩ := show rk_14 I (F356768 (γ 9 3)) from RS_o hT356769 ht336105
                    refine Gp_zald 3 hm356900 he356901 dr_cX17_share_59 rfl (gB_in bg356767' (by decide) (by decide)) (G_nam fun z356903 hz356903 => ?_)
                    have bz356903 : gB z356903 0 1 := by rw [hz356903]; exact bf356902 _
                    refine G_if_eq 90 dr_cX17_share_60 (by decide +kernel) (fun hc356904 => ?_) (fun hc356904 => ?_)
                    · have r356905 : z356903.toInt = 0 := gj_eq hc356904 (show Int32.toInt 0 = 0 by decide)
                      have bz356903' : gB z356903 0 0 := gB_t0 r356905
                      obtain ⟨z356906, hz356906⟩ : ∃ z : Int32, z = g356767 + Int32.ofInt 1 := ⟨_, rfl⟩
                      have ez356906 : z356906.toInt = g356767.toInt + 1 := gI_inc hz356906 (by decide) bg356767' (by decide) (by decide)
                      have bz356906 : gB z356906 1 99 := ⟨by omega, by omega⟩
                      refine G_iinc (L' := [(5, .int z356906), (4, .int 0), (3, .int g355469), (2, .int g355470), (0, .ref q336076), (1, .ref q336077)]) z356906 0 dr_cX17_share_90 rfl hz356906.symm (Nat.le_of_ble_eq_true rfl) rfl ?_
                      refine G_goto 47 dr_cX17_share_93 (by decide +kernel) ?_
                      exact ih47_356773 F356768 z356906 (gB_w bz356906 (by decide) (by decide)) hT356769 hs356770 (by rw [cB_of he356780]; exact cq356782) x356772 x356773 (mz_up ez356906 (Int.le_trans bg356767'.2 (by decide)) hm47_356773)
                    · have r356907 : z356903.toInt ≠ 0 := gj_neq hc356904 (show Int32.toInt 0 = 0 by decide)
                      have bz356903' : gB z356903 1 1 := gB_t1 bz356903 r356907
                      refine G_aload_n 4 dr_cX17_share_63 rfl ?_
                      refine Gp_get 1 hm356778 he356777 dr_cX17_share_64 (gk_X17 D I) (Nat.le_of_ble_eq_true rfl) wr_7_75 rfl ?_
                      refine G_iload_n 2 dr_cX17_share_67 rfl ?_
                      have hm356908 : (γ 9 1) ∈ P336074 := RS_m hT356769 ht336103 (by decide)
                      obtain ⟨f356910, he356909, hg356911⟩ := show rk_13 I γ (F356768 (γ 9 1)) from RS_o hT356769 ht336103
                      obtain ⟨q356912, hx356914⟩ : ∃ x, x = γ 11 g355469.toInt.toNat := ⟨_, rfl⟩
                      have ht356913 : rKd γ q356912 36 := by rw [hx356914]; exact (hg356911 _ (show g355469.toInt.toNat < 2000 by omega)).2.1
                      refine Gp_aald 5 hm356908 he356909 dr_cX17_share_68 rfl rfl (gB_in bg355469'' (by decide) (by decide)) ?_
                      rw [show f356910 g355469.toNatClampNeg = some q356912 from (hg356911 _ (show g355469.toInt.toNat < 2000 by omega)).1.trans (by rw [hx356914])]
                      change G _ _ _ _ _ _ _ (.ref q356912 :: _) _ _ _
                      refine G_iload 0 dr_cX17_share_69 rfl ?_
                      have hm356915 : q356912 ∈ P336074 := RS_m hT356769 ht356913 (by decide)
                      obtain ⟨f356917, he356916, wf356917⟩ := show rk_36 I (F356768 q356912) from RS_o hT356769 ht356913
                      refine Gw_callS (As := [.ref q356912, .int g356767]) (gV_ok D I) (cp_1838_SpillForgeModel_has l hl0 D I P336074 F356768 q356912 g356767 f356917 hm356915 he356916 (gB_w bg356767' (by decide) (by decide))) dr_cX17_share_71 ⟨wr_10_199, wr_1_14, wr_10_201, by decide, rfl, (Nat.le_of_ble_eq_true rfl), (Nat.le_of_ble_eq_true rfl)⟩ wr_10_200 (show 0 + 0 ≤ 0 by first | omega | decide) (show 0 + 0 ≤ 0 by first | omega | decide) (Nat.le_of_ble_eq_true rfl) (fun r356921 w356922 dc356918 ds356919 hp356920 => ?_) (fun _ _ _ _ _ z => z.elim)
                      rcases hp356920 with ⟨z356923, z356924, rfl, rfl, hdc, hds, r356925, r356926, r356927, r356928⟩ | ⟨z356929, z356930, rfl, rfl, hdc, hds, r356931, r356932, r356933, r356934⟩
                      · change G _ _ _ _ _ _ _ (.int 0 :: _) _ _ _
                        refine G_widen (cs' := 0) (sl' := 0) (by omega) (by omega) ?_
                        refine G_if_eq 90 dr_cX17_share_74 (by decide +kernel) (fun _ => ?_) (fun hc => absurd hc (by decide))
                        obtain ⟨z356936, hz356936⟩ : ∃ z : Int32, z = g356767 + Int32.ofInt 1 := ⟨_, rfl⟩
                        have ez356936 : z356936.toInt = g356767.toInt + 1 := gI_inc hz356936 (by decide) bg356767' (by decide) (by decide)
                        have bz356936 : gB z356936 1 99 := ⟨by omega, by omega⟩
                        refine G_iinc (L' := [(5, .int z356936), (4, .int 0), (3, .int g355469), (2, .int g355470), (0, .ref q336076), (1, .ref q336077)]) z356936 0 dr_cX17_share_90 rfl hz356936.symm (Nat.le_of_ble_eq_true rfl) rfl ?_
                        refine G_goto 47 dr_cX17_share_93 (by decide +kernel) ?_
                        exact ih47_356773 F356768 z356936 (gB_w bz356936 (by decide) (by decide)) hT356769 hs356770 (by rw [cB_of he356780]; exact cq356782) x356772 x356773 (mz_up ez356936 (Int.le_trans bg356767'.2 (by decide)) hm47_356773)
                      · change G _ _ _ _ _ _ _ (.int 1 :: _) _ _ _
                        refine G_widen (cs' := 0) (sl' := 0) (by omega) (by omega) ?_
                        refine G_if_eq 90 dr_cX17_share_74 (by decide +kernel) (fun hc => absurd hc (by decide)) (fun _ => ?_)
                        refine G_aload_n 4 dr_cX17_share_77 rfl ?_
                        refine Gp_get 16 hm356778 he356777 dr_cX17_share_78 (gk_X17 D I) (Nat.le_of_ble_eq_true rfl) wr_7_90 rfl ?_
                        refine G_aload_n 4 dr_cX17_share_81 rfl ?_
                        refine Gp_get 19 hm356778 he356777 dr_cX17_share_82 (gk_X17 D I) (Nat.le_of_ble_eq_true rfl) wr_7_93 rfl ?_
                        refine G_iload 0 dr_cX17_share_85 rfl ?_
                        refine Gp_iald 0 hm356779 he356780 dr_cX17_share_87 rfl (gB_in bg356767' (by decide) (by decide)) (G_nam fun z356937 hz356937 => ?_)
                        have bz356937 : gB z356937 (-1) 1999 := by rw [hz356937]; exact bf356781 _
                        have r356938 : 0 ≤ z356937.toInt := by rw [hz356937]; exact (cq356782 g356767.toInt.toNat (by omega)).1
                        have bz356937' : gB z356937 0 1999 := ⟨by omega, by omega⟩
                        refine G_iconst 1 dr_cX17_share_88 (by decide +kernel) ?_
                        have hm356939 : (γ 9 16) ∈ P336074 := RS_m hT356769 ht336112 (by decide)
                        obtain ⟨f356941, he356940⟩ := show rk_19 I (F356768 (γ 9 16)) from RS_o hT356769 ht336112
                        refine Gp_iast 0 hm356939 he356940 dr_cX17_share_89 rfl (gB_in bz356937' (by decide) (by decide)) (fun F356942 e356943 n356944 => ?_)
                        obtain ⟨f356945, hf356945⟩ : ∃ z, z = upd f356941 z356937.toNatClampNeg 1 := ⟨_, rfl⟩
                        rw [← hf356945] at e356943
                        have he356946 : F356942 q336076 = .inr (22, [.ref (γ 9 0), .ref (γ 9 1), .ref (γ 9 2), .ref (γ 9 3), .ref (γ 9 4), .ref (γ 9 5), .ref (γ 9 6), .ref (γ 9 7), .ref (γ 9 8), .int p336085, .int p336086, .int p336087, .int p336088, .int p336089, .int p336090, .ref (γ 9 15), .ref (γ 9 16), .ref (γ 9 17), .ref (γ 9 18), .ref (γ 9 19), .ref (γ 9 20), .ref (γ 9 21), .ref (γ 9 22), .int p336091, .int p336092, .int p336093, .int p336094, .int p336095, .ref q336083, .ref (γ 9 29), .int p336096, .ref (γ 9 31), .int p336097, .int p336098, .int p336099, .ref q336084]) := (n356944 q336076 (rn_oa he356777 he356940)).trans he356777
                        have he356947 : F356942 (γ 9 19) = .inl (I .int, 2000, .inl f356781) := (n356944 (γ 9 19) (rn_ty ht336115 ht336112 (by decide))).trans he356780
                        have he356948 : F356942 (γ 9 3) = .inl (I .boolean, 2000, .inl f356902) := (n356944 (γ 9 3) (rn_ty ht336105 ht336112 (by decide))).trans he356901
                        have he356949 : F356942 (γ 9 1) = .inl (I (.array .long), 2000, .inr (.inr (.inr (.inr f356910)))) := (n356944 (γ 9 1) (rn_ref_num he356909 he356940)).trans he356909
                        have he356950 : F356942 q356912 = .inl (I .long, 32, .inr (.inl f356917)) := (n356944 q356912 (rn_long_num he356916 he356940)).trans he356916
                        have he356951 : F356942 (γ 9 16) = .inl (I .int, 2000, .inl f356945) := e356943
                        have mk356952 : mKp (F336075 q336076) (F356942 q336076) := mKp_tr x356773 (mKp_eq (n356944 q336076 (rn_ty htq336076 ht336112 (by decide))))
                        have hs356953 : rStr γ [1] F336075 F356942 := rStr_put hs356770 n356944 ht336112 (by decide)
                        have kp356954 : F356942 q336076 = F336075 q336076 := (n356944 q336076 (rn_ty htq336076 ht336112 (by decide))).trans x356772
                        obtain ⟨z356955, hz356955⟩ : ∃ z : Int32, z = g356767 + Int32.ofInt 1 := ⟨_, rfl⟩
                        have ez356955 : z356955.toInt = g356767.toInt + 1 := gI_inc hz356955 (by decide) bg356767' (by decide) (by decide)
                        have bz356955 : gB z356955 1 99 := ⟨by omega, by omega⟩
                        refine G_iinc (L' := [(5, .int z356955), (4, .int 0), (3, .int g355469), (2, .int g355470), (0, .ref q336076), (1, .ref q336077)]) z356955 0 dr_cX17_share_90 rfl hz356955.symm (Nat.le_of_ble_eq_true rfl) rfl ?_
                        refine G_goto 47 dr_cX17_share_93 (by decide +kernel) ?_
                        have hT356956 : RS D I P336074 F356942 γ el := RS_set hT356769 n356944 ht336112 (by decide) ⟨f356945, he356951⟩
                        exact ih47_356773 F356942 z356955 (gB_w bz356955 (by decide) (by decide)) hT356956 hs356953 (by rw [cB_of he356947]; exact cq356782) kp356954 mk356952 (mz_up ez356955 (Int.le_trans bg356767'.2 (by decide)) hm47_356773)
              exact hlp47_356773 (((100 : Int) - 0).toNat + 1) F356566 0 (gB_w (gBl (show Int32.toInt 0 = 0 by decide)) (by decide) (by decide)) hT356567 hs356568 (by rw [cB_of he356578]; exact cq356580) x356570 x356571 (Nat.lt_succ_self _)
            · have r356957 : g356565.toInt < g355469.toInt := gC_nle hc356581
              have bg356565' : gB g356565 0 98 := ⟨by omega, by omega⟩
              have bg355469'' : gB g355469 1 99 := ⟨by omega, by omega⟩
              refine G_aload_n 4 dr_cX17_share_30 rfl ?_
              refine Gp_get 16 hm356576 he356575 dr_cX17_share_31 (gk_X17 D I) (Nat.le_of_ble_eq_true rfl) wr_7_90 rfl ?_
              refine G_iload 0 dr_cX17_share_34 rfl ?_
              refine G_iconst 0 dr_cX17_share_36 (by decide +kernel) ?_
              have hm356958 : (γ 9 16) ∈ P336074 := RS_m hT356567 ht336112 (by decide)
              obtain ⟨f356960, he356959⟩ := show rk_19 I (F356566 (γ 9 16)) from RS_o hT356567 ht336112
              refine Gp_iast 0 hm356958 he356959 dr_cX17_share_37 rfl (gB_in bg356565' (by decide) (by decide)) (fun F356961 e356962 n356963 => ?_)
              obtain ⟨f356964, hf356964⟩ : ∃ z, z = upd f356960 g356565.toNatClampNeg 0 := ⟨_, rfl⟩
              rw [← hf356964] at e356962
              have he356965 : F356961 q336076 = .inr (22, [.ref (γ 9 0), .ref (γ 9 1), .ref (γ 9 2), .ref (γ 9 3), .ref (γ 9 4), .ref (γ 9 5), .ref (γ 9 6), .ref (γ 9 7), .ref (γ 9 8), .int p336085, .int p336086, .int p336087, .int p336088, .int p336089, .int p336090, .ref (γ 9 15), .ref (γ 9 16), .ref (γ 9 17), .ref (γ 9 18), .ref (γ 9 19), .ref (γ 9 20), .ref (γ 9 21), .ref (γ 9 22), .int p336091, .int p336092, .int p336093, .int p336094, .int p336095, .ref q336083, .ref (γ 9 29), .int p336096, .ref (γ 9 31), .int p336097, .int p336098, .int p336099, .ref q336084]) := (n356963 q336076 (rn_oa he356575 he356959)).trans he356575
              have he356966 : F356961 (γ 9 19) = .inl (I .int, 2000, .inl f356579) := (n356963 (γ 9 19) (rn_ty ht336115 ht336112 (by decide))).trans he356578
              have he356967 : F356961 (γ 9 16) = .inl (I .int, 2000, .inl f356964) := e356962
              have mk356968 : mKp (F336075 q336076) (F356961 q336076) := mKp_tr x356571 (mKp_eq (n356963 q336076 (rn_ty htq336076 ht336112 (by decide))))
              have hs356969 : rStr γ [1] F336075 F356961 := rStr_put hs356568 n356963 ht336112 (by decide)
              have kp356970 : F356961 q336076 = F336075 q336076 := (n356963 q336076 (rn_ty htq336076 ht336112 (by decide))).trans x356570
              obtain ⟨z356971, hz356971⟩ : ∃ z : Int32, z = g356565 + Int32.ofInt 1 := ⟨_, rfl⟩
              have ez356971 : z356971.toInt = g356565.toInt + 1 := gI_inc hz356971 (by decide) bg356565' (by decide) (by decide)
              have bz356971 : gB z356971 1 99 := ⟨by omega, by omega⟩
              refine G_iinc (L' := [(5, .int z356971), (4, .int 0), (3, .int g355469), (2, .int g355470), (0, .ref q336076), (1, .ref q336077)]) z356971 0 dr_cX17_share_38 rfl hz356971.symm (Nat.le_of_ble_eq_true rfl) rfl ?_
              refine G_goto 24 dr_cX17_share_41 (by decide +kernel) ?_
              have hT356972 : RS D I P336074 F356961 γ el := RS_set hT356567 n356963 ht336112 (by decide) ⟨f356964, he356967⟩
              exact ih24_356571 F356961 z356971 (gB_w bz356971 (by decide) (by decide)) hT356972 hs356969 (by rw [cB_of he356966]; exact cq356580) kp356970 mk356968 (mz_up ez356971 (Int.le_trans bg356565'.2 (by decide)) hm24_356571)
        exact hlp24_356571 (((2000 : Int) - 0).toNat + 1) F355471 0 (gB_w (gBl (show Int32.toInt 0 = 0 by decide)) (by decide) (by decide)) hT355472 hs355473 (by rw [cB_of he355484]; exact cq355486) x355476 x355477 (Nat.lt_succ_self _)
  exact hlp10_355477 (((101 : Int) - 0).toNat + 1) F336139 0 0 (gB_w (gBl (show Int32.toInt 0 = 0 by decide)) (by decide) (by decide)) (gB_w (gBl (show Int32.toInt 0 = 0 by decide)) (by decide) (by decide)) hT336140 hs336142 (fun q hq => absurd hq (by have qa : Int32.toInt 0 = 0 := (by decide); omega)) (by have qa0 : Int32.toInt 0 = 0 := (by decide); omega) kp336143 mk336144 (Nat.lt_succ_self _)
