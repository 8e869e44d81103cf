theorem dr_cX17_coloured_0 : decode cX17_coloured 0 = .ok (.aload_n 1, 1) := by decide +kernel
theorem dr_cX17_coloured_1 : decode cX17_coloured 1 = .ok (.invokevirtual 70, 3) := by decide +kernel
theorem dr_cX17_coloured_4 : decode cX17_coloured 4 = .ok (.ifCond .eq 16, 3) := by decide +kernel
theorem dr_cX17_coloured_20 : decode cX17_coloured 20 = .ok (.aload_n 1, 1) := by decide +kernel
theorem dr_cX17_coloured_21 : decode cX17_coloured 21 = .ok (.invokevirtual 76, 3) := by decide +kernel
theorem dr_cX17_coloured_24 : decode cX17_coloured 24 = .ok (.ifCond .eq 16, 3) := by decide +kernel
theorem dr_cX17_coloured_40 : decode cX17_coloured 40 = .ok (.aload_n 1, 1) := by decide +kernel
theorem dr_cX17_coloured_41 : decode cX17_coloured 41 = .ok (.invokevirtual 48, 3) := by decide +kernel
theorem dr_cX17_coloured_44 : decode cX17_coloured 44 = .ok (.ifCond .eq 16, 3) := by decide +kernel
theorem dr_cX17_coloured_60 : decode cX17_coloured 60 = .ok (.return_, 1) := by decide +kernel
theorem dr_cX17_coloured_47 : decode cX17_coloured 47 = .ok (.aload_n 1, 1) := by decide +kernel
theorem dr_cX17_coloured_48 : decode cX17_coloured 48 = .ok (.aload_n 0, 1) := by decide +kernel
theorem dr_cX17_coloured_49 : decode cX17_coloured 49 = .ok (.getfield 212, 3) := by decide +kernel
theorem dr_cX17_coloured_52 : decode cX17_coloured 52 = .ok (.aload_n 1, 1) := by decide +kernel
theorem dr_cX17_coloured_53 : decode cX17_coloured 53 = .ok (.getfield 52, 3) := by decide +kernel
theorem dr_cX17_coloured_56 : decode cX17_coloured 56 = .ok (.iaload, 1) := by decide +kernel
theorem dr_cX17_coloured_57 : decode cX17_coloured 57 = .ok (.putfield 52, 3) := by decide +kernel
theorem dr_cX17_coloured_27 : decode cX17_coloured 27 = .ok (.aload_n 1, 1) := by decide +kernel
theorem dr_cX17_coloured_28 : decode cX17_coloured 28 = .ok (.aload_n 0, 1) := by decide +kernel
theorem dr_cX17_coloured_29 : decode cX17_coloured 29 = .ok (.getfield 212, 3) := by decide +kernel
theorem dr_cX17_coloured_32 : decode cX17_coloured 32 = .ok (.aload_n 1, 1) := by decide +kernel
theorem dr_cX17_coloured_33 : decode cX17_coloured 33 = .ok (.getfield 79, 3) := by decide +kernel
theorem dr_cX17_coloured_36 : decode cX17_coloured 36 = .ok (.iaload, 1) := by decide +kernel
theorem dr_cX17_coloured_37 : decode cX17_coloured 37 = .ok (.putfield 79, 3) := by decide +kernel
theorem dr_cX17_coloured_7 : decode cX17_coloured 7 = .ok (.aload_n 1, 1) := by decide +kernel
theorem dr_cX17_coloured_8 : decode cX17_coloured 8 = .ok (.aload_n 0, 1) := by decide +kernel
theorem dr_cX17_coloured_9 : decode cX17_coloured 9 = .ok (.getfield 212, 3) := by decide +kernel
theorem dr_cX17_coloured_12 : decode cX17_coloured 12 = .ok (.aload_n 1, 1) := by decide +kernel
theorem dr_cX17_coloured_13 : decode cX17_coloured 13 = .ok (.getfield 73, 3) := by decide +kernel
theorem dr_cX17_coloured_16 : decode cX17_coloured 16 = .ok (.iaload, 1) := by decide +kernel
theorem dr_cX17_coloured_17 : decode cX17_coloured 17 = .ok (.putfield 73, 3) := by decide +kernel
theorem dr_cX17_share_0 : decode cX17_share 0 = .ok (.aload_n 0, 1) := by decide +kernel
theorem dr_cX17_share_1 : decode cX17_share 1 = .ok (.aload_n 1, 1) := by decide +kernel
theorem dr_cX17_share_2 : decode cX17_share 2 = .ok (.iconst 1, 1) := by decide +kernel
theorem dr_cX17_share_3 : decode cX17_share 3 = .ok (.invokevirtual 243, 3) := by decide +kernel
theorem wr_10_233 : (Jvm.Cond.methodLink "SpillForgeModel" (243 : Nat) ({ cls := "SpillForgeModel", name := "graph", desc := "(LSpillForgeModel$Code;Z)V" } : Jvm.MethodName)) ∈ gw := gw_10 233 rfl rfl
theorem wr_10_236 : (Jvm.Cond.code ({ cls := "SpillForgeModel", name := "graph", desc := "(LSpillForgeModel$Code;Z)V" } : Jvm.MethodName) prog_14_method_10_code (11 : Nat) (Option.none : Option Jvm.ClassFile.FieldType)) ∈ gw := gw_10 236 rfl rfl
theorem wr_10_235 : (Jvm.Cond.instanceMethod ({ cls := "SpillForgeModel", name := "graph", desc := "(LSpillForgeModel$Code;Z)V" } : Jvm.MethodName)) ∈ gw := gw_10 235 rfl rfl
theorem wr_p_99 : Cond.selects "SpillForgeModel" ⟨"SpillForgeModel", "graph", "(LSpillForgeModel$Code;Z)V"⟩ ⟨"SpillForgeModel", "graph", "(LSpillForgeModel$Code;Z)V"⟩ ∈ gw := gw_p _ 99 rfl rfl rfl
theorem dr_cX17_share_6 : decode cX17_share 6 = .ok (.iconst 0, 1) := by decide +kernel
theorem dr_cX17_share_7 : decode cX17_share 7 = .ok (.istore_n 2, 1) := by decide +kernel
theorem dr_cX17_share_8 : decode cX17_share 8 = .ok (.iconst 0, 1) := by decide +kernel
theorem dr_cX17_share_9 : decode cX17_share 9 = .ok (.istore_n 3, 1) := by decide +kernel
theorem dr_cX17_share_10 : decode cX17_share 10 = .ok (.iload_n 3, 1) := by decide +kernel
theorem dr_cX17_share_11 : decode cX17_share 11 = .ok (.aload_n 0, 1) := by decide +kernel
theorem dr_cX17_share_12 : decode cX17_share 12 = .ok (.getfield 224, 3) := by decide +kernel
theorem wr_7_85 : (Jvm.Cond.fieldLink "SpillForgeModel" (224 : Nat) "SpillForgeModel" "slots" "I") ∈ gw := gw_7 85 rfl rfl
theorem dr_cX17_share_15 : decode cX17_share 15 = .ok (.if_icmp .ge 136, 3) := by decide +kernel
theorem dr_cX17_share_151 : decode cX17_share 151 = .ok (.iconst 0, 1) := by decide +kernel
theorem dr_cX17_share_152 : decode cX17_share 152 = .ok (.istore_n 3, 1) := by decide +kernel
theorem dr_cX17_share_153 : decode cX17_share 153 = .ok (.iload_n 3, 1) := by decide +kernel
theorem dr_cX17_share_154 : decode cX17_share 154 = .ok (.aload_n 1, 1) := by decide +kernel
theorem dr_cX17_share_155 : decode cX17_share 155 = .ok (.invokevirtual 96, 3) := by decide +kernel
theorem dr_cX17_share_158 : decode cX17_share 158 = .ok (.if_icmp .ge 88, 3) := by decide +kernel
theorem dr_cX17_share_246 : decode cX17_share 246 = .ok (.aload_n 0, 1) := by decide +kernel
theorem dr_cX17_share_247 : decode cX17_share 247 = .ok (.iload_n 2, 1) := by decide +kernel
theorem dr_cX17_share_248 : decode cX17_share 248 = .ok (.putfield 224, 3) := by decide +kernel
theorem dr_cX17_share_251 : decode cX17_share 251 = .ok (.return_, 1) := by decide +kernel
theorem dr_cX17_share_161 : decode cX17_share 161 = .ok (.aload_n 1, 1) := by decide +kernel
theorem dr_cX17_share_162 : decode cX17_share 162 = .ok (.iload_n 3, 1) := by decide +kernel
theorem dr_cX17_share_163 : decode cX17_share 163 = .ok (.invokevirtual 101, 3) := by decide +kernel
theorem dr_cX17_share_166 : decode cX17_share 166 = .ok (.astore 4, 2) := by decide +kernel
theorem dr_cX17_share_168 : decode cX17_share 168 = .ok (.iconst 0, 1) := by decide +kernel
theorem dr_cX17_share_169 : decode cX17_share 169 = .ok (.istore 5, 2) := by decide +kernel
theorem dr_cX17_share_171 : decode cX17_share 171 = .ok (.iload 5, 2) := by decide +kernel
theorem dr_cX17_share_173 : decode cX17_share 173 = .ok (.aload 4, 2) := by decide +kernel
theorem dr_cX17_share_175 : decode cX17_share 175 = .ok (.getfield 117, 3) := by decide +kernel
theorem dr_cX17_share_178 : decode cX17_share 178 = .ok (.invokevirtual 121, 3) := by decide +kernel
theorem dr_cX17_share_181 : decode cX17_share 181 = .ok (.if_icmp .ge 59, 3) := by decide +kernel
theorem dr_cX17_share_240 : decode cX17_share 240 = .ok (.iinc 3 1, 3) := by decide +kernel
theorem dr_cX17_share_243 : decode cX17_share 243 = .ok (.goto (-90), 3) := by decide +kernel
theorem dr_cX17_share_184 : decode cX17_share 184 = .ok (.aload 4, 2) := by decide +kernel
theorem dr_cX17_share_186 : decode cX17_share 186 = .ok (.getfield 117, 3) := by decide +kernel
theorem dr_cX17_share_189 : decode cX17_share 189 = .ok (.iload 5, 2) := by decide +kernel
theorem dr_cX17_share_191 : decode cX17_share 191 = .ok (.invokevirtual 124, 3) := by decide +kernel
theorem dr_cX17_share_194 : decode cX17_share 194 = .ok (.checkcast 40, 3) := by decide +kernel
theorem dr_cX17_share_197 : decode cX17_share 197 = .ok (.astore 6, 2) := by decide +kernel
theorem dr_cX17_share_199 : decode cX17_share 199 = .ok (.aload 6, 2) := by decide +kernel
theorem dr_cX17_share_201 : decode cX17_share 201 = .ok (.getfield 39, 3) := by decide +kernel
theorem dr_cX17_share_204 : decode cX17_share 204 = .ok (.bipush 21, 2) := by decide +kernel
theorem dr_cX17_share_206 : decode cX17_share 206 = .ok (.if_icmp .eq 13, 3) := by decide +kernel
theorem dr_cX17_share_219 : decode cX17_share 219 = .ok (.aload 6, 2) := by decide +kernel
theorem dr_cX17_share_221 : decode cX17_share 221 = .ok (.aload_n 0, 1) := by decide +kernel
theorem dr_cX17_share_222 : decode cX17_share 222 = .ok (.getfield 221, 3) := by decide +kernel
theorem wr_7_93 : (Jvm.Cond.fieldLink "SpillForgeModel" (221 : Nat) "SpillForgeModel" "slotOf" "[I") ∈ gw := gw_7 93 rfl rfl
theorem dr_cX17_share_225 : decode cX17_share 225 = .ok (.aload 6, 2) := by decide +kernel
theorem dr_cX17_share_227 : decode cX17_share 227 = .ok (.getfield 45, 3) := by decide +kernel
theorem dr_cX17_share_230 : decode cX17_share 230 = .ok (.iaload, 1) := by decide +kernel
theorem dr_cX17_share_231 : decode cX17_share 231 = .ok (.putfield 45, 3) := by decide +kernel
theorem dr_cX17_share_234 : decode cX17_share 234 = .ok (.iinc 5 1, 3) := by decide +kernel
theorem dr_cX17_share_237 : decode cX17_share 237 = .ok (.goto (-66), 3) := by decide +kernel
theorem dr_cX17_share_209 : decode cX17_share 209 = .ok (.aload 6, 2) := by decide +kernel
theorem dr_cX17_share_211 : decode cX17_share 211 = .ok (.getfield 39, 3) := by decide +kernel
theorem dr_cX17_share_214 : decode cX17_share 214 = .ok (.bipush 23, 2) := by decide +kernel
theorem dr_cX17_share_216 : decode cX17_share 216 = .ok (.if_icmp .ne 18, 3) := by decide +kernel
theorem dr_cX17_share_18 : decode cX17_share 18 = .ok (.iconst 0, 1) := by decide +kernel
theorem dr_cX17_share_19 : decode cX17_share 19 = .ok (.istore 4, 2) := by decide +kernel
theorem dr_cX17_share_21 : decode cX17_share 21 = .ok (.iconst 0, 1) := by decide +kernel
theorem dr_cX17_share_22 : decode cX17_share 22 = .ok (.istore 5, 2) := by decide +kernel
theorem dr_cX17_share_24 : decode cX17_share 24 = .ok (.iload 5, 2) := by decide +kernel
theorem dr_cX17_share_26 : decode cX17_share 26 = .ok (.iload_n 3, 1) := by decide +kernel
theorem dr_cX17_share_27 : decode cX17_share 27 = .ok (.if_icmp .ge 17, 3) := by decide +kernel
theorem dr_cX17_share_44 : decode cX17_share 44 = .ok (.iconst 0, 1) := by decide +kernel
theorem dr_cX17_share_45 : decode cX17_share 45 = .ok (.istore 5, 2) := by decide +kernel
theorem dr_cX17_share_47 : decode cX17_share 47 = .ok (.iload 5, 2) := by decide +kernel
theorem dr_cX17_share_49 : decode cX17_share 49 = .ok (.iload_n 3, 1) := by decide +kernel
theorem dr_cX17_share_50 : decode cX17_share 50 = .ok (.if_icmp .ge 46, 3) := by decide +kernel
theorem dr_cX17_share_96 : decode cX17_share 96 = .ok (.iload 4, 2) := by decide +kernel
theorem dr_cX17_share_98 : decode cX17_share 98 = .ok (.iload_n 3, 1) := by decide +kernel
theorem dr_cX17_share_99 : decode cX17_share 99 = .ok (.if_icmp .ge 20, 3) := by decide +kernel
theorem dr_cX17_share_119 : decode cX17_share 119 = .ok (.aload_n 0, 1) := by decide +kernel
theorem dr_cX17_share_120 : decode cX17_share 120 = .ok (.getfield 221, 3) := by decide +kernel
theorem dr_cX17_share_123 : decode cX17_share 123 = .ok (.iload_n 3, 1) := by decide +kernel
theorem dr_cX17_share_124 : decode cX17_share 124 = .ok (.iload 4, 2) := by decide +kernel
theorem dr_cX17_share_126 : decode cX17_share 126 = .ok (.iastore, 1) := by decide +kernel
theorem dr_cX17_share_127 : decode cX17_share 127 = .ok (.aload_n 0, 1) := by decide +kernel
theorem dr_cX17_share_128 : decode cX17_share 128 = .ok (.getfield 131, 3) := by decide +kernel
theorem dr_cX17_share_131 : decode cX17_share 131 = .ok (.iload_n 3, 1) := by decide +kernel
theorem dr_cX17_share_132 : decode cX17_share 132 = .ok (.baload, 1) := by decide +kernel
theorem dr_cX17_share_133 : decode cX17_share 133 = .ok (.ifCond .eq 12, 3) := by decide +kernel
theorem dr_cX17_share_145 : decode cX17_share 145 = .ok (.iinc 3 1, 3) := by decide +kernel
theorem dr_cX17_share_148 : decode cX17_share 148 = .ok (.goto (-138), 3) := by decide +kernel
theorem dr_cX17_share_136 : decode cX17_share 136 = .ok (.iload_n 2, 1) := by decide +kernel
theorem dr_cX17_share_137 : decode cX17_share 137 = .ok (.iload 4, 2) := by decide +kernel
theorem dr_cX17_share_139 : decode cX17_share 139 = .ok (.iconst 1, 1) := by decide +kernel
theorem dr_cX17_share_140 : decode cX17_share 140 = .ok (.iadd, 1) := by decide +kernel
theorem dr_cX17_share_141 : decode cX17_share 141 = .ok (.invokestatic 189, 3) := by decide +kernel
theorem dr_cX17_share_144 : decode cX17_share 144 = .ok (.istore_n 2, 1) := by decide +kernel
theorem dr_cX17_share_102 : decode cX17_share 102 = .ok (.aload_n 0, 1) := by decide +kernel
theorem dr_cX17_share_103 : decode cX17_share 103 = .ok (.getfield 209, 3) := by decide +kernel
theorem dr_cX17_share_106 : decode cX17_share 106 = .ok (.iload 4, 2) := by decide +kernel
theorem dr_cX17_share_108 : decode cX17_share 108 = .ok (.iaload, 1) := by decide +kernel
theorem dr_cX17_share_109 : decode cX17_share 109 = .ok (.iconst 1, 1) := by decide +kernel
theorem dr_cX17_share_110 : decode cX17_share 110 = .ok (.if_icmp .ne 9, 3) := by decide +kernel
theorem dr_cX17_share_113 : decode cX17_share 113 = .ok (.iinc 4 1, 3) := by decide +kernel
theorem dr_cX17_share_116 : decode cX17_share 116 = .ok (.goto (-20), 3) := by decide +kernel
theorem dr_cX17_share_53 : decode cX17_share 53 = .ok (.aload_n 0, 1) := by decide +kernel
theorem dr_cX17_share_54 : decode cX17_share 54 = .ok (.getfield 131, 3) := by decide +kernel
theorem dr_cX17_share_57 : decode cX17_share 57 = .ok (.iload 5, 2) := by decide +kernel
theorem dr_cX17_share_59 : decode cX17_share 59 = .ok (.baload, 1) := by decide +kernel
theorem dr_cX17_share_60 : decode cX17_share 60 = .ok (.ifCond .eq 30, 3) := by decide +kernel
theorem dr_cX17_share_90 : decode cX17_share 90 = .ok (.iinc 5 1, 3) := by decide +kernel
theorem dr_cX17_share_93 : decode cX17_share 93 = .ok (.goto (-46), 3) := by decide +kernel
theorem dr_cX17_share_63 : decode cX17_share 63 = .ok (.aload_n 0, 1) := by decide +kernel
theorem dr_cX17_share_64 : decode cX17_share 64 = .ok (.getfield 135, 3) := by decide +kernel
theorem dr_cX17_share_67 : decode cX17_share 67 = .ok (.iload_n 3, 1) := by decide +kernel
theorem dr_cX17_share_68 : decode cX17_share 68 = .ok (.aaload, 1) := by decide +kernel
theorem dr_cX17_share_69 : decode cX17_share 69 = .ok (.iload 5, 2) := by decide +kernel
theorem dr_cX17_share_71 : decode cX17_share 71 = .ok (.invokestatic 145, 3) := by decide +kernel
theorem dr_cX17_share_74 : decode cX17_share 74 = .ok (.ifCond .eq 16, 3) := by decide +kernel
theorem dr_cX17_share_77 : decode cX17_share 77 = .ok (.aload_n 0, 1) := by decide +kernel
theorem dr_cX17_share_78 : decode cX17_share 78 = .ok (.getfield 209, 3) := by decide +kernel
theorem dr_cX17_share_81 : decode cX17_share 81 = .ok (.aload_n 0, 1) := by decide +kernel
theorem dr_cX17_share_82 : decode cX17_share 82 = .ok (.getfield 221, 3) := by decide +kernel
theorem dr_cX17_share_85 : decode cX17_share 85 = .ok (.iload 5, 2) := by decide +kernel
theorem dr_cX17_share_87 : decode cX17_share 87 = .ok (.iaload, 1) := by decide +kernel
theorem dr_cX17_share_88 : decode cX17_share 88 = .ok (.iconst 1, 1) := by decide +kernel
theorem dr_cX17_share_89 : decode cX17_share 89 = .ok (.iastore, 1) := by decide +kernel
theorem dr_cX17_share_30 : decode cX17_share 30 = .ok (.aload_n 0, 1) := by decide +kernel
theorem dr_cX17_share_31 : decode cX17_share 31 = .ok (.getfield 209, 3) := by decide +kernel
theorem dr_cX17_share_34 : decode cX17_share 34 = .ok (.iload 5, 2) := by decide +kernel
theorem dr_cX17_share_36 : decode cX17_share 36 = .ok (.iconst 0, 1) := by decide +kernel
theorem dr_cX17_share_37 : decode cX17_share 37 = .ok (.iastore, 1) := by decide +kernel
theorem dr_cX17_share_38 : decode cX17_share 38 = .ok (.iinc 5 1, 3) := by decide +kernel
theorem dr_cX17_share_41 : decode cX17_share 41 = .ok (.goto (-17), 3) := by decide +kernel
abbrev ky_335892_SpillForgeModel_coloured : gKey := (cX17_coloured, 2, "SpillForgeModel", none, [], "coloured", fun _ _ => True)
def pt_335892_SpillForgeModel_coloured (D : va_G) (I : FieldType → ClassId) (γ el : Nat → Nat → Nat) (P335887 : List Nat) (F335888 : Nat → va_E) (q335889 : Nat) (q335890 : Nat) : Option Value → va_W → Nat → Nat → Prop := fun r w dc ds => ∃ (F336126 : Nat → va_E), r = none ∧ w = va_pl P335887 F336126 ∧ RS D I P335887 F336126 γ el ∧ rStr γ [1] F335888 F336126 ∧ dc ≤ 0 ∧ ds ≤ 0 ∧ (∀ b, b ≠ q335890 → F336126 b = F335888 b) ∧ (F336126 q335889 = F335888 q335889) ∧ (F336126 (γ 9 3) = F335888 (γ 9 3)) ∧ (F336126 (γ 9 17) = F335888 (γ 9 17))
set_option maxRecDepth 100000 in
set_option maxHeartbeats 4000000 in
theorem ct_335892_SpillForgeModel_coloured (l : Launch) (hl0 : l.stackTraces = false) (D : va_G) (I : FieldType → ClassId) (γ el : Nat → Nat → Nat) (P335887 : List Nat) (F335888 : Nat → va_E) (q335889 : Nat) (q335890 : Nat) (hT : RS D I P335887 F335888 γ el) (htq335889 : rKd γ q335889 10) (htq335890 : rKd γ q335890 1) (x335891 : (rNm (fun n => 0 ≤ (cB (F335888 (γ 9 17)) n).toInt) (F335888 q335890))) : CtA (gV D I) l yX17_coloured cX17_coloured 2 none 1 20 0 0 [.ref q335889, .ref q335890] (va_pl P335887 F335888) (pt_335892_SpillForgeModel_coloured D I γ el P335887 F335888 q335889 q335890) gNA := by
  refine CtA_of hl0 (by decide) (Nat.le_of_ble_eq_true rfl) ?_
  have hm335893 : q335889 ∈ P335887 := RS_m hT htq335889 (by decide)
  obtain ⟨q335895, q335896, p335897, p335898, p335899, p335900, p335901, p335902, p335903, p335904, p335905, p335906, p335907, p335908, p335909, p335910, p335911, he335894, hB335938, ht335912, ht335913, ht335914, ht335915, ht335916, ht335917, ht335918, ht335919, ht335920, ht335921, ht335922, ht335923, ht335924, ht335925, ht335926, ht335927, ht335928, ht335929, ht335930, ht335931, ht335932, ht335933, ht335934, ht335935, hB335939⟩ := show rk_10 γ (F335888 q335889) from RS_o hT htq335889
  have hm335940 : (γ 9 17) ∈ P335887 := RS_m hT ht335925 (by decide)
  obtain ⟨f335942, he335941, bf335942⟩ := show rk_20 I (F335888 (γ 9 17)) from RS_o hT ht335925
  have hm335943 : q335890 ∈ P335887 := RS_m hT htq335890 (by decide)
  obtain ⟨p335945, p335946, p335947, p335948, p335949, p335950, p335951, he335944, bp335945, bp335946, bp335949, bp335950, bp335951, r335952, r335953, r335954, r335955, r335956⟩ := show rk_1 γ q335890 (F335888 q335890) from RS_o hT htq335890
  have bp335947 := gB_any p335947
  have bp335948 := gB_any p335948
  have cq335957 : ∀ n, nmV p335945.toInt p335946.toInt p335947.toInt p335948.toInt p335950.toInt p335951.toInt n → 0 ≤ (f335942 n).toInt := by have z := x335891; unfold rNm at z; rw [nmS_of he335944, cB_of he335941] at z; exact z
  refine G_aload_n 1 dr_cX17_coloured_0 rfl ?_
  refine Gw_callV (As := []) (gV_ok D I) (cp_215492_Row_usesA l hl0 D I P335887 F335888 q335890 p335945 p335946 p335947 p335948 p335949 p335950 p335951 hm335943 he335944 bp335945 bp335946 bp335949 bp335950 bp335951) dr_cX17_coloured_1 ⟨wr_10_192, wr_1_39, wr_10_195, by decide, rfl, (Nat.le_of_ble_eq_true rfl), (Nat.le_of_ble_eq_true rfl)⟩ wr_10_193 wr_10_194 hm335943 he335944 rfl (show 0 + 0 ≤ 0 by first | omega | decide) (show 0 + 0 ≤ 0 by first | omega | decide) (Nat.le_of_ble_eq_true rfl) (fun r335961 w335962 dc335958 ds335959 hp335960 => ?_) (fun _ _ _ _ _ z => z.elim)
  obtain ⟨o335963, rfl, rfl, hdc, hds, bo335963, x335964⟩ := hp335960
  change G _ _ _ _ _ _ _ (.int o335963 :: _) _ _ _
  refine G_widen (cs' := 0) (sl' := 0) (by omega) (by omega) ?_
  refine G_if_eq 20 dr_cX17_coloured_4 (by decide +kernel) (fun hc335965 => ?_) (fun hc335965 => ?_)
  · have r335966 : o335963.toInt = 0 := gj_eq hc335965 (show Int32.toInt 0 = 0 by decide)
    have bo335963' : gB o335963 0 0 := ⟨by omega, by omega⟩
    refine G_aload_n 1 dr_cX17_coloured_20 rfl ?_
    refine Gw_callV (As := []) (gV_ok D I) (cp_215516_Row_usesB l hl0 D I P335887 F335888 q335890 p335945 p335946 p335947 p335948 p335949 p335950 p335951 hm335943 he335944 bp335945 bp335946 bp335949 bp335950 bp335951) dr_cX17_coloured_21 ⟨wr_10_196, wr_1_39, wr_10_199, by decide, rfl, (Nat.le_of_ble_eq_true rfl), (Nat.le_of_ble_eq_true rfl)⟩ wr_10_197 wr_10_198 hm335943 he335944 rfl (show 0 + 0 ≤ 0 by first | omega | decide) (show 0 + 0 ≤ 0 by first | omega | decide) (Nat.le_of_ble_eq_true rfl) (fun r335970 w335971 dc335967 ds335968 hp335969 => ?_) (fun _ _ _ _ _ z => z.elim)
    obtain ⟨o335972, rfl, rfl, hdc, hds, bo335972, x335973⟩ := hp335969
    change G _ _ _ _ _ _ _ (.int o335972 :: _) _ _ _
    refine G_widen (cs' := 0) (sl' := 0) (by omega) (by omega) ?_
    refine G_if_eq 40 dr_cX17_coloured_24 (by decide +kernel) (fun hc335974 => ?_) (fun hc335974 => ?_)
    · have r335975 : o335972.toInt = 0 := gj_eq hc335974 (show Int32.toInt 0 = 0 by decide)
      have bo335972' : gB o335972 0 0 := ⟨by omega, by omega⟩
      refine G_aload_n 1 dr_cX17_coloured_40 rfl ?_
      refine Gw_callV (As := []) (gV_ok D I) (cp_215537_Row_sets l hl0 D I P335887 F335888 q335890 p335945 p335946 p335947 p335948 p335949 p335950 p335951 hm335943 he335944 bp335945 bp335946 bp335949 bp335950 bp335951) dr_cX17_coloured_41 ⟨wr_10_181, wr_1_39, wr_10_184, by decide, rfl, (Nat.le_of_ble_eq_true rfl), (Nat.le_of_ble_eq_true rfl)⟩ wr_10_182 wr_10_183 hm335943 he335944 rfl (show 0 + 0 ≤ 0 by first | omega | decide) (show 0 + 0 ≤ 0 by first | omega | decide) (Nat.le_of_ble_eq_true rfl) (fun r335979 w335980 dc335976 ds335977 hp335978 => ?_) (fun _ _ _ _ _ z => z.elim)
      obtain ⟨o335981, rfl, rfl, hdc, hds, bo335981, x335982⟩ := hp335978
      change G _ _ _ _ _ _ _ (.int o335981 :: _) _ _ _
      refine G_widen (cs' := 0) (sl' := 0) (by omega) (by omega) ?_
      refine G_if_eq 60 dr_cX17_coloured_44 (by decide +kernel) (fun hc335983 => ?_) (fun hc335983 => ?_)
      · have r335984 : o335981.toInt = 0 := gj_eq hc335983 (show Int32.toInt 0 = 0 by decide)
        have bo335981' : gB o335981 0 0 := ⟨by omega, by omega⟩
        exact G_vretA dr_cX17_coloured_60 rfl (Nat.le_of_ble_eq_true rfl) (Nat.le_of_ble_eq_true rfl) ⟨F335888, rfl, rfl, hT, (rStr_rf (γ := γ) (W := [1]) (F := F335888)), (Nat.le_of_ble_eq_true rfl), (Nat.le_of_ble_eq_true rfl), (fun _ _ => rfl), rfl, rfl, rfl⟩
      · have r335985 : o335981.toInt ≠ 0 := gj_neq hc335983 (show Int32.toInt 0 = 0 by decide)
        have bo335981' : gB o335981 1 1 := ⟨by omega, by omega⟩
        refine G_aload_n 1 dr_cX17_coloured_47 rfl ?_
        refine G_aload_n 0 dr_cX17_coloured_48 rfl ?_
        refine Gp_get 17 hm335893 he335894 dr_cX17_coloured_49 (gk_X17 D I) (Nat.le_of_ble_eq_true rfl) wr_7_91 rfl ?_
        refine G_aload_n 1 dr_cX17_coloured_52 rfl ?_
        refine Gp_get 1 hm335943 he335944 dr_cX17_coloured_53 (gk_X15 D I) (Nat.le_of_ble_eq_true rfl) wr_9_182 rfl ?_
        refine Gp_iald 0 hm335940 he335941 dr_cX17_coloured_56 rfl (gB_in bp335946 (by decide) (by decide)) (G_nam fun z335986 hz335986 => ?_)
        have bz335986 : gB z335986 (-1) 31 := by rw [hz335986]; exact bf335942 _
        have r335987 : 0 ≤ z335986.toInt := by rw [hz335986]; exact cq335957 _ (Or.inl ⟨by omega, rfl⟩)
        have bz335986' : gB z335986 0 31 := ⟨by omega, by omega⟩
        refine Gp_put 1 hm335943 he335944 dr_cX17_coloured_57 (gk_X15 D I) (Nat.le_of_ble_eq_true rfl) wr_9_182 rfl rfl rfl (Nat.le_of_ble_eq_true rfl) (fun F335988 e335989 n335990 => ?_)
        have he335991 : F335988 q335889 = .inr (22, [.ref (γ 9 0), .ref (γ 9 1), .ref (γ 9 2), .ref (γ 9 3), .ref (γ 9 4), .ref (γ 9 5), .ref (γ 9 6), .ref (γ 9 7), .ref (γ 9 8), .int p335897, .int p335898, .int p335899, .int p335900, .int p335901, .int p335902, .ref (γ 9 15), .ref (γ 9 16), .ref (γ 9 17), .ref (γ 9 18), .ref (γ 9 19), .ref (γ 9 20), .ref (γ 9 21), .ref (γ 9 22), .int p335903, .int p335904, .int p335905, .int p335906, .int p335907, .ref q335895, .ref (γ 9 29), .int p335908, .ref (γ 9 31), .int p335909, .int p335910, .int p335911, .ref q335896]) := (n335990 q335889 (rn_oo he335894 he335944 (by decide))).trans he335894
        have he335992 : F335988 (γ 9 17) = .inl (I .int, 2000, .inl f335942) := (n335990 (γ 9 17) (rn_ao he335941 he335944)).trans he335941
        have he335993 : F335988 q335890 = .inr (20, [.int p335945, .int z335986, .int p335947, .int p335948, .int p335949, .int p335950, .int p335951]) := e335989
        have hs335994 : rStr γ [1] F335888 F335988 := rStr_pu2 (rStr_rf (γ := γ) (W := [1]) (F := F335888)) n335990 htq335890 (by decide)
        have kp335995 : F335988 q335889 = F335888 q335889 := n335990 q335889 (rn_ty htq335889 htq335890 (by decide))
        have kp335996 : F335988 (γ 9 3) = F335888 (γ 9 3) := n335990 (γ 9 3) (rn_ty ht335917 htq335890 (by decide))
        have kp335997 : F335988 (γ 9 17) = F335888 (γ 9 17) := n335990 (γ 9 17) (rn_ty ht335925 htq335890 (by decide))
        have hT335998 : RS D I P335887 F335988 γ el := RS_set hT n335990 htq335890 (by decide) ⟨p335945, z335986, p335947, p335948, p335949, p335950, p335951, he335993, bp335945, (gB_w bz335986' (by decide) (by decide)), bp335949, bp335950, bp335951, (by omega), (by omega), (by omega), (by omega), (by omega)⟩
        have of335999 : ∀ b, b ≠ q335890 → F335988 b = F335888 b := fun b hb => n335990 b hb
        exact G_vretA dr_cX17_coloured_60 rfl (Nat.le_of_ble_eq_true rfl) (Nat.le_of_ble_eq_true rfl) ⟨F335988, rfl, rfl, hT335998, hs335994, (Nat.le_of_ble_eq_true rfl), (Nat.le_of_ble_eq_true rfl), of335999, kp335995, kp335996, kp335997⟩
    · have r336000 : o335972.toInt ≠ 0 := gj_neq hc335974 (show Int32.toInt 0 = 0 by decide)
      have bo335972' : gB o335972 1 1 := ⟨by omega, by omega⟩
      refine G_aload_n 1 dr_cX17_coloured_27 rfl ?_
      refine G_aload_n 0 dr_cX17_coloured_28 rfl ?_
      refine Gp_get 17 hm335893 he335894 dr_cX17_coloured_29 (gk_X17 D I) (Nat.le_of_ble_eq_true rfl) wr_7_91 rfl ?_
      refine G_aload_n 1 dr_cX17_coloured_32 rfl ?_
      refine Gp_get 3 hm335943 he335944 dr_cX17_coloured_33 (gk_X15 D I) (Nat.le_of_ble_eq_true rfl) wr_9_190 rfl ?_
      refine Gp_iald 0 hm335940 he335941 dr_cX17_coloured_36 rfl (gB_inr (by omega) (by omega)) (G_nam fun z336001 hz336001 => ?_)
      have bz336001 : gB z336001 (-1) 31 := by rw [hz336001]; exact bf335942 _
      have r336002 : 0 ≤ z336001.toInt := by rw [hz336001]; exact cq335957 _ (Or.inr (Or.inr ⟨by omega, rfl⟩))
      have bz336001' : gB z336001 0 31 := ⟨by omega, by omega⟩
      refine Gp_put 3 hm335943 he335944 dr_cX17_coloured_37 (gk_X15 D I) (Nat.le_of_ble_eq_true rfl) wr_9_190 rfl rfl rfl (Nat.le_of_ble_eq_true rfl) (fun F336003 e336004 n336005 => ?_)
      have he336006 : F336003 q335889 = .inr (22, [.ref (γ 9 0), .ref (γ 9 1), .ref (γ 9 2), .ref (γ 9 3), .ref (γ 9 4), .ref (γ 9 5), .ref (γ 9 6), .ref (γ 9 7), .ref (γ 9 8), .int p335897, .int p335898, .int p335899, .int p335900, .int p335901, .int p335902, .ref (γ 9 15), .ref (γ 9 16), .ref (γ 9 17), .ref (γ 9 18), .ref (γ 9 19), .ref (γ 9 20), .ref (γ 9 21), .ref (γ 9 22), .int p335903, .int p335904, .int p335905, .int p335906, .int p335907, .ref q335895, .ref (γ 9 29), .int p335908, .ref (γ 9 31), .int p335909, .int p335910, .int p335911, .ref q335896]) := (n336005 q335889 (rn_oo he335894 he335944 (by decide))).trans he335894
      have he336007 : F336003 (γ 9 17) = .inl (I .int, 2000, .inl f335942) := (n336005 (γ 9 17) (rn_ao he335941 he335944)).trans he335941
      have he336008 : F336003 q335890 = .inr (20, [.int p335945, .int p335946, .int p335947, .int z336001, .int p335949, .int p335950, .int p335951]) := e336004
      have hs336009 : rStr γ [1] F335888 F336003 := rStr_pu2 (rStr_rf (γ := γ) (W := [1]) (F := F335888)) n336005 htq335890 (by decide)
      have kp336010 : F336003 q335889 = F335888 q335889 := n336005 q335889 (rn_ty htq335889 htq335890 (by decide))
      have kp336011 : F336003 (γ 9 3) = F335888 (γ 9 3) := n336005 (γ 9 3) (rn_ty ht335917 htq335890 (by decide))
      have kp336012 : F336003 (γ 9 17) = F335888 (γ 9 17) := n336005 (γ 9 17) (rn_ty ht335925 htq335890 (by decide))
      refine G_aload_n 1 dr_cX17_coloured_40 rfl ?_
      have hT336013 : RS D I P335887 F336003 γ el := RS_set hT n336005 htq335890 (by decide) ⟨p335945, p335946, p335947, z336001, p335949, p335950, p335951, he336008, bp335945, bp335946, bp335949, bp335950, bp335951, (by omega), (by omega), (by omega), (by omega), (by omega)⟩
      have of336014 : ∀ b, b ≠ q335890 → F336003 b = F335888 b := fun b hb => n336005 b hb
      refine Gw_callV (As := []) (gV_ok D I) (cp_215537_Row_sets l hl0 D I P335887 F336003 q335890 p335945 p335946 p335947 z336001 p335949 p335950 p335951 hm335943 he336008 bp335945 bp335946 bp335949 bp335950 bp335951) dr_cX17_coloured_41 ⟨wr_10_181, wr_1_39, wr_10_184, by decide, rfl, (Nat.le_of_ble_eq_true rfl), (Nat.le_of_ble_eq_true rfl)⟩ wr_10_182 wr_10_183 hm335943 he336008 rfl (show 0 + 0 ≤ 0 by first | omega | decide) (show 0 + 0 ≤ 0 by first | omega | decide) (Nat.le_of_ble_eq_true rfl) (fun r336018 w336019 dc336015 ds336016 hp336017 => ?_) (fun _ _ _ _ _ z => z.elim)
      obtain ⟨o336020, rfl, rfl, hdc, hds, bo336020, x336021⟩ := hp336017
      change G _ _ _ _ _ _ _ (.int o336020 :: _) _ _ _
      refine G_widen (cs' := 0) (sl' := 0) (by omega) (by omega) ?_
      refine G_if_eq 60 dr_cX17_coloured_44 (by decide +kernel) (fun hc336022 => ?_) (fun hc336022 => ?_)
      · have r336023 : o336020.toInt = 0 := gj_eq hc336022 (show Int32.toInt 0 = 0 by decide)
        have bo336020' : gB o336020 0 0 := ⟨by omega, by omega⟩
        exact G_vretA dr_cX17_coloured_60 rfl (Nat.le_of_ble_eq_true rfl) (Nat.le_of_ble_eq_true rfl) ⟨F336003, rfl, rfl, hT336013, hs336009, (Nat.le_of_ble_eq_true rfl), (Nat.le_of_ble_eq_true rfl), of336014, kp336010, kp336011, kp336012⟩
      · have r336024 : o336020.toInt ≠ 0 := gj_neq hc336022 (show Int32.toInt 0 = 0 by decide)
        have bo336020' : gB o336020 1 1 := ⟨by omega, by omega⟩
        refine G_aload_n 1 dr_cX17_coloured_47 rfl ?_
        refine G_aload_n 0 dr_cX17_coloured_48 rfl ?_
        refine Gp_get 17 hm335893 he336006 dr_cX17_coloured_49 (gk_X17 D I) (Nat.le_of_ble_eq_true rfl) wr_7_91 rfl ?_
        refine G_aload_n 1 dr_cX17_coloured_52 rfl ?_
        refine Gp_get 1 hm335943 he336008 dr_cX17_coloured_53 (gk_X15 D I) (Nat.le_of_ble_eq_true rfl) wr_9_182 rfl ?_
        refine Gp_iald 0 hm335940 he336007 dr_cX17_coloured_56 rfl (gB_in bp335946 (by decide) (by decide)) (G_nam fun z336025 hz336025 => ?_)
        have bz336025 : gB z336025 (-1) 31 := by rw [hz336025]; exact bf335942 _
        have r336026 : 0 ≤ z336025.toInt := by rw [hz336025]; exact cq335957 _ (Or.inl ⟨by omega, rfl⟩)
        have bz336025' : gB z336025 0 31 := ⟨by omega, by omega⟩
        refine Gp_put 1 hm335943 he336008 dr_cX17_coloured_57 (gk_X15 D I) (Nat.le_of_ble_eq_true rfl) wr_9_182 rfl rfl rfl (Nat.le_of_ble_eq_true rfl) (fun F336027 e336028 n336029 => ?_)
        have he336030 : F336027 q335889 = .inr (22, [.ref (γ 9 0), .ref (γ 9 1), .ref (γ 9 2), .ref (γ 9 3), .ref (γ 9 4), .ref (γ 9 5), .ref (γ 9 6), .ref (γ 9 7), .ref (γ 9 8), .int p335897, .int p335898, .int p335899, .int p335900, .int p335901, .int p335902, .ref (γ 9 15), .ref (γ 9 16), .ref (γ 9 17), .ref (γ 9 18), .ref (γ 9 19), .ref (γ 9 20), .ref (γ 9 21), .ref (γ 9 22), .int p335903, .int p335904, .int p335905, .int p335906, .int p335907, .ref q335895, .ref (γ 9 29), .int p335908, .ref (γ 9 31), .int p335909, .int p335910, .int p335911, .ref q335896]) := (n336029 q335889 (rn_oo he336006 he336008 (by decide))).trans he336006
        have he336031 : F336027 (γ 9 17) = .inl (I .int, 2000, .inl f335942) := (n336029 (γ 9 17) (rn_ao he336007 he336008)).trans he336007
        have he336032 : F336027 q335890 = .inr (20, [.int p335945, .int z336025, .int p335947, .int z336001, .int p335949, .int p335950, .int p335951]) := e336028
        have hs336033 : rStr γ [1] F335888 F336027 := rStr_pu2 hs336009 n336029 htq335890 (by decide)
        have kp336034 : F336027 q335889 = F335888 q335889 := (n336029 q335889 (rn_ty htq335889 htq335890 (by decide))).trans kp336010
        have kp336035 : F336027 (γ 9 3) = F335888 (γ 9 3) := (n336029 (γ 9 3) (rn_ty ht335917 htq335890 (by decide))).trans kp336011
        have kp336036 : F336027 (γ 9 17) = F335888 (γ 9 17) := (n336029 (γ 9 17) (rn_ty ht335925 htq335890 (by decide))).trans kp336012
        have hT336037 : RS D I P335887 F336027 γ el := RS_set hT336013 n336029 htq335890 (by decide) ⟨p335945, z336025, p335947, z336001, p335949, p335950, p335951, he336032, bp335945, (gB_w bz336025' (by decide) (by decide)), bp335949, bp335950, bp335951, (by omega), (by omega), (by omega), (by omega), (by omega)⟩
        have of336038 : ∀ b, b ≠ q335890 → F336027 b = F335888 b := fun b hb => (n336029 b hb).trans (of336014 b hb)
        exact G_vretA dr_cX17_coloured_60 rfl (Nat.le_of_ble_eq_true rfl) (Nat.le_of_ble_eq_true rfl) ⟨F336027, rfl, rfl, hT336037, hs336033, (Nat.le_of_ble_eq_true rfl), (Nat.le_of_ble_eq_true rfl), of336038, kp336034, kp336035, kp336036⟩
  · have r336039 : o335963.toInt ≠ 0 := gj_neq hc335965 (show Int32.toInt 0 = 0 by decide)
    have bo335963' : gB o335963 1 1 := ⟨by omega, by omega⟩
    refine G_aload_n 1 dr_cX17_coloured_7 rfl ?_
    refine G_aload_n 0 dr_cX17_coloured_8 rfl ?_
    refine Gp_get 17 hm335893 he335894 dr_cX17_coloured_9 (gk_X17 D I) (Nat.le_of_ble_eq_true rfl) wr_7_91 rfl ?_
    refine G_aload_n 1 dr_cX17_coloured_12 rfl ?_
    refine Gp_get 2 hm335943 he335944 dr_cX17_coloured_13 (gk_X15 D I) (Nat.le_of_ble_eq_true rfl) wr_9_186 rfl ?_
    refine Gp_iald 0 hm335940 he335941 dr_cX17_coloured_16 rfl (gB_inr (by omega) (by omega)) (G_nam fun z336040 hz336040 => ?_)
    have bz336040 : gB z336040 (-1) 31 := by rw [hz336040]; exact bf335942 _
    have r336041 : 0 ≤ z336040.toInt := by rw [hz336040]; exact cq335957 _ (Or.inr (Or.inl ⟨by omega, rfl⟩))
    have bz336040' : gB z336040 0 31 := ⟨by omega, by omega⟩
    refine Gp_put 2 hm335943 he335944 dr_cX17_coloured_17 (gk_X15 D I) (Nat.le_of_ble_eq_true rfl) wr_9_186 rfl rfl rfl (Nat.le_of_ble_eq_true rfl) (fun F336042 e336043 n336044 => ?_)
    have he336045 : F336042 q335889 = .inr (22, [.ref (γ 9 0), .ref (γ 9 1), .ref (γ 9 2), .ref (γ 9 3), .ref (γ 9 4), .ref (γ 9 5), .ref (γ 9 6), .ref (γ 9 7), .ref (γ 9 8), .int p335897, .int p335898, .int p335899, .int p335900, .int p335901, .int p335902, .ref (γ 9 15), .ref (γ 9 16), .ref (γ 9 17), .ref (γ 9 18), .ref (γ 9 19), .ref (γ 9 20), .ref (γ 9 21), .ref (γ 9 22), .int p335903, .int p335904, .int p335905, .int p335906, .int p335907, .ref q335895, .ref (γ 9 29), .int p335908, .ref (γ 9 31), .int p335909, .int p335910, .int p335911, .ref q335896]) := (n336044 q335889 (rn_oo he335894 he335944 (by decide))).trans he335894
    have he336046 : F336042 (γ 9 17) = .inl (I .int, 2000, .inl f335942) := (n336044 (γ 9 17) (rn_ao he335941 he335944)).trans he335941
    have he336047 : F336042 q335890 = .inr (20, [.int p335945, .int p335946, .int z336040, .int p335948, .int p335949, .int p335950, .int p335951]) := e336043
    have hs336048 : rStr γ [1] F335888 F336042 := rStr_pu2 (rStr_rf (γ := γ) (W := [1]) (F := F335888)) n336044 htq335890 (by decide)
    have kp336049 : F336042 q335889 = F335888 q335889 := n336044 q335889 (rn_ty htq335889 htq335890 (by decide))
    have kp336050 : F336042 (γ 9 3) = F335888 (γ 9 3) := n336044 (γ 9 3) (rn_ty ht335917 htq335890 (by decide))
    have kp336051 : F336042 (γ 9 17) = F335888 (γ 9 17) := n336044 (γ 9 17) (rn_ty ht335925 htq335890 (by decide))
    refine G_aload_n 1 dr_cX17_coloured_20 rfl ?_
    have hT336052 : RS D I P335887 F336042 γ el := RS_set hT n336044 htq335890 (by decide) ⟨p335945, p335946, z336040, p335948, p335949, p335950, p335951, he336047, bp335945, bp335946, bp335949, bp335950, bp335951, (by omega), (by omega), (by omega), (by omega), (by omega)⟩
    have of336053 : ∀ b, b ≠ q335890 → F336042 b = F335888 b := fun b hb => n336044 b hb
    refine Gw_callV (As := []) (gV_ok D I) (cp_215516_Row_usesB l hl0 D I P335887 F336042 q335890 p335945 p335946 z336040 p335948 p335949 p335950 p335951 hm335943 he336047 bp335945 bp335946 bp335949 bp335950 bp335951) dr_cX17_coloured_21 ⟨wr_10_196, wr_1_39, wr_10_199, by decide, rfl, (Nat.le_of_ble_eq_true rfl), (Nat.le_of_ble_eq_true rfl)⟩ wr_10_197 wr_10_198 hm335943 he336047 rfl (show 0 + 0 ≤ 0 by first | omega | decide) (show 0 + 0 ≤ 0 by first | omega | decide) (Nat.le_of_ble_eq_true rfl) (fun r336057 w336058 dc336054 ds336055 hp336056 => ?_) (fun _ _ _ _ _ z => z.elim)
    obtain ⟨o336059, rfl, rfl, hdc, hds, bo336059, x336060⟩ := hp336056
    change G _ _ _ _ _ _ _ (.int o336059 :: _) _ _ _
    refine G_widen (cs' := 0) (sl' := 0) (by omega) (by omega) ?_
    refine G_if_eq 40 dr_cX17_coloured_24 (by decide +kernel) (fun hc336061 => ?_) (fun hc336061 => ?_)
    · have r336062 : o336059.toInt = 0 := gj_eq hc336061 (show Int32.toInt 0 = 0 by decide)
      have bo336059' : gB o336059 0 0 := ⟨by omega, by omega⟩
      refine G_aload_n 1 dr_cX17_coloured_40 rfl ?_
      refine Gw_callV (As := []) (gV_ok D I) (cp_215537_Row_sets l hl0 D I P335887 F336042 q335890 p335945 p335946 z336040 p335948 p335949 p335950 p335951 hm335943 he336047 bp335945 bp335946 bp335949 bp335950 bp335951) dr_cX17_coloured_41 ⟨wr_10_181, wr_1_39, wr_10_184, by decide, rfl, (Nat.le_of_ble_eq_true rfl), (Nat.le_of_ble_eq_true rfl)⟩ wr_10_182 wr_10_183 hm335943 he336047 rfl (show 0 + 0 ≤ 0 by first | omega | decide) (show 0 + 0 ≤ 0 by first | omega | decide) (Nat.le_of_ble_eq_true rfl) (fun r336066 w336067 dc336063 ds336064 hp336065 => ?_) (fun _ _ _ _ _ z => z.elim)
      obtain ⟨o336068, rfl, rfl, hdc, hds, bo336068, x336069⟩ := hp336065
      change G _ _ _ _ _ _ _ (.int o336068 :: _) _ _ _
      refine G_widen (cs' := 0) (sl' := 0) (by omega) (by omega) ?_
      refine G_if_eq 60 dr_cX17_coloured_44 (by decide +kernel) (fun hc336070 => ?_) (fun hc336070 => ?_)
      · have r336071 : o336068.toInt = 0 := gj_eq hc336070 (show Int32.toInt 0 = 0 by decide)
        have bo336068' : gB o336068 0 0 := ⟨by omega, by omega⟩
        exact G_vretA dr_cX17_coloured_60 rfl (Nat.le_of_ble_eq_true rfl) (Nat.le_of_ble_eq_true rfl) ⟨F336042, rfl, rfl, hT336052, hs336048, (Nat.le_of_ble_eq_true rfl), (Nat.le_of_ble_eq_true rfl), of336053, kp336049, kp336050, kp336051⟩
      · have r336072 : o336068.toInt ≠ 0 := gj_neq hc336070 (show Int32.toInt 0 = 0 by decide)
        have bo336068' : gB o336068 1 1 := ⟨by omega, by omega⟩
        refine G_aload_n 1 dr_cX17_coloured_47 rfl ?_
        refine G_aload_n 0 dr_cX17_coloured_48 rfl ?_
        refine Gp_get 17 hm335893 he336045 dr_cX17_coloured_49 (gk_X17 D I) (Nat.le_of_ble_eq_true rfl) wr_7_91 rfl ?_
        refine G_aload_n 1 dr_cX17_coloured_52 rfl ?_
        refine Gp_get 1 hm335943 he336047 dr_cX17_coloured_53 (gk_X15 D I) (Nat.le_of_ble_eq_true rfl) wr_9_182 rfl ?_
        refine Gp_iald 0 hm335940 he336046 dr_cX17_coloured_56 rfl (gB_in bp335946 (by decide) (by decide)) (G_nam fun z336073 hz336073 => ?_)
        have bz336073 : gB z336073 (-1) 31 := by rw [hz336073]; exact bf335942 _
        have r336074 : 0 ≤ z336073.toInt := by rw [hz336073]; exact cq335957 _ (Or.inl ⟨by omega, rfl⟩)
        have bz336073' : gB z336073 0 31 := ⟨by omega, by omega⟩
        refine Gp_put 1 hm335943 he336047 dr_cX17_coloured_57 (gk_X15 D I) (Nat.le_of_ble_eq_true rfl) wr_9_182 rfl rfl rfl (Nat.le_of_ble_eq_true rfl) (fun F336075 e336076 n336077 => ?_)
        have he336078 : F336075 q335889 = .inr (22, [.ref (γ 9 0), .ref (γ 9 1), .ref (γ 9 2), .ref (γ 9 3), .ref (γ 9 4), .ref (γ 9 5), .ref (γ 9 6), .ref (γ 9 7), .ref (γ 9 8), .int p335897, .int p335898, .int p335899, .int p335900, .int p335901, .int p335902, .ref (γ 9 15), .ref (γ 9 16), .ref (γ 9 17), .ref (γ 9 18), .ref (γ 9 19), .ref (γ 9 20), .ref (γ 9 21), .ref (γ 9 22), .int p335903, .int p335904, .int p335905, .int p335906, .int p335907, .ref q335895, .ref (γ 9 29), .int p335908, .ref (γ 9 31), .int p335909, .int p335910, .int p335911, .ref q335896]) := (n336077 q335889 (rn_oo he336045 he336047 (by decide))).trans he336045
        have he336079 : F336075 (γ 9 17) = .inl (I .int, 2000, .inl f335942) := (n336077 (γ 9 17) (rn_ao he336046 he336047)).trans he336046
        have he336080 : F336075 q335890 = .inr (20, [.int p335945, .int z336073, .int z336040, .int p335948, .int p335949, .int p335950, .int p335951]) := e336076
        have hs336081 : rStr γ [1] F335888 F336075 := rStr_pu2 hs336048 n336077 htq335890 (by decide)
        have kp336082 : F336075 q335889 = F335888 q335889 := (n336077 q335889 (rn_ty htq335889 htq335890 (by decide))).trans kp336049
        have kp336083 : F336075 (γ 9 3) = F335888 (γ 9 3) := (n336077 (γ 9 3) (rn_ty ht335917 htq335890 (by decide))).trans kp336050
        have kp336084 : F336075 (γ 9 17) = F335888 (γ 9 17) := (n336077 (γ 9 17) (rn_ty ht335925 htq335890 (by decide))).trans kp336051
        have hT336085 : RS D I P335887 F336075 γ el := RS_set hT336052 n336077 htq335890 (by decide) ⟨p335945, z336073, z336040, p335948, p335949, p335950, p335951, he336080, bp335945, (gB_w bz336073' (by decide) (by decide)), bp335949, bp335950, bp335951, (by omega), (by omega), (by omega), (by omega), (by omega)⟩
        have of336086 : ∀ b, b ≠ q335890 → F336075 b = F335888 b := fun b hb => (n336077 b hb).trans (of336053 b hb)
        exact G_vretA dr_cX17_coloured_60 rfl (Nat.le_of_ble_eq_true rfl) (Nat.le_of_ble_eq_true rfl) ⟨F336075, rfl, rfl, hT336085, hs336081, (Nat.le_of_ble_eq_true rfl), (Nat.le_of_ble_eq_true rfl), of336086, kp336082, kp336083, kp336084⟩
    · have r336087 : o336059.toInt ≠ 0 := gj_neq hc336061 (show Int32.toInt 0 = 0 by decide)
      have bo336059' : gB o336059 1 1 := ⟨by omega, by omega⟩
      refine G_aload_n 1 dr_cX17_coloured_27 rfl ?_
      refine G_aload_n 0 dr_cX17_coloured_28 rfl ?_
      refine Gp_get 17 hm335893 he336045 dr_cX17_coloured_29 (gk_X17 D I) (Nat.le_of_ble_eq_true rfl) wr_7_91 rfl ?_
      refine G_aload_n 1 dr_cX17_coloured_32 rfl ?_
      refine Gp_get 3 hm335943 he336047 dr_cX17_coloured_33 (gk_X15 D I) (Nat.le_of_ble_eq_true rfl) wr_9_190 rfl ?_
      refine Gp_iald 0 hm335940 he336046 dr_cX17_coloured_36 rfl (gB_inr (by omega) (by omega)) (G_nam fun z336088 hz336088 => ?_)
      have bz336088 : gB z336088 (-1) 31 := by rw [hz336088]; exact bf335942 _
      have r336089 : 0 ≤ z336088.toInt := by rw [hz336088]; exact cq335957 _ (Or.inr (Or.inr ⟨by omega, rfl⟩))
      have bz336088' : gB z336088 0 31 := ⟨by omega, by omega⟩
      refine Gp_put 3 hm335943 he336047 dr_cX17_coloured_37 (gk_X15 D I) (Nat.le_of_ble_eq_true rfl) wr_9_190 rfl rfl rfl (Nat.le_of_ble_eq_true rfl) (fun F336090 e336091 n336092 => ?_)
      have he336093 : F336090 q335889 = .inr (22, [.ref (γ 9 0), .ref (γ 9 1), .ref (γ 9 2), .ref (γ 9 3), .ref (γ 9 4), .ref (γ 9 5), .ref (γ 9 6), .ref (γ 9 7), .ref (γ 9 8), .int p335897, .int p335898, .int p335899, .int p335900, .int p335901, .int p335902, .ref (γ 9 15), .ref (γ 9 16), .ref (γ 9 17), .ref (γ 9 18), .ref (γ 9 19), .ref (γ 9 20), .ref (γ 9 21), .ref (γ 9 22), .int p335903, .int p335904, .int p335905, .int p335906, .int p335907, .ref q335895, .ref (γ 9 29), .int p335908, .ref (γ 9 31), .int p335909, .int p335910, .int p335911, .ref q335896]) := (n336092 q335889 (rn_oo he336045 he336047 (by decide))).trans he336045
      have he336094 : F336090 (γ 9 17) = .inl (I .int, 2000, .inl f335942) := (n336092 (γ 9 17) (rn_ao he336046 he336047)).trans he336046
      have he336095 : F336090 q335890 = .inr (20, [.int p335945, .int p335946, .int z336040, .int z336088, .int p335949, .int p335950, .int p335951]) := e336091
      have hs336096 : rStr γ [1] F335888 F336090 := rStr_pu2 hs336048 n336092 htq335890 (by decide)
      have kp336097 : F336090 q335889 = F335888 q335889 := (n336092 q335889 (rn_ty htq335889 htq335890 (by decide))).trans kp336049
      have kp336098 : F336090 (γ 9 3) = F335888 (γ 9 3) := (n336092 (γ 9 3) (rn_ty ht335917 htq335890 (by decide))).trans kp336050
      have kp336099 : F336090 (γ 9 17) = F335888 (γ 9 17) := (n336092 (γ 9 17) (rn_ty ht335925 htq335890 (by decide))).trans kp336051
      refine G_aload_n 1 dr_cX17_coloured_40 rfl ?_
      have hT336100 : RS D I P335887 F336090 γ el := RS_set hT336052 n336092 htq335890 (by decide) ⟨p335945, p335946, z336040, z336088, p335949, p335950, p335951, he336095, bp335945, bp335946, bp335949, bp335950, bp335951, (by omega), (by omega), (by omega), (by omega), (by omega)⟩
      have of336101 : ∀ b, b ≠ q335890 → F336090 b = F335888 b := fun b hb => (n336092 b hb).trans (of336053 b hb)
      refine Gw_callV (As := []) (gV_ok D I) (cp_215537_Row_sets l hl0 D I P335887 F336090 q335890 p335945 p335946 z336040 z336088 p335949 p335950 p335951 hm335943 he336095 bp335945 bp335946 bp335949 bp335950 bp335951) dr_cX17_coloured_41 ⟨wr_10_181, wr_1_39, wr_10_184, by decide, rfl, (Nat.le_of_ble_eq_true rfl), (Nat.le_of_ble_eq_true rfl)⟩ wr_10_182 wr_10_183 hm335943 he336095 rfl (show 0 + 0 ≤ 0 by first | omega | decide) (show 0 + 0 ≤ 0 by first | omega | decide) (Nat.le_of_ble_eq_true rfl) (fun r336105 w336106 dc336102 ds336103 hp336104 => ?_) (fun _ _ _ _ _ z => z.elim)
      obtain ⟨o336107, rfl, rfl, hdc, hds, bo336107, x336108⟩ := hp336104
      change G _ _ _ _ _ _ _ (.int o336107 :: _) _ _ _
      refine G_widen (cs' := 0) (sl' := 0) (by omega) (by omega) ?_
      refine G_if_eq 60 dr_cX17_coloured_44 (by decide +kernel) (fun hc336109 => ?_) (fun hc336109 => ?_)
      · have r336110 : o336107.toInt = 0 := gj_eq hc336109 (show Int32.toInt 0 = 0 by decide)
        have bo336107' : gB o336107 0 0 := ⟨by omega, by omega⟩
        exact G_vretA dr_cX17_coloured_60 rfl (Nat.le_of_ble_eq_true rfl) (Nat.le_of_ble_eq_true rfl) ⟨F336090, rfl, rfl, hT336100, hs336096, (Nat.le_of_ble_eq_true rfl), (Nat.le_of_ble_eq_true rfl), of336101, kp336097, kp336098, kp336099⟩
      · have r336111 : o336107.toInt ≠ 0 := gj_neq hc336109 (show Int32.toInt 0 = 0 by decide)
        have bo336107' : gB o336107 1 1 := ⟨by omega, by omega⟩
        refine G_aload_n 1 dr_cX17_coloured_47 rfl ?_
        refine G_aload_n 0 dr_cX17_coloured_48 rfl ?_
        refine Gp_get 17 hm335893 he336093 dr_cX17_coloured_49 (gk_X17 D I) (Nat.le_of_ble_eq_true rfl) wr_7_91 rfl ?_
        refine G_aload_n 1 dr_cX17_coloured_52 rfl ?_
        refine Gp_get 1 hm335943 he336095 dr_cX17_coloured_53 (gk_X15 D I) (Nat.le_of_ble_eq_true rfl) wr_9_182 rfl ?_
        refine Gp_iald 0 hm335940 he336094 dr_cX17_coloured_56 rfl (gB_in bp335946 (by decide) (by decide)) (G_nam fun z336112 hz336112 => ?_)
        have bz336112 : gB z336112 (-1) 31 := by rw [hz336112]; exact bf335942 _
        have r336113 : 0 ≤ z336112.toInt := by rw [hz336112]; exact cq335957 _ (Or.inl ⟨by omega, rfl⟩)
        have bz336112' : gB z336112 0 31 := ⟨by omega, by omega⟩
        refine Gp_put 1 hm335943 he336095 dr_cX17_coloured_57 (gk_X15 D I) (Nat.le_of_ble_eq_true rfl) wr_9_182 rfl rfl rfl (Nat.le_of_ble_eq_true rfl) (fun F336114 e336115 n336116 => ?_)
        have he336117 : F336114 q335889 = .inr (22, [.ref (γ 9 0), .ref (γ 9 1), .ref (γ 9 2), .ref (γ 9 3), .ref (γ 9 4), .ref (γ 9 5), .ref (γ 9 6), .ref (γ 9 7), .ref (γ 9 8), .int p335897, .int p335898, .int p335899, .int p335900, .int p335901, .int p335902, .ref (γ 9 15), .ref (γ 9 16), .ref (γ 9 17), .ref (γ 9 18), .ref (γ 9 19), .ref (γ 9 20), .ref (γ 9 21), .ref (γ 9 22), .int p335903, .int p335904, .int p335905, .int p335906, .int p335907, .ref q335895, .ref (γ 9 29), .int p335908, .ref (γ 9 31), .int p335909, .int p335910, .int p335911, .ref q335896]) := (n336116 q335889 (rn_oo he336093 he336095 (by decide))).trans he336093
        have he336118 : F336114 (γ 9 17) = .inl (I .int, 2000, .inl f335942) := (n336116 (γ 9 17) (rn_ao he336094 he336095)).trans he336094
        have he336119 : F336114 q335890 = .inr (20, [.int p335945, .int z336112, .int z336040, .int z336088, .int p335949, .int p335950, .int p335951]) := e336115
        have hs336120 : rStr γ [1] F335888 F336114 := rStr_pu2 hs336096 n336116 htq335890 (by decide)
        have kp336121 : F336114 q335889 = F335888 q335889 := (n336116 q335889 (rn_ty htq335889 htq335890 (by decide))).trans kp336097
        have kp336122 : F336114 (γ 9 3) = F335888 (γ 9 3) := (n336116 (γ 9 3) (rn_ty ht335917 htq335890 (by decide))).trans kp336098
        have kp336123 : F336114 (γ 9 17) = F335888 (γ 9 17) := (n336116 (γ 9 17) (rn_ty ht335925 htq335890 (by decide))).trans kp336099
        have hT336124 : RS D I P335887 F336114 γ el := RS_set hT336100 n336116 htq335890 (by decide) ⟨p335945, z336112, z336040, z336088, p335949, p335950, p335951, he336119, bp335945, (gB_w bz336112' (by decide) (by decide)), bp335949, bp335950, bp335951, (by omega), (by omega), (by omega), (by omega), (by omega)⟩
        have of336125 : ∀ b, b ≠ q335890 → F336114 b = F335888 b := fun b hb => (n336116 b hb).trans (of336101 b hb)
        exact G_vretA dr_cX17_coloured_60 rfl (Nat.le_of_ble_eq_true rfl) (Nat.le_of_ble_eq_true rfl) ⟨F336114, rfl, rfl, hT336124, hs336120, (Nat.le_of_ble_eq_true rfl), (Nat.le_of_ble_eq_true rfl), of336125, kp336121, kp336122, kp336123⟩
abbrev ky_336133_SpillForgeModel_share : gKey := (cX17_share, 7, "SpillForgeModel", none, [], "share", fun _ _ => True)
def pt_336133_SpillForgeModel_share (D : va_G) (I : FieldType → ClassId) (γ el : Nat → Nat → Nat) (P336127 : List Nat) (F336128 : Nat → va_E) (q336129 : Nat) (q336130 : Nat) : Option Value → va_W → Nat → Nat → Prop := fun r w dc ds => ∃ (F357026 : Nat → va_E), r = none ∧ w = va_pl P336127 F357026 ∧ RS D I P336127 F357026 γ el ∧ rStr γ [1] F336128 F357026 ∧ dc ≤ 0 ∧ ds ≤ 0 ∧ mKp (F336128 q336129) (F357026 q336129)
set_option maxRecDepth 100000 in
set_option maxHeartbeats 4000000 in
theorem ct_336133_SpillForgeModel_share (l : Launch) (hl0 : l.stackTraces = false) (D : va_G) (I : FieldType → ClassId) (γ el : Nat → Nat → Nat) (P336127 : List Nat) (F336128 : Nat → va_E) (q336129 : Nat) (q336130 : Nat) (hT : RS D I P336127 F336128 γ el) (htq336129 : rKd γ q336129 10) (htq336130 : rKd γ q336130 9) (x336131 : 0 < γ 6 (γ 1 q336130)) (x336132 : (((γ 7 (γ 1 q336130) : Nat) : Int) ≤ (fI (F336128 q336129) 11).toInt)) : CtA (gV D I) l yX17_share cX17_share 7 none 6 141 0 0 [.ref q336129, .ref q336130] (va_pl P336127 F336128) (pt_336133_SpillForgeModel_share D I γ el P336127 F336128 q336129 q336130) gNA := by
  refine CtA_of hl0 (by decide) (Nat.le_of_ble_eq_true rfl) ?_
  have hm336134 : q336129 ∈ P336127 := RS_m hT htq336129 (by decide)
  refine rk10_e (show rk_10 γ (F336128 q336129) from RS_o hT htq336129) (fun q336136 q336137 p336138 p336139 p336140 p336141 p336142 p336143 p336144 p336145 p336146 p336147 p336148 p336149 p336150 p336151 p336152 he336135 hB336179 ht336153 ht336154 ht336155 ht336156 ht336157 ht336158 ht336159 ht336160 ht336161 ht336162 ht336163 ht336164 ht336165 ht336166 ht336167 ht336168 ht336169 ht336170 ht336171 ht336172 ht336173 ht336174 ht336175 ht336176 hB336180 => ?_)
  have hm336181 : (γ 9 19) ∈ P336127 := RS_m hT ht336168 (by decide)
  obtain ⟨f336183, he336182, bf336183⟩ := show rk_21 I (F336128 (γ 9 19)) from RS_o hT ht336168
  have r336184 : (γ 7 (γ 1 q336130) : Int) ≤ p336140.toInt := by have z := x336132; rw [he336135] at z; exact z
  have bp336140 : gB p336140 0 100 := (hB336179.2.2.1)
  refine G_aload_n 0 dr_cX17_share_0 rfl ?_
  refine G_aload_n 1 dr_cX17_share_1 rfl ?_
  refine G_iconst 1 dr_cX17_share_2 (by decide +kernel) ?_
  refine Gw_callV (As := [.ref q336130, .int 1]) (gV_ok D I) (ct_270222_SpillForgeModel_graph l hl0 D I γ el P336127 F336128 q336129 q336130 1 hT htq336129 htq336130 (gB_w (gBl (show Int32.toInt 1 = 1 by decide)) (by decide) (by decide)) (by omega)) dr_cX17_share_3 ⟨wr_10_233, wr_1_14, wr_10_236, by decide, rfl, (Nat.le_of_ble_eq_true rfl), (Nat.le_of_ble_eq_true rfl)⟩ wr_10_235 wr_p_99 hm336134 he336135 rfl (show 0 + 0 ≤ 0 by first | omega | decide) (show 0 + 0 ≤ 0 by first | omega | decide) (Nat.le_of_ble_eq_true rfl) (fun r336188 w336189 dc336185 ds336186 hp336187 => ?_) (fun _ _ _ _ _ z => z.elim)
  obtain ⟨F336192, rfl, rfl, hT336193, hs336194, hdc, hds, x336190, x336191⟩ := hp336187
  have hs336195 : rStr γ [1] F336128 F336192 := rStr_tr (rStr_rf (γ := γ) (W := [1]) (F := F336128)) (rStr_w hs336194 (by decide))
  have kp336196 : F336192 q336129 = F336128 q336129 := x336191
  have mk336197 : mKp (F336128 q336129) (F336192 q336129) := mKp_tr mKp_rf (mKp_eq x336191)
  have he336198 : F336192 q336129 = .inr (22, [.ref (γ 9 0), .ref (γ 9 1), .ref (γ 9 2), .ref (γ 9 3), .ref (γ 9 4), .ref (γ 9 5), .ref (γ 9 6), .ref (γ 9 7), .ref (γ 9 8), .int p336138, .int p336139, .int p336140, .int p336141, .int p336142, .int p336143, .ref (γ 9 15), .ref (γ 9 16), .ref (γ 9 17), .ref (γ 9 18), .ref (γ 9 19), .ref (γ 9 20), .ref (γ 9 21), .ref (γ 9 22), .int p336144, .int p336145, .int p336146, .int p336147, .int p336148, .ref q336136, .ref (γ 9 29), .int p336149, .ref (γ 9 31), .int p336150, .int p336151, .int p336152, .ref q336137]) := (x336191).trans he336135
  rw [show Int32.toInt 1 = 1 from by decide] at x336190
  change G _ _ _ _ _ _ _ _ _ _ _
  refine G_widen (cs' := 0) (sl' := 0) (by omega) (by omega) ?_
  refine G_iconst 0 dr_cX17_share_6 (by decide +kernel) ?_
  refine G_istore_n (L' := [(2, .int 0), (0, .ref q336129), (1, .ref q336130)]) dr_cX17_share_7 (Nat.le_of_ble_eq_true rfl) rfl ?_
  refine G_iconst 0 dr_cX17_share_8 (by decide +kernel) ?_
  refine G_istore_n (L' := [(3, .int 0), (2, .int 0), (0, .ref q336129), (1, .ref q336130)]) dr_cX17_share_9 (Nat.le_of_ble_eq_true rfl) rfl ?_
  have hlp10_355530 : ∀ (n10_355530 : Nat) (F355524 : Nat → va_E) (g355522 : Int32) (g355523 : Int32), gB g355522 0 100 → gB g355523 0 1999 → RS D I P336127 F355524 γ el → rStr γ [1] F336128 F355524 → (∀ q : Nat, (q : Int) < g355522.toInt → 0 ≤ (cB (F355524 (γ 9 19)) q).toInt ∧ (cB (F355524 (γ 9 19)) q).toInt ≤ q) → (g355523.toInt ≤ 100) → (F355524 q336129 = F336128 q336129) → mKp (F336128 q336129) (F355524 q336129) → ((101 : Int) - g355522.toInt).toNat < n10_355530 → G (gV D I) l (gRm 6 141 0 0) (gMA (gV D I) (pt_336133_SpillForgeModel_share D I γ el P336127 F336128 q336129 q336130) gNA 0 0) ky_336133_SpillForgeModel_share 10 [(3, .int g355522), (2, .int g355523), (0, .ref q336129), (1, .ref q336130)] [] (va_pl P336127 F355524) 0 0 := by
    intro n10_355530
    induction n10_355530 with
    | zero => intro F355524 g355522 g355523 bg355522 bg355523 hT355525 hs355526 x355527 x355528 x355529 x355530 hm10_355530; exact absurd hm10_355530 (Nat.not_lt_zero _)
    | succ n10_355530 ih10_355530 =>
      intro F355524 g355522 g355523 bg355522 bg355523 hT355525 hs355526 x355527 x355528 x355529 x355530 hm10_355530
      have hs355532 : rStr γ [1] F336192 F355524 := fun b h0 hb hw => (hs355526 b h0 hb hw).trans (hs336195 b h0 hb hw).symm
      have hs355533 : rStr γ [1] F336128 F355524 := rStr_tr hs336195 hs355532
      have he355534 : F355524 q336129 = .inr (22, [.ref (γ 9 0), .ref (γ 9 1), .ref (γ 9 2), .ref (γ 9 3), .ref (γ 9 4), .ref (γ 9 5), .ref (γ 9 6), .ref (γ 9 7), .ref (γ 9 8), .int p336138, .int p336139, .int p336140, .int p336141, .int p336142, .int p336143, .ref (γ 9 15), .ref (γ 9 16), .ref (γ 9 17), .ref (γ 9 18), .ref (γ 9 19), .ref (γ 9 20), .ref (γ 9 21), .ref (γ 9 22), .int p336144, .int p336145, .int p336146, .int p336147, .int p336148, .ref q336136, .ref (γ 9 29), .int p336149, .ref (γ 9 31), .int p336150, .int p336151, .int p336152, .ref q336137]) := x355529.trans he336135
      have hm355535 : q336129 ∈ P336127 := RS_m hT355525 htq336129 (by decide)
      have hm355536 : (γ 9 19) ∈ P336127 := RS_m hT355525 ht336168 (by decide)
      obtain ⟨f355538, he355537, bf355538⟩ := show rk_21 I (F355524 (γ 9 19)) from RS_o hT355525 ht336168
      have cq355539 := x355527
      rw [cB_of he355537] at cq355539
      refine G_iload_n 0 dr_cX17_share_10 rfl ?_
      refine G_aload_n 2 dr_cX17_share_11 rfl ?_
      refine Gp_get 11 hm355535 he355534 dr_cX17_share_12 (gk_X17 D I) (Nat.le_of_ble_eq_true rfl) wr_7_85 rfl ?_
      refine G_icmp_ge 151 dr_cX17_share_15 (by decide +kernel) (fun hc355540 => ?_) (fun hc355540 => ?_)
      · have r355541 : p336140.toInt ≤ g355522.toInt := gC_le hc355540
        refine G_iconst 0 dr_cX17_share_151 (by decide +kernel) ?_
        refine G_istore_n (L' := [(3, .int 0), (2, .int g355523), (0, .ref q336129), (1, .ref q336130)]) dr_cX17_share_152 (Nat.le_of_ble_eq_true rfl) rfl ?_
        have hlp153_355882 : ∀ (n153_355882 : Nat) (F355877 : Nat → va_E) (g355876 : Int32), gB g355876 0 1000000 → RS D I P336127 F355877 γ el → rStr γ [1] F336128 F355877 → (∀ q : Nat, (q : Int) < ((γ 7 (γ 1 q336130) : Nat) : Int) → 0 ≤ (cB (F355877 (γ 9 19)) q).toInt ∧ (cB (F355877 (γ 9 19)) q).toInt ≤ q) → (F355877 q336129 = F336128 q336129) → mKp (F336128 q336129) (F355877 q336129) → ((1000001 : Int) - g355876.toInt).toNat < n153_355882 → G (gV D I) l (gRm 6 141 0 0) (gMA (gV D I) (pt_336133_SpillForgeModel_share D I γ el P336127 F336128 q336129 q336130) gNA 0 0) ky_336133_SpillForgeModel_share 153 [(3, .int g355876), (2, .int g355523), (0, .ref q336129), (1, .ref q336130)] [] (va_pl P336127 F355877) 0 0 := by
          intro n153_355882
          induction n153_355882 with
          | zero => intro F355877 g355876 bg355876 hT355878 hs355879 x355880 x355881 x355882 hm153_355882; exact absurd hm153_355882 (Nat.not_lt_zero _)
          | succ n153_355882 ih153_355882 =>
            intro F355877 g355876 bg355876 hT355878 hs355879 x355880 x355881 x355882 hm153_355882
            have hs355884 : rStr γ [1] F355524 F355877 := fun b h0 hb hw => (hs355879 b h0 hb hw).trans (hs355526 b h0 hb hw).symm
            have hs355885 : rStr γ [1] F336128 F355877 := rStr_tr hs355526 hs355884
            have he355886 : F355877 q336129 = .inr (22, [.ref (γ 9 0), .ref (γ 9 1), .ref (γ 9 2), .ref (γ 9 3), .ref (γ 9 4), .ref (γ 9 5), .ref (γ 9 6), .ref (γ 9 7), .ref (γ 9 8), .int p336138, .int p336139, .int p336140, .int p336141, .int p336142, .int p336143, .ref (γ 9 15), .ref (γ 9 16), .ref (γ 9 17), .ref (γ 9 18), .ref (γ 9 19), .ref (γ 9 20), .ref (γ 9 21), .ref (γ 9 22), .int p336144, .int p336145, .int p336146, .int p336147, .int p336148, .ref q336136, .ref (γ 9 29), .int p336149, .ref (γ 9 31), .int p336150, .int p336151, .int p336152, .ref q336137]) := x355881.trans he336135
            have hm355887 : q336129 ∈ P336127 := RS_m hT355878 htq336129 (by decide)
            have hm355888 : (γ 9 19) ∈ P336127 := RS_m hT355878 ht336168 (by decide)
            obtain ⟨f355890, he355889, bf355890⟩ := show rk_21 I (F355877 (γ 9 19)) from RS_o hT355878 ht336168
            have cq355891 := x355880
            rw [cB_of he355889] at cq355891
            refine G_iload_n 0 dr_cX17_share_153 rfl ?_
            refine G_aload_n 3 dr_cX17_share_154 rfl ?_
            have hm355892 : q336130 ∈ P336127 := RS_m hT355878 htq336130 (by decide)
            obtain ⟨q355894, q355895, p355896, p355897, he355893, ht355913, ht355898, ht355899, ht355900, ht355901, r355902, r355903, r355904, r355905, r355906, r355907, r355908, r355909, r355910, r355911, r355912⟩ := show rk_9 γ el q336130 (F355877 q336130) from RS_o hT355878 htq336130
            have bp355896 : gB p355896 0 1000000 := ⟨by omega, by omega⟩
            have bp355897 : gB p355897 0 1000000 := ⟨by omega, by omega⟩
            refine Gw_callV (As := []) (gV_ok D I) (cp_12496_Code_size l hl0 D I P336127 F355877 q336130 q355894 q355895 p355896 p355897 hm355892 he355893) dr_cX17_share_155 ⟨wr_10_160, wr_1_15, wr_9_131, by decide, rfl, (Nat.le_of_ble_eq_true rfl), (Nat.le_of_ble_eq_true rfl)⟩ wr_9_129 wr_9_130 hm355892 he355893 rfl (show 0 + 0 ≤ 0 by first | omega | decide) (show 0 + 0 ≤ 0 by first | omega | decide) (Nat.le_of_ble_eq_true rfl) (fun r355917 w355918 dc355914 ds355915 hp355916 => ?_) (fun _ _ _ _ _ z => z.elim)
            obtain ⟨rfl, rfl, hdc, hds⟩ := hp355916
            change G _ _ _ _ _ _ _ (.int p355897 :: _) _ _ _
            refine G_widen (cs' := 0) (sl' := 0) (by omega) (by omega) ?_
            refine G_icmp_ge 246 dr_cX17_share_158 (by decide +kernel) (fun hc355919 => ?_) (fun hc355919 => ?_)
            · have r355920 : p355897.toInt ≤ g355876.toInt := gC_le hc355919
              refine G_aload_n 2 dr_cX17_share_246 rfl ?_
              refine G_iload_n 1 dr_cX17_share_247 rfl ?_
              refine Gp_put 11 hm355887 he355886 dr_cX17_share_248 (gk_X17 D I) (Nat.le_of_ble_eq_true rfl) wr_7_85 rfl rfl rfl (Nat.le_of_ble_eq_true rfl) (fun F355921 e355922 n355923 => ?_)
              have he355924 : F355921 (γ 9 19) = .inl (I .int, 2000, .inl f355890) := (n355923 (γ 9 19) (rn_ao he355889 he355886)).trans he355889
              have he355925 : F355921 q336130 = .inr (18, [.ref q355894, .ref q355895, .int p355896, .int p355897]) := (n355923 q336130 (rn_oo he355893 he355886 (by decide))).trans he355893
              have he355926 : F355921 q336129 = .inr (22, [.ref (γ 9 0), .ref (γ 9 1), .ref (γ 9 2), .ref (γ 9 3), .ref (γ 9 4), .ref (γ 9 5), .ref (γ 9 6), .ref (γ 9 7), .ref (γ 9 8), .int p336138, .int p336139, .int g355523, .int p336141, .int p336142, .int p336143, .ref (γ 9 15), .ref (γ 9 16), .ref (γ 9 17), .ref (γ 9 18), .ref (γ 9 19), .ref (γ 9 20), .ref (γ 9 21), .ref (γ 9 22), .int p336144, .int p336145, .int p336146, .int p336147, .int p336148, .ref q336136, .ref (γ 9 29), .int p336149, .ref (γ 9 31), .int p336150, .int p336151, .int p336152, .ref q336137]) := e355922
              have mk355927 : mKp (F336128 q336129) (F355921 q336129) := mKp_tr x355882 (by rw [he355886, he355926]; exact ⟨rfl, rfl⟩)
              have hs355928 : rStr γ [1] F336128 F355921 := rStr_put hs355879 n355923 htq336129 (by decide)
              have hT355929 : RS D I P336127 F355921 γ el := RS_set hT355878 n355923 htq336129 (by decide) ⟨q336136, q336137, p336138, p336139, g355523, p336141, p336142, p336143, p336144, p336145, p336146, p336147, p336148, p336149, p336150, p336151, p336152, he355926, ⟨(hB336179.1), (hB336179.2.1), ⟨by omega, by omega⟩, (hB336179.2.2.2.1), (hB336179.2.2.2.2.1), (hB336179.2.2.2.2.2.1), (hB336179.2.2.2.2.2.2.1), (hB336179.2.2.2.2.2.2.2.1), (hB336179.2.2.2.2.2.2.2.2)⟩, ht336153, ht336154, ht336155, ht336156, ht336157, ht336158, ht336159, ht336160, ht336161, ht336162, ht336163, ht336164, ht336165, ht336166, ht336167, ht336168, ht336169, ht336170, ht336171, ht336172, ht336173, ht336174, ht336175, ht336176, hB336180⟩
              exact G_vretA dr_cX17_share_251 rfl (Nat.le_of_ble_eq_true rfl) (Nat.le_of_ble_eq_true rfl) ⟨F355921, rfl, rfl, hT355929, hs355928, (Nat.le_of_ble_eq_true rfl), (Nat.le_of_ble_eq_true rfl), mk355927⟩
            · have r355930 : g355876.toInt < p355897.toInt := gC_nle hc355919
              have bg355876' : gB g355876 0 999999 := ⟨by omega, by omega⟩
              have bp355897' : gB p355897 1 1000000 := ⟨by omega, by omega⟩
              refine G_aload_n 3 dr_cX17_share_161 rfl ?_
              refine G_iload_n 0 dr_cX17_share_162 rfl ?_
              have hm355931 : q355894 ∈ P336127 := RS_m hT355878 ht355898 (by decide)
              obtain ⟨⟨p355933, p355934, q355935, he355932, r355936, r355937, r355938, r355940⟩, r355939⟩ := show rk_4 D I γ el F355877 q355894 from RS_o hT355878 ht355898
              have bp355933 := gB_any p355933
              have bp355934 : gB p355934 0 1000000 := ⟨by omega, by omega⟩
              obtain ⟨r355941, r355942, n355949, f355950, r355943, r355944, r355945, r355946, r355947, r355948⟩ := rLC_n r355938 (by omega)
              have hm355951 : q355935 ∈ P336127 := RS_m hT355878 r355941 (by decide)
              obtain ⟨q355952, hx355953⟩ : ∃ x, x = el q355894 g355876.toInt.toNat := ⟨_, rfl⟩
              have hx355954 : f355950 g355876.toNatClampNeg = some q355952 := (r355947 _ (show g355876.toInt.toNat < γ 2 q355894 by omega)).trans (by rw [hx355953])
              have ht355957 : rKd γ q355952 2 := by rw [hx355953]; exact (r355909 _ (by omega)).resolve_right (fun z => absurd z.1 (by omega))
              have ht355958 : rFm γ q355952 q355894 := by rw [hx355953]; exact (r355939 _ (show g355876.toInt.toNat < γ 2 q355894 by omega)).2.1
              have hm355959 : q355952 ∈ P336127 := RS_m hT355878 ht355957 (by decide)
              obtain ⟨q355961, q355962, p355963, p355964, he355960, ht355971, ht355965, ht355966, ht355967, ht355968, ht355969, bp355963, bp355964, r355970, r355972, r355973⟩ := show rk_2 γ q355952 (F355877 q355952) from RS_o hT355878 ht355957
              refine Gw_callV (As := [.int g355876]) (gV_ok D I) (cp_7737_Code_get l hl0 D I P336127 F355877 q336130 q355894 q355935 g355876 q355895 p355896 p355897 p355933 p355934 f355950 n355949 q355952 q355961 q355962 p355963 p355964 hm355892 hm355931 hm355951 hm355959 he355893 he355932 r355943 he355960 (gB_w bg355876' (by decide) (by decide)) (gB_w bp355934 (by decide) (by decide)) (by omega) (by omega) (by assumption) (by omega)) dr_cX17_share_163 ⟨wr_10_161, wr_1_15, wr_10_141, by decide, rfl, (Nat.le_of_ble_eq_true rfl), (Nat.le_of_ble_eq_true rfl)⟩ wr_10_139 wr_10_140 hm355892 he355893 rfl (show 0 + 0 ≤ 0 by first | omega | decide) (show 0 + 0 ≤ 0 by first | omega | decide) (Nat.le_of_ble_eq_true rfl) (fun r355977 w355978 dc355974 ds355975 hp355976 => ?_) (fun _ _ _ _ _ z => z.elim)
              obtain ⟨rfl, rfl, hdc, hds⟩ := hp355976
              change G _ _ _ _ _ _ _ (.ref q355952 :: _) _ _ _
              refine G_widen (cs' := 0) (sl' := 0) (by omega) (by omega) ?_
              refine G_astore (L' := [(4, .ref q355952), (3, .int g355876), (2, .int g355523), (0, .ref q336129), (1, .ref q336130)]) dr_cX17_share_166 (Nat.le_of_ble_eq_true rfl) rfl ?_
              refine G_iconst 0 dr_cX17_share_168 (by decide +kernel) ?_
              refine G_istore (L' := [(5, .int 0), (4, .ref q355952), (3, .int g355876), (2, .int g355523), (0, .ref q336129), (1, .ref q336130)]) dr_cX17_share_169 (Nat.le_of_ble_eq_true rfl) rfl ?_
              have hlp171_356101 : ∀ (n171_356101 : Nat) (F356096 : Nat → va_E) (g356095 : Int32), gB g356095 0 1000000 → RS D I P336127 F356096 γ el → rStr γ [1] F336128 F356096 → (∀ q : Nat, (q : Int) < ((γ 7 (γ 1 q336130) : Nat) : Int) → 0 ≤ (cB (F356096 (γ 9 19)) q).toInt ∧ (cB (F356096 (γ 9 19)) q).toInt ≤ q) → (F356096 q336129 = F336128 q336129) → mKp (F336128 q336129) (F356096 q336129) → ((1000001 : Int) - g356095.toInt).toNat < n171_356101 → G (gV D I) l (gRm 6 141 0 0) (gMA (gV D I) (pt_336133_SpillForgeModel_share D I γ el P336127 F336128 q336129 q336130) gNA 0 0) ky_336133_SpillForgeModel_share 171 [(5, .int g356095), (4, .ref q355952), (3, .int g355876), (2, .int g355523), (0, .ref q336129), (1, .ref q336130)] [] (va_pl P336127 F356096) 0 0 := by
                intro n171_356101
                induction n171_356101 with
                | zero => intro F356096 g356095 bg356095 hT356097 hs356098 x356099 x356100 x356101 hm171_356101; exact absurd hm171_356101 (Nat.not_lt_zero _)
                | succ n171_356101 ih171_356101 =>
                  intro F356096 g356095 bg356095 hT356097 hs356098 x356099 x356100 x356101 hm171_356101
                  have hs356103 : rStr γ [1] F355877 F356096 := fun b h0 hb hw => (hs356098 b h0 hb hw).trans (hs355879 b h0 hb hw).symm
                  have he356104 : F356096 q336130 = .inr (18, [.ref q355894, .ref q355895, .int p355896, .int p355897]) := (hs356103 q336130 (rT0 htq336130 (by decide)) (rT1 htq336130 (by decide)) (rT2 htq336130 (by decide))).trans he355893
                  have he356105 : F356096 q355894 = .inr (4, [.int p355933, .ref q355935, .int p355934]) := (hs356103 q355894 (rT0 ht355898 (by decide)) (rT1 ht355898 (by decide)) (rT2 ht355898 (by decide))).trans he355932
                  have he356106 : F356096 q355935 = .inl (I (.object "java/lang/Object"), n355949, .inr (.inr (.inr (.inr f355950)))) := (hs356103 q355935 (rT0 r355941 (by decide)) (rT1 r355941 (by decide)) (rT2 r355941 (by decide))).trans r355943
                  have he356107 : F356096 q355952 = .inr (17, [.ref q355961, .ref q355962, .int p355963, .int p355964]) := (hs356103 q355952 (rT0 ht355957 (by decide)) (rT1 ht355957 (by decide)) (rT2 ht355957 (by decide))).trans he355960
                  have hs356108 : rStr γ [1] F336128 F356096 := rStr_tr hs355879 hs356103
                  have he356109 : F356096 q336129 = .inr (22, [.ref (γ 9 0), .ref (γ 9 1), .ref (γ 9 2), .ref (γ 9 3), .ref (γ 9 4), .ref (γ 9 5), .ref (γ 9 6), .ref (γ 9 7), .ref (γ 9 8), .int p336138, .int p336139, .int p336140, .int p336141, .int p336142, .int p336143, .ref (γ 9 15), .ref (γ 9 16), .ref (γ 9 17), .ref (γ 9 18), .ref (γ 9 19), .ref (γ 9 20), .ref (γ 9 21), .ref (γ 9 22), .int p336144, .int p336145, .int p336146, .int p336147, .int p336148, .ref q336136, .ref (γ 9 29), .int p336149, .ref (γ 9 31), .int p336150, .int p336151, .int p336152, .ref q336137]) := x356100.trans he336135
                  have hm356110 : q336129 ∈ P336127 := RS_m hT356097 htq336129 (by decide)
                  have hm356111 : (γ 9 19) ∈ P336127 := RS_m hT356097 ht336168 (by decide)
                  obtain ⟨f356113, he356112, bf356113⟩ := show rk_21 I (F356096 (γ 9 19)) from RS_o hT356097 ht336168
                  have cq356114 := x356099
                  rw [cB_of he356112] at cq356114
                  refine G_iload 0 dr_cX17_share_171 rfl ?_
                  refine G_aload 1 dr_cX17_share_173 rfl ?_
                  refine Gp_get 0 hm355959 he356107 dr_cX17_share_175 (gk_X12 D I) (Nat.le_of_ble_eq_true rfl) wr_9_220 rfl ?_
                  have hm356115 : q355961 ∈ P336127 := RS_m hT356097 ht355965 (by decide)
                  obtain ⟨⟨p356117, p356118, q356119, he356116, r356120, r356121, r356122, r356124⟩, r356123⟩ := show rk_3 D I γ el F356096 q355961 from RS_o hT356097 ht355965
                  have bp356117 := gB_any p356117
                  have bp356118 : gB p356118 0 1000000 := ⟨by omega, by omega⟩
                  refine Gw_callV (As := []) (gV_ok D I) (cp_7_ArrayList_size l hl0 D I P336127 F356096 q355961 p356117 q356119 p356118 hm356115 he356116 (gB_w bp356118 (by decide) (by decide))) dr_cX17_share_178 ⟨wr_10_200, wr_1_18, wr_9_160, by decide, rfl, (Nat.le_of_ble_eq_true rfl), (Nat.le_of_ble_eq_true rfl)⟩ wr_9_158 wr_9_159 hm356115 he356116 rfl (show 0 + 0 ≤ 0 by first | omega | decide) (show 0 + 0 ≤ 0 by first | omega | decide) (Nat.le_of_ble_eq_true rfl) (fun r356128 w356129 dc356125 ds356126 hp356127 => ?_) (fun _ _ _ _ _ z => z.elim)
                  obtain ⟨rfl, rfl, hdc, hds⟩ := hp356127
                  change G _ _ _ _ _ _ _ (.int p356118 :: _) _ _ _
                  refine G_widen (cs' := 0) (sl' := 0) (by omega) (by omega) ?_
                  refine G_icmp_ge 240 dr_cX17_share_181 (by decide +kernel) (fun hc356130 => ?_) (fun hc356130 => ?_)
                  · have r356131 : p356118.toInt ≤ g356095.toInt := gC_le hc356130
                    obtain ⟨z356132, hz356132⟩ : ∃ z : Int32, z = g355876 + Int32.ofInt 1 := ⟨_, rfl⟩
                    have ez356132 : z356132.toInt = g355876.toInt + 1 := gI_inc hz356132 (by decide) bg355876' (by decide) (by decide)
                    have bz356132 : gB z356132 1 1000000 := ⟨by omega, by omega⟩
                    refine G_iinc (L' := [(3, .int z356132), (5, .int g356095), (4, .ref q355952), (2, .int g355523), (0, .ref q336129), (1, .ref q336130)]) z356132 2 dr_cX17_share_240 rfl hz356132.symm (Nat.le_of_ble_eq_true rfl) rfl ?_
                    refine G_goto 153 dr_cX17_share_243 (by decide +kernel) ?_
                    refine G_lv (L' := [(3, .int z356132), (2, .int g355523), (0, .ref q336129), (1, .ref q336130)]) [0, 3, 4, 5] rfl ?_
                    exact ih153_355882 F356096 z356132 (gB_w bz356132 (by decide) (by decide)) hT356097 hs356098 (by rw [cB_of he356112]; exact cq356114) x356100 x356101 (mz_up ez356132 (Int.le_trans bg355876'.2 (by decide)) hm153_355882)
                  · have r356133 : g356095.toInt < p356118.toInt := gC_nle hc356130
                    have bg356095' : gB g356095 0 999999 := ⟨by omega, by omega⟩
                    have bp356118' : gB p356118 1 1000000 := ⟨by omega, by omega⟩
                    refine G_aload 1 dr_cX17_share_184 rfl ?_
                    refine Gp_get 0 hm355959 he356107 dr_cX17_share_186 (gk_X12 D I) (Nat.le_of_ble_eq_true rfl) wr_9_220 rfl ?_
                    refine G_iload 0 dr_cX17_share_189 rfl ?_
                    obtain ⟨r356134, r356135, n356142, f356143, r356136, r356137, r356138, r356139, r356140, r356141⟩ := rLC_n r356122 (by omega)
                    have hm356144 : q356119 ∈ P336127 := RS_m hT356097 r356134 (by decide)
                    obtain ⟨q356145, hx356146⟩ : ∃ x, x = el q355961 g356095.toInt.toNat := ⟨_, rfl⟩
                    have hx356147 : f356143 g356095.toNatClampNeg = some q356145 := (r356140 _ (show g356095.toInt.toNat < γ 2 q355961 by omega)).trans (by rw [hx356146])
                    have ht356148 : rKd γ q356145 1 := by rw [hx356146]; exact (r356123 _ (show g356095.toInt.toNat < γ 2 q355961 by omega)).1
                    have ht356149 : rFm γ q356145 q355961 := by rw [hx356146]; exact (r356123 _ (show g356095.toInt.toNat < γ 2 q355961 by omega)).2.1
                    refine Gw_callV (As := [.int g356095]) (gV_ok D I) (cp_22_ArrayList_get l hl0 D I P336127 F356096 q355961 q356119 g356095 p356117 p356118 f356143 n356142 q356145 hm356115 hm356144 he356116 r356136 (gB_w bg356095' (by decide) (by decide)) (gB_w bp356118' (by decide) (by decide)) (by omega) (by omega) (by assumption) (by omega)) dr_cX17_share_191 ⟨wr_10_201, wr_1_18, wr_10_65, by decide, rfl, (Nat.le_of_ble_eq_true rfl), (Nat.le_of_ble_eq_true rfl)⟩ wr_10_63 wr_10_64 hm356115 he356116 rfl (show 0 + 0 ≤ 0 by first | omega | decide) (show 0 + 0 ≤ 0 by first | omega | decide) (Nat.le_of_ble_eq_true rfl) (fun r356153 w356154 dc356150 ds356151 hp356152 => ?_) (fun _ _ _ _ _ z => z.elim)
                    obtain ⟨rfl, rfl, hdc, hds⟩ := hp356152
                    change G _ _ _ _ _ _ _ (.ref q356145 :: _) _ _ _
                    refine G_widen (cs' := 0) (sl' := 0) (by omega) (by omega) ?_
                    have hm356155 : q356145 ∈ P336127 := RS_m hT356097 ht356148 (by decide)
                    obtain ⟨p356157, p356158, p356159, p356160, p356161, p356162, p356163, he356156, bp356157, bp356158, bp356161, bp356162, bp356163, r356164, r356165, r356166, r356167, r356168⟩ := show rk_1 γ q356145 (F356096 q356145) from RS_o hT356097 ht356148
                    have bp356159 := gB_any p356159
                    have bp356160 := gB_any p356160
                    refine Gp_cast hm356155 he356156 rfl dr_cX17_share_194 wr_10_202 (gr_cast 1 rfl) ?_
                    refine G_astore (L' := [(6, .ref q356145), (5, .int g356095), (4, .ref q355952), (3, .int g355876), (2, .int g355523), (0, .ref q336129), (1, .ref q336130)]) dr_cX17_share_197 (Nat.le_of_ble_eq_true rfl) rfl ?_
                    refine G_aload 0 dr_cX17_share_199 rfl ?_
                    refine Gp_get 0 hm356155 he356156 dr_cX17_share_201 (gk_X15 D I) (Nat.le_of_ble_eq_true rfl) wr_9_177 rfl ?_
                    refine G_bipush 21 dr_cX17_share_204 (by decide +kernel) ?_
                    refine G_icmp_eq 219 dr_cX17_share_206 (by decide +kernel) (fun hc356169 => ?_) (fun hc356169 => ?_)
                    · have r356170 : p356157.toInt = 21 := gj_eq hc356169 (show Int32.toInt 21 = 21 by decide)
                      have bp356157' : gB p356157 21 21 := ⟨by omega, by omega⟩
                      refine G_aload 0 dr_cX17_share_219 rfl ?_
                      refine G_aload_n 5 dr_cX17_share_221 rfl ?_
                      refine Gp_get 19 hm356110 he356109 dr_cX17_share_222 (gk_X17 D I) (Nat.le_of_ble_eq_true rfl) wr_7_93 rfl ?_
                      refine G_aload 0 dr_cX17_share_225 rfl ?_
                      refine Gp_get 4 hm356155 he356156 dr_cX17_share_227 (gk_X15 D I) (Nat.le_of_ble_eq_true rfl) wr_9_193 rfl ?_
                      refine Gp_iald 0 hm356111 he356112 dr_cX17_share_230 rfl (gB_in bp356161 (by decide) (by decide)) (G_nam fun z356171 hz356171 => ?_)
                      have bz356171 : gB z356171 (-1) 1999 := by rw [hz356171]; exact bf356113 _
                      have r356172 : γ 7 (γ 1 q356145) = γ 7 (γ 1 q336130) := by rw [show γ 1 q356145 = γ 1 q355961 from ht356149, show γ 1 q355961 = γ 1 q355952 from ht355966, show γ 1 q355952 = γ 1 q355894 from ht355958, show γ 1 q355894 = γ 1 q336130 from ht355899]
                      have r356173 : 0 ≤ z356171.toInt ∧ z356171.toInt ≤ (p356161.toInt.toNat : Int) := by rw [hz356171]; exact cq356114 p356161.toInt.toNat (by omega)
                      have bz356171' : gB z356171 0 1999 := ⟨by omega, by omega⟩
                      refine Gp_put 4 hm356155 he356156 dr_cX17_share_231 (gk_X15 D I) (Nat.le_of_ble_eq_true rfl) wr_9_193 rfl rfl rfl (Nat.le_of_ble_eq_true rfl) (fun F356174 e356175 n356176 => ?_)
                      have he356177 : F356174 q336130 = .inr (18, [.ref q355894, .ref q355895, .int p355896, .int p355897]) := (n356176 q336130 (rn_oo he356104 he356156 (by decide))).trans he356104
                      have he356178 : F356174 q355894 = .inr (4, [.int p355933, .ref q355935, .int p355934]) := (n356176 q355894 (rn_oo he356105 he356156 (by decide))).trans he356105
                      have he356179 : F356174 q355935 = .inl (I (.object "java/lang/Object"), n355949, .inr (.inr (.inr (.inr f355950)))) := (n356176 q355935 (rn_ao he356106 he356156)).trans he356106
                      have he356180 : F356174 q355952 = .inr (17, [.ref q355961, .ref q355962, .int p355963, .int p355964]) := (n356176 q355952 (rn_oo he356107 he356156 (by decide))).trans he356107
                      have he356181 : F356174 q336129 = .inr (22, [.ref (γ 9 0), .ref (γ 9 1), .ref (γ 9 2), .ref (γ 9 3), .ref (γ 9 4), .ref (γ 9 5), .ref (γ 9 6), .ref (γ 9 7), .ref (γ 9 8), .int p336138, .int p336139, .int p336140, .int p336141, .int p336142, .int p336143, .ref (γ 9 15), .ref (γ 9 16), .ref (γ 9 17), .ref (γ 9 18), .ref (γ 9 19), .ref (γ 9 20), .ref (γ 9 21), .ref (γ 9 22), .int p336144, .int p336145, .int p336146, .int p336147, .int p336148, .ref q336136, .ref (γ 9 29), .int p336149, .ref (γ 9 31), .int p336150, .int p336151, .int p336152, .ref q336137]) := (n356176 q336129 (rn_oo he356109 he356156 (by decide))).trans he356109
                      have he356182 : F356174 (γ 9 19) = .inl (I .int, 2000, .inl f356113) := (n356176 (γ 9 19) (rn_ao he356112 he356156)).trans he356112
                      have he356183 : F356174 q355961 = .inr (4, [.int p356117, .ref q356119, .int p356118]) := (n356176 q355961 (rn_oo he356116 he356156 (by decide))).trans he356116
                      have he356184 : F356174 q356119 = .inl (I (.object "java/lang/Object"), n356142, .inr (.inr (.inr (.inr f356143)))) := (n356176 q356119 (rn_ao r356136 he356156)).trans r356136
                      have he356185 : F356174 q356145 = .inr (20, [.int p356157, .int p356158, .int p356159, .int p356160, .int z356171, .int p356162, .int p356163]) := e356175
                      have mk356186 : mKp (F336128 q336129) (F356174 q336129) := mKp_tr x356101 (mKp_eq (n356176 q336129 (rn_ty htq336129 ht356148 (by decide))))
                      have hs356187 : rStr γ [1] F336128 F356174 := rStr_pu2 hs356098 n356176 ht356148 (by decide)
                      have kp356188 : F356174 q336129 = F336128 q336129 := (n356176 q336129 (rn_ty htq336129 ht356148 (by decide))).trans x356100
                      obtain ⟨z356189, hz356189⟩ : ∃ z : Int32, z = g356095 + Int32.ofInt 1 := ⟨_, rfl⟩
                      have ez356189 : z356189.toInt = g356095.toInt + 1 := gI_inc hz356189 (by decide) bg356095' (by decide) (by decide)
                      have bz356189 : gB z356189 1 1000000 := ⟨by omega, by omega⟩
                      refine G_iinc (L' := [(5, .int z356189), (6, .ref q356145), (4, .ref q355952), (3, .int g355876), (2, .int g355523), (0, .ref q336129), (1, .ref q336130)]) z356189 1 dr_cX17_share_234 rfl hz356189.symm (Nat.le_of_ble_eq_true rfl) rfl ?_
                      refine G_goto 171 dr_cX17_share_237 (by decide +kernel) ?_
                      have hT356190 : RS D I P336127 F356174 γ el := RS_set hT356097 n356176 ht356148 (by decide) ⟨p356157, p356158, p356159, p356160, z356171, p356162, p356163, he356185, (gB_w bp356157' (by decide) (by decide)), bp356158, bz356171', bp356162, bp356163, (by omega), (by omega), (by omega), (by omega), (by omega)⟩
                      refine G_lv (L' := [(5, .int z356189), (4, .ref q355952), (3, .int g355876), (2, .int g355523), (0, .ref q336129), (1, .ref q336130)]) [0, 2, 3, 4, 5, 6] rfl ?_
                      exact ih171_356101 F356174 z356189 (gB_w bz356189 (by decide) (by decide)) hT356190 hs356187 (by rw [cB_of he356182]; exact cq356114) kp356188 mk356186 (mz_up ez356189 (Int.le_trans bg356095'.2 (by decide)) hm171_356101)
                    · have r356191 : p356157.toInt ≠ 21 := gj_neq hc356169 (show Int32.toInt 21 = 21 by decide)
                      refine G_aload 0 dr_cX17_share_209 rfl ?_
                      refine Gp_get 0 hm356155 he356156 dr_cX17_share_211 (gk_X15 D I) (Nat.le_of_ble_eq_true rfl) wr_9_177 rfl ?_
                      refine G_bipush 23 dr_cX17_share_214 (by decide +kernel) ?_
                      refine G_icmp_ne 234 dr_cX17_share_216 (by decide +kernel) (fun hc356192 => ?_) (fun hc356192 => ?_)
                      · have r356193 : p356157.toInt ≠ 23 := gj_neq hc356192 (show Int32.toInt 23 = 23 by decide)
                        obtain ⟨z356194, hz356194⟩ : ∃ z : Int32, z = g356095 + Int32.ofInt 1 := ⟨_, rfl⟩
                        have ez356194 : z356194.toInt = g356095.toInt + 1 := gI_inc hz356194 (by decide) bg356095' (by decide) (by decide)
                        have bz356194 : gB z356194 1 1000000 := ⟨by omega, by omega⟩
                        refine G_iinc (L' := [(5, .int z356194), (6, .ref q356145), (4, .ref q355952), (3, .int g355876), (2, .int g355523), (0, .ref q336129), (1, .ref q336130)]) z356194 1 dr_cX17_share_234 rfl hz356194.symm (Nat.le_of_ble_eq_true rfl) rfl ?_
                        refine G_goto 171 dr_cX17_share_237 (by decide +kernel) ?_
                        refine G_lv (L' := [(5, .int z356194), (4, .ref q355952), (3, .int g355876), (2, .int g355523), (0, .ref q336129), (1, .ref q336130)]) [0, 2, 3, 4, 5, 6] rfl ?_
                        exact ih171_356101 F356096 z356194 (gB_w bz356194 (by decide) (by decide)) hT356097 hs356098 (by rw [cB_of he356112]; exact cq356114) x356100 x356101 (mz_up ez356194 (Int.le_trans bg356095'.2 (by decide)) hm171_356101)
                      · have r356195 : p356157.toInt = 23 := gj_eq hc356192 (show Int32.toInt 23 = 23 by decide)
                        have bp356157' : gB p356157 23 23 := ⟨by omega, by omega⟩
                        refine G_aload 0 dr_cX17_share_219 rfl ?_
                        refine G_aload_n 5 dr_cX17_share_221 rfl ?_
                        refine Gp_get 19 hm356110 he356109 dr_cX17_share_222 (gk_X17 D I) (Nat.le_of_ble_eq_true rfl) wr_7_93 rfl ?_
                        refine G_aload 0 dr_cX17_share_225 rfl ?_
                        refine Gp_get 4 hm356155 he356156 dr_cX17_share_227 (gk_X15 D I) (Nat.le_of_ble_eq_true rfl) wr_9_193 rfl ?_
                        refine Gp_iald 0 hm356111 he356112 dr_cX17_share_230 rfl (gB_in bp356161 (by decide) (by decide)) (G_nam fun z356196 hz356196 => ?_)
                        have bz356196 : gB z356196 (-1) 1999 := by rw [hz356196]; exact bf356113 _
                        have r356197 : γ 7 (γ 1 q356145) = γ 7 (γ 1 q336130) := by rw [show γ 1 q356145 = γ 1 q355961 from ht356149, show γ 1 q355961 = γ 1 q355952 from ht355966, show γ 1 q355952 = γ 1 q355894 from ht355958, show γ 1 q355894 = γ 1 q336130 from ht355899]
                        have r356198 : 0 ≤ z356196.toInt ∧ z356196.toInt ≤ (p356161.toInt.toNat : Int) := by rw [hz356196]; exact cq356114 p356161.toInt.toNat (by omega)
                        have bz356196' : gB z356196 0 1999 := ⟨by omega, by omega⟩
                        refine Gp_put 4 hm356155 he356156 dr_cX17_share_231 (gk_X15 D I) (Nat.le_of_ble_eq_true rfl) wr_9_193 rfl rfl rfl (Nat.le_of_ble_eq_true rfl) (fun F356199 e356200 n356201 => ?_)
                        have he356202 : F356199 q336130 = .inr (18, [.ref q355894, .ref q355895, .int p355896, .int p355897]) := (n356201 q336130 (rn_oo he356104 he356156 (by decide))).trans he356104
                        have he356203 : F356199 q355894 = .inr (4, [.int p355933, .ref q355935, .int p355934]) := (n356201 q355894 (rn_oo he356105 he356156 (by decide))).trans he356105
                        have he356204 : F356199 q355935 = .inl (I (.object "java/lang/Object"), n355949, .inr (.inr (.inr (.inr f355950)))) := (n356201 q355935 (rn_ao he356106 he356156)).trans he356106
                        have he356205 : F356199 q355952 = .inr (17, [.ref q355961, .ref q355962, .int p355963, .int p355964]) := (n356201 q355952 (rn_oo he356107 he356156 (by decide))).trans he356107
                        have he356206 : F356199 q336129 = .inr (22, [.ref (γ 9 0), .ref (γ 9 1), .ref (γ 9 2), .ref (γ 9 3), .ref (γ 9 4), .ref (γ 9 5), .ref (γ 9 6), .ref (γ 9 7), .ref (γ 9 8), .int p336138, .int p336139, .int p336140, .int p336141, .int p336142, .int p336143, .ref (γ 9 15), .ref (γ 9 16), .ref (γ 9 17), .ref (γ 9 18), .ref (γ 9 19), .ref (γ 9 20), .ref (γ 9 21), .ref (γ 9 22), .int p336144, .int p336145, .int p336146, .int p336147, .int p336148, .ref q336136, .ref (γ 9 29), .int p336149, .ref (γ 9 31), .int p336150, .int p336151, .int p336152, .ref q336137]) := (n356201 q336129 (rn_oo he356109 he356156 (by decide))).trans he356109
                        have he356207 : F356199 (γ 9 19) = .inl (I .int, 2000, .inl f356113) := (n356201 (γ 9 19) (rn_ao he356112 he356156)).trans he356112
                        have he356208 : F356199 q355961 = .inr (4, [.int p356117, .ref q356119, .int p356118]) := (n356201 q355961 (rn_oo he356116 he356156 (by decide))).trans he356116
                        have he356209 : F356199 q356119 = .inl (I (.object "java/lang/Object"), n356142, .inr (.inr (.inr (.inr f356143)))) := (n356201 q356119 (rn_ao r356136 he356156)).trans r356136
                        have he356210 : F356199 q356145 = .inr (20, [.int p356157, .int p356158, .int p356159, .int p356160, .int z356196, .int p356162, .int p356163]) := e356200
                        have mk356211 : mKp (F336128 q336129) (F356199 q336129) := mKp_tr x356101 (mKp_eq (n356201 q336129 (rn_ty htq336129 ht356148 (by decide))))
                        have hs356212 : rStr γ [1] F336128 F356199 := rStr_pu2 hs356098 n356201 ht356148 (by decide)
                        have kp356213 : F356199 q336129 = F336128 q336129 := (n356201 q336129 (rn_ty htq336129 ht356148 (by decide))).trans x356100
                        obtain ⟨z356214, hz356214⟩ : ∃ z : Int32, z = g356095 + Int32.ofInt 1 := ⟨_, rfl⟩
                        have ez356214 : z356214.toInt = g356095.toInt + 1 := gI_inc hz356214 (by decide) bg356095' (by decide) (by decide)
                        have bz356214 : gB z356214 1 1000000 := ⟨by omega, by omega⟩
                        refine G_iinc (L' := [(5, .int z356214), (6, .ref q356145), (4, .ref q355952), (3, .int g355876), (2, .int g355523), (0, .ref q336129), (1, .ref q336130)]) z356214 1 dr_cX17_share_234 rfl hz356214.symm (Nat.le_of_ble_eq_true rfl) rfl ?_
                        refine G_goto 171 dr_cX17_share_237 (by decide +kernel) ?_
                        have hT356215 : RS D I P336127 F356199 γ el := RS_set hT356097 n356201 ht356148 (by decide) ⟨p356157, p356158, p356159, p356160, z356196, p356162, p356163, he356210, (gB_w bp356157' (by decide) (by decide)), bp356158, bz356196', bp356162, bp356163, (by omega), (by omega), (by omega), (by omega), (by omega)⟩
                        refine G_lv (L' := [(5, .int z356214), (4, .ref q355952), (3, .int g355876), (2, .int g355523), (0, .ref q336129), (1, .ref q336130)]) [0, 2, 3, 4, 5, 6] rfl ?_
                        exact ih171_356101 F356199 z356214 (gB_w bz356214 (by decide) (by decide)) hT356215 hs356212 (by rw [cB_of he356207]; exact cq356114) kp356213 mk356211 (mz_up ez356214 (Int.le_trans bg356095'.2 (by decide)) hm171_356101)
              exact hlp171_356101 (((1000001 : Int) - 0).toNat + 1) F355877 0 (gB_w (gBl (show Int32.toInt 0 = 0 by decide)) (by decide) (by decide)) hT355878 hs355879 (by rw [cB_of he355889]; exact cq355891) x355881 x355882 (Nat.lt_succ_self _)
        exact hlp153_355882 (((1000001 : Int) - 0).toNat + 1) F355524 0 (gB_w (gBl (show Int32.toInt 0 = 0 by decide)) (by decide) (by decide)) hT355525 hs355526 (by rw [cB_of he355537]; exact fun q hq => cq355539 q (by omega)) x355529 x355530 (Nat.lt_succ_self _)
      · have r356216 : g355522.toInt < p336140.toInt := gC_nle hc355540
        have bg355522' : gB g355522 0 99 := ⟨by omega, by omega⟩
        have bp336140' : gB p336140 1 100 := ⟨by omega, by omega⟩
        refine G_iconst 0 dr_cX17_share_18 (by decide +kernel) ?_
        refine G_istore (L' := [(4, .int 0), (3, .int g355522), (2, .int g355523), (0, .ref q336129), (1, .ref q336130)]) dr_cX17_share_19 (Nat.le_of_ble_eq_true rfl) rfl ?_
        refine G_iconst 0 dr_cX17_share_21 (by decide +kernel) ?_
        refine G_istore (L' := [(5, .int 0), (4, .int 0), (3, .int g355522), (2, .int g355523), (0, .ref q336129), (1, .ref q336130)]) dr_cX17_share_22 (Nat.le_of_ble_eq_true rfl) rfl ?_
        have hlp24_356624 : ∀ (n24_356624 : Nat) (F356619 : Nat → va_E) (g356618 : Int32), gB g356618 0 1999 → RS D I P336127 F356619 γ el → rStr γ [1] F336128 F356619 → (∀ q : Nat, (q : Int) < g355522.toInt → 0 ≤ (cB (F356619 (γ 9 19)) q).toInt ∧ (cB (F356619 (γ 9 19)) q).toInt ≤ q) → (F356619 q336129 = F336128 q336129) → mKp (F336128 q336129) (F356619 q336129) → ((2000 : Int) - g356618.toInt).toNat < n24_356624 → G (gV D I) l (gRm 6 141 0 0) (gMA (gV D I) (pt_336133_SpillForgeModel_share D I γ el P336127 F336128 q336129 q336130) gNA 0 0) ky_336133_SpillForgeModel_share 24 [(5, .int g356618), (4, .int 0), (3, .int g355522), (2, .int g355523), (0, .ref q336129), (1, .ref q336130)] [] (va_pl P336127 F356619) 0 0 := by
          intro n24_356624
          induction n24_356624 with
          | zero => intro F356619 g356618 bg356618 hT356620 hs356621 x356622 x356623 x356624 hm24_356624; exact absurd hm24_356624 (Nat.not_lt_zero _)
          | succ n24_356624 ih24_356624 =>
            intro F356619 g356618 bg356618 hT356620 hs356621 x356622 x356623 x356624 hm24_356624
            have hs356626 : rStr γ [1] F355524 F356619 := fun b h0 hb hw => (hs356621 b h0 hb hw).trans (hs355526 b h0 hb hw).symm
            have hs356627 : rStr γ [1] F336128 F356619 := rStr_tr hs355526 hs356626
            have he356628 : F356619 q336129 = .inr (22, [.ref (γ 9 0), .ref (γ 9 1), .ref (γ 9 2), .ref (γ 9 3), .ref (γ 9 4), .ref (γ 9 5), .ref (γ 9 6), .ref (γ 9 7), .ref (γ 9 8), .int p336138, .int p336139, .int p336140, .int p336141, .int p336142, .int p336143, .ref (γ 9 15), .ref (γ 9 16), .ref (γ 9 17), .ref (γ 9 18), .ref (γ 9 19), .ref (γ 9 20), .ref (γ 9 21), .ref (γ 9 22), .int p336144, .int p336145, .int p336146, .int p336147, .int p336148, .ref q336136, .ref (γ 9 29), .int p336149, .ref (γ 9 31), .int p336150, .int p336151, .int p336152, .ref q336137]) := x356623.trans he336135
            have hm356629 : q336129 ∈ P336127 := RS_m hT356620 htq336129 (by decide)
            have hm356630 : (γ 9 19) ∈ P336127 := RS_m hT356620 ht336168 (by decide)
            obtain ⟨f356632, he356631, bf356632⟩ := show rk_21 I (F356619 (γ 9 19)) from RS_o hT356620 ht336168
            have cq356633 := x356622
            rw [cB_of he356631] at cq356633
            refine G_iload 0 dr_cX17_share_24 rfl ?_
            refine G_iload_n 2 dr_cX17_share_26 rfl ?_
            refine G_icmp_ge 44 dr_cX17_share_27 (by decide +kernel) (fun hc356634 => ?_) (fun hc356634 => ?_)
            · have r356635 : g355522.toInt ≤ g356618.toInt := gC_le hc356634
              refine G_iconst 0 dr_cX17_share_44 (by decide +kernel) ?_
              refine G_istore (L' := [(5, .int 0), (4, .int 0), (3, .int g355522), (2, .int g355523), (0, .ref q336129), (1, .ref q336130)]) dr_cX17_share_45 (Nat.le_of_ble_eq_true rfl) rfl ?_
              have hlp47_356826 : ∀ (n47_356826 : Nat) (F356821 : Nat → va_E) (g356820 : Int32), gB g356820 0 99 → RS D I P336127 F356821 γ el → rStr γ [1] F336128 F356821 → (∀ q : Nat, (q : Int) < g355522.toInt → 0 ≤ (cB (F356821 (γ 9 19)) q).toInt ∧ (cB (F356821 (γ 9 19)) q).toInt ≤ q) → (F356821 q336129 = F336128 q336129) → mKp (F336128 q336129) (F356821 q336129) → ((100 : Int) - g356820.toInt).toNat < n47_356826 → G (gV D I) l (gRm 6 141 0 0) (gMA (gV D I) (pt_336133_SpillForgeModel_share D I γ el P336127 F336128 q336129 q336130) gNA 0 0) ky_336133_SpillForgeModel_share 47 [(5, .int g356820), (4, .int 0), (3, .int g355522), (2, .int g355523), (0, .ref q336129), (1, .ref q336130)] [] (va_pl P336127 F356821) 0 0 := by
                intro n47_356826
                induction n47_356826 with
                | zero => intro F356821 g356820 bg356820 hT356822 hs356823 x356824 x356825 x356826 hm47_356826; exact absurd hm47_356826 (Nat.not_lt_zero _)
                | succ n47_356826 ih47_356826 =>
                  intro F356821 g356820 bg356820 hT356822 hs356823 x356824 x356825 x356826 hm47_356826
                  have hs356828 : rStr γ [1] F356619 F356821 := fun b h0 hb hw => (hs356823 b h0 hb hw).trans (hs356621 b h0 hb hw).symm
                  have hs356829 : rStr γ [1] F336128 F356821 := rStr_tr hs356621 hs356828
                  have he356830 : F356821 q336129 = .inr (22, [.ref (γ 9 0), .ref (γ 9 1), .ref (γ 9 2), .ref (γ 9 3), .ref (γ 9 4), .ref (γ 9 5), .ref (γ 9 6), .ref (γ 9 7), .ref (γ 9 8), .int p336138, .int p336139, .int p336140, .int p336141, .int p336142, .int p336143, .ref (γ 9 15), .ref (γ 9 16), .ref (γ 9 17), .ref (γ 9 18), .ref (γ 9 19), .ref (γ 9 20), .ref (γ 9 21), .ref (γ 9 22), .int p336144, .int p336145, .int p336146, .int p336147, .int p336148, .ref q336136, .ref (γ 9 29), .int p336149, .ref (γ 9 31), .int p336150, .int p336151, .int p336152, .ref q336137]) := x356825.trans he336135
                  have hm356831 : q336129 ∈ P336127 := RS_m hT356822 htq336129 (by decide)
                  have hm356832 : (γ 9 19) ∈ P336127 := RS_m hT356822 ht336168 (by decide)
                  obtain ⟨f356834, he356833, bf356834⟩ := show rk_21 I (F356821 (γ 9 19)) from RS_o hT356822 ht336168
                  have cq356835 := x356824
                  rw [cB_of he356833] at cq356835
                  refine G_iload 0 dr_cX17_share_47 rfl ?_
                  refine G_iload_n 2 dr_cX17_share_49 rfl ?_
                  refine G_icmp_ge 96 dr_cX17_share_50 (by decide +kernel) (fun hc356836 => ?_) (fun hc356836 => ?_)
                  · have r356837 : g355522.toInt ≤ g356820.toInt := gC_le hc356836
                    have hlp96_356895 : ∀ (n96_356895 : Nat) (g356893 : Int32), gB g356893 0 99 → (∀ q : Nat, (q : Int) < g355522.toInt → 0 ≤ (cB (F356821 (γ 9 19)) q).toInt ∧ (cB (F356821 (γ 9 19)) q).toInt ≤ q) → (g356893.toInt ≤ g355522.toInt) → ((100 : Int) - g356893.toInt).toNat < n96_356895 → G (gV D I) l (gRm 6 141 0 0) (gMA (gV D I) (pt_336133_SpillForgeModel_share D I γ el P336127 F336128 q336129 q336130) gNA 0 0) ky_336133_SpillForgeModel_share 96 [(5, .int g356820), (4, .int g356893), (3, .int g355522), (2, .int g355523), (0, .ref q336129), (1, .ref q336130)] [] (va_pl P336127 F356821) 0 0 := by
                      intro n96_356895
                      induction n96_356895 with
                      | zero => intro g356893 bg356893 x356894 x356895 hm96_356895; exact absurd hm96_356895 (Nat.not_lt_zero _)
                      | succ n96_356895 ih96_356895 =>
                        intro g356893 bg356893 x356894 x356895 hm96_356895
                        have cq356897 := x356894
                        rw [cB_of he356833] at cq356897
                        refine G_iload 1 dr_cX17_share_96 rfl ?_
                        refine G_iload_n 2 dr_cX17_share_98 rfl ?_
                        refine G_icmp_ge 119 dr_cX17_share_99 (by decide +kernel) (fun hc356898 => ?_) (fun hc356898 => ?_)
                        · have r356899 : g355522.toInt ≤ g356893.toInt := gC_le hc356898
                          refine G_aload_n 4 dr_cX17_share_119 rfl ?_
                          refine Gp_get 19 hm356831 he356830 dr_cX17_share_120 (gk_X17 D I) (Nat.le_of_ble_eq_true rfl) wr_7_93 rfl ?_
                          refine G_iload_n 2 dr_cX17_share_123 rfl ?_
                          refine G_iload 1 dr_cX17_share_124 rfl ?_
                          refine Gp_iast 0 hm356832 he356833 dr_cX17_share_126 rfl (gB_in bg355522' (by decide) (by decide)) (fun F356900 e356901 n356902 => ?_)
                          obtain ⟨f356903, hf356903⟩ : ∃ z, z = upd f356834 g355522.toNatClampNeg g356893 := ⟨_, rfl⟩
                          rw [← hf356903] at e356901
                          have he356904 : F356900 q336129 = .inr (22, [.ref (γ 9 0), .ref (γ 9 1), .ref (γ 9 2), .ref (γ 9 3), .ref (γ 9 4), .ref (γ 9 5), .ref (γ 9 6), .ref (γ 9 7), .ref (γ 9 8), .int p336138, .int p336139, .int p336140, .int p336141, .int p336142, .int p336143, .ref (γ 9 15), .ref (γ 9 16), .ref (γ 9 17), .ref (γ 9 18), .ref (γ 9 19), .ref (γ 9 20), .ref (γ 9 21), .ref (γ 9 22), .int p336144, .int p336145, .int p336146, .int p336147, .int p336148, .ref q336136, .ref (γ 9 29), .int p336149, .ref (γ 9 31), .int p336150, .int p336151, .int p336152, .ref q336137]) := (n356902 q336129 (rn_oa he356830 he356833)).trans he356830
                          have he356905 : F356900 (γ 9 19) = .inl (I .int, 2000, .inl f356903) := e356901
                          have mk356906 : mKp (F336128 q336129) (F356900 q336129) := mKp_tr x356826 (mKp_eq (n356902 q336129 (rn_ty htq336129 ht336168 (by decide))))
                          have hs356907 : rStr γ [1] F336128 F356900 := rStr_put hs356823 n356902 ht336168 (by decide)
                          have kp356908 : F356900 q336129 = F336128 q336129 := (n356902 q336129 (rn_ty htq336129 ht336168 (by decide))).trans x356825
                          have bf356903 : gF f356903 (-1) 1999 := gF_upd hf356903 bf356834 (gB_w bg356893 (by decide) (by decide))
                          refine G_aload_n 4 dr_cX17_share_127 rfl ?_
                          refine Gp_get 3 hm356831 he356904 dr_cX17_share_128 (gk_X17 D I) (Nat.le_of_ble_eq_true rfl) wr_7_77 rfl ?_
                          refine G_iload_n 2 dr_cX17_share_131 rfl ?_
                          have hT356909 : RS D I P336127 F356900 γ el := RS_set hT356822 n356902 ht336168 (by decide) ⟨f356903, he356905, bf356903⟩
                          have hm356910 : (γ 9 3) ∈ P336127 := RS_m hT356909 ht336158 (by decide)
                          obtain ⟨f356912, he356911, bf356912⟩ := show rk_14 I (F356900 (γ 9 3)) from RS_o hT356909 ht336158
                          refine Gp_zald 3 hm356910 he356911 dr_cX17_share_132 rfl (gB_in bg355522' (by decide) (by decide)) (G_nam fun z356913 hz356913 => ?_)
                          have bz356913 : gB z356913 0 1 := by rw [hz356913]; exact bf356912 _
                          refine G_if_eq 145 dr_cX17_share_133 (by decide +kernel) (fun hc356914 => ?_) (fun hc356914 => ?_)
                          · have r356915 : z356913.toInt = 0 := gj_eq hc356914 (show Int32.toInt 0 = 0 by decide)
                            have bz356913' : gB z356913 0 0 := gB_t0 r356915
                            obtain ⟨z356916, hz356916⟩ : ∃ z : Int32, z = g355522 + Int32.ofInt 1 := ⟨_, rfl⟩
                            have ez356916 : z356916.toInt = g355522.toInt + 1 := gI_inc hz356916 (by decide) bg355522' (by decide) (by decide)
                            have bz356916 : gB z356916 1 100 := ⟨by omega, by omega⟩
                            refine G_iinc (L' := [(3, .int z356916), (5, .int g356820), (4, .int g356893), (2, .int g355523), (0, .ref q336129), (1, .ref q336130)]) z356916 2 dr_cX17_share_145 rfl hz356916.symm (Nat.le_of_ble_eq_true rfl) rfl ?_
                            refine G_goto 10 dr_cX17_share_148 (by decide +kernel) ?_
                            refine G_lv (L' := [(3, .int z356916), (2, .int g355523), (0, .ref q336129), (1, .ref q336130)]) [0, 3, 4, 5] rfl ?_
                            exact ih10_355530 F356900 z356916 g355523 (gB_w bz356916 (by decide) (by decide)) bg355523 hT356909 hs356907 (by rw [ez356916]; rw [cB_of he356905]; exact sl_u hf356903 (by omega) (by omega) (by omega) cq356897) (by omega) kp356908 mk356906 (mz_up ez356916 (Int.le_trans bg355522'.2 (by decide)) hm10_355530)
                          · have r356917 : z356913.toInt ≠ 0 := gj_neq hc356914 (show Int32.toInt 0 = 0 by decide)
                            have bz356913' : gB z356913 1 1 := gB_t1 bz356913 r356917
                            refine G_iload_n 3 dr_cX17_share_136 rfl ?_
                            refine G_iload 1 dr_cX17_share_137 rfl ?_
                            refine G_iconst 1 dr_cX17_share_139 (by decide +kernel) ?_
                            refine G_iadd dr_cX17_share_140 (G_nam fun z356918 hz356918 => ?_)
                            have ez356918 : z356918.toInt = g356893.toInt + 1 := by rw [gI_add hz356918 bg356893 (gBl (show Int32.toInt 1 = 1 by decide)) (by decide) (by decide), show Int32.toInt 1 = 1 from by decide]
                            have bz356918 : gB z356918 1 100 := gB_add (gI_add hz356918 bg356893 (gBl (show Int32.toInt 1 = 1 by decide)) (by decide) (by decide)) bg356893 (gBl (show Int32.toInt 1 = 1 by decide)) (by decide) (by decide)
                            refine G_mmax dr_cX17_share_141 wr_11_21 wr_1_140 wr_1_6 wr_1_141 (Nat.le_of_ble_eq_true rfl) (Nat.le_of_ble_eq_true rfl) (show 0 ≤ 0 by first | omega | decide) (show 0 ≤ 0 by first | omega | decide) (G_nam fun z356919 hz356919 => ?_)
                            have ez356919 : g355523.toInt ≤ z356919.toInt ∧ z356918.toInt ≤ z356919.toInt ∧ (z356919.toInt = g355523.toInt ∨ z356919.toInt = z356918.toInt) := by have := gI_max hz356919; omega
                            have bz356919 : gB z356919 1 1999 := ⟨by omega, by omega⟩
                            have bz356919' : gB z356919 1 100 := ⟨by omega, by omega⟩
                            refine G_istore_n (L' := [(2, .int z356919), (5, .int g356820), (4, .int g356893), (3, .int g355522), (0, .ref q336129), (1, .ref q336130)]) dr_cX17_share_144 (Nat.le_of_ble_eq_true rfl) rfl ?_
                            obtain ⟨z356920, hz356920⟩ : ∃ z : Int32, z = g355522 + Int32.ofInt 1 := ⟨_, rfl⟩
                            have ez356920 : z356920.toInt = g355522.toInt + 1 := gI_inc hz356920 (by decide) bg355522' (by decide) (by decide)
                            have bz356920 : gB z356920 1 100 := ⟨by omega, by omega⟩
                            refine G_iinc (L' := [(3, .int z356920), (2, .int z356919), (5, .int g356820), (4, .int g356893), (0, .ref q336129), (1, .ref q336130)]) z356920 3 dr_cX17_share_145 rfl hz356920.symm (Nat.le_of_ble_eq_true rfl) rfl ?_
                            refine G_goto 10 dr_cX17_share_148 (by decide +kernel) ?_
                            refine G_lv (L' := [(3, .int z356920), (2, .int z356919), (0, .ref q336129), (1, .ref q336130)]) [0, 1, 4, 5] rfl ?_
                            exact ih10_355530 F356900 z356920 z356919 (gB_w bz356920 (by decide) (by decide)) (gB_w bz356919' (by decide) (by decide)) hT356909 hs356907 (by rw [ez356920]; rw [cB_of he356905]; exact sl_u hf356903 (by omega) (by omega) (by omega) cq356897) (by omega) kp356908 mk356906 (mz_up ez356920 (Int.le_trans bg355522'.2 (by decide)) hm10_355530)
                        · have r356921 : g356893.toInt < g355522.toInt := gC_nle hc356898
                          have bg356893' : gB g356893 0 98 := ⟨by omega, by omega⟩
                          have bg355522'' : gB g355522 1 99 := ⟨by omega, by omega⟩
                          refine G_aload_n 4 dr_cX17_share_102 rfl ?_
                          refine Gp_get 16 hm356831 he356830 dr_cX17_share_103 (gk_X17 D I) (Nat.le_of_ble_eq_true rfl) wr_7_90 rfl ?_
                          refine G_iload 1 dr_cX17_share_106 rfl ?_
                          have hm356922 : (γ 9 16) ∈ P336127 := RS_m hT356822 ht336165 (by decide)
                          obtain ⟨f356924, he356923⟩ := show rk_19 I (F356821 (γ 9 16)) from RS_o hT356822 ht336165
                          refine Gp_iald 0 hm356922 he356923 dr_cX17_share_108 rfl (gB_in bg356893' (by decide) (by decide)) (G_nam fun z356925 hz356925 => ?_)
                          have bz356925 : gB z356925 (-2147483648) 2147483647 := gB_any z356925
                          refine G_iconst 1 dr_cX17_share_109 (by decide +kernel) ?_
                          refine G_icmp_ne 119 dr_cX17_share_110 (by decide +kernel) (fun hc356926 => ?_) (fun hc356926 => ?_)
                          · have r356927 : z356925.toInt ≠ 1 := gj_neq hc356926 (show Int32.toInt 1 = 1 by decide)
                            refine G_aload_n 4 dr_cX17_share_119 rfl ?_
                            refine Gp_get 19 hm356831 he356830 dr_cX17_share_120 (gk_X17 D I) (Nat.le_of_ble_eq_true rfl) wr_7_93 rfl ?_
                            refine G_iload_n 2 dr_cX17_share_123 rfl ?_
                            refine G_iload 1 dr_cX17_share_124 rfl ?_
                            refine Gp_iast 0 hm356832 he356833 dr_cX17_share_126 rfl (gB_in bg355522'' (by decide) (by decide)) (fun F356928 e356929 n356930 => ?_)
                            obtain ⟨f356931, hf356931⟩ : ∃ z, z = upd f356834 g355522.toNatClampNeg g356893 := ⟨_, rfl⟩
                            rw [← hf356931] at e356929
                            have he356932 : F356928 q336129 = .inr (22, [.ref (γ 9 0), .ref (γ 9 1), .ref (γ 9 2), .ref (γ 9 3), .ref (γ 9 4), .ref (γ 9 5), .ref (γ 9 6), .ref (γ 9 7), .ref (γ 9 8), .int p336138, .int p336139, .int p336140, .int p336141, .int p336142, .int p336143, .ref (γ 9 15), .ref (γ 9 16), .ref (γ 9 17), .ref (γ 9 18), .ref (γ 9 19), .ref (γ 9 20), .ref (γ 9 21), .ref (γ 9 22), .int p336144, .int p336145, .int p336146, .int p336147, .int p336148, .ref q336136, .ref (γ 9 29), .int p336149, .ref (γ 9 31), .int p336150, .int p336151, .int p336152, .ref q336137]) := (n356930 q336129 (rn_oa he356830 he356833)).trans he356830
                            have he356933 : F356928 (γ 9 16) = .inl (I .int, 2000, .inl f356924) := (n356930 (γ 9 16) (rn_ty ht336165 ht336168 (by decide))).trans he356923
                            have he356934 : F356928 (γ 9 19) = .inl (I .int, 2000, .inl f356931) := e356929
                            have mk356935 : mKp (F336128 q336129) (F356928 q336129) := mKp_tr x356826 (mKp_eq (n356930 q336129 (rn_ty htq336129 ht336168 (by decide))))
                            have hs356936 : rStr γ [1] F336128 F356928 := rStr_put hs356823 n356930 ht336168 (by decide)
                            have kp356937 : F356928 q336129 = F336128 q336129 := (n356930 q336129 (rn_ty htq336129 ht336168 (by decide))).trans x356825
                            have bf356931 : gF f356931 (-1) 1999 := gF_upd hf356931 bf356834 (gB_w bg356893' (by decide) (by decide))
                            refine G_aload_n 4 dr_cX17_share_127 rfl ?_
                            refine Gp_get 3 hm356831 he356932 dr_cX17_share_128 (gk_X17 D I) (Nat.le_of_ble_eq_true rfl) wr_7_77 rfl ?_
                            refine G_iload_n 2 dr_cX17_share_131 rfl ?_
                            have hT356938 : RS D I P336127 F356928 γ el := RS_set hT356822 n356930 ht336168 (by decide) ⟨f356931, he356934, bf356931⟩
                            have hm356939 : (γ 9 3) ∈ P336127 := RS_m hT356938 ht336158 (by decide)
                            obtain ⟨f356941, he356940, bf356941⟩ := show rk_14 I (F356928 (γ 9 3)) from RS_o hT356938 ht336158
                            refine Gp_zald 3 hm356939 he356940 dr_cX17_share_132 rfl (gB_in bg355522'' (by decide) (by decide)) (G_nam fun z356942 hz356942 => ?_)
                            have bz356942 : gB z356942 0 1 := by rw [hz356942]; exact bf356941 _
                            refine G_if_eq 145 dr_cX17_share_133 (by decide +kernel) (fun hc356943 => ?_) (fun hc356943 => ?_)
                            · have r356944 : z356942.toInt = 0 := gj_eq hc356943 (show Int32.toInt 0 = 0 by decide)
                              have bz356942' : gB z356942 0 0 := gB_t0 r356944
                              obtain ⟨z356945, hz356945⟩ : ∃ z : Int32, z = g355522 + Int32.ofInt 1 := ⟨_, rfl⟩
                              have ez356945 : z356945.toInt = g355522.toInt + 1 := gI_inc hz356945 (by decide) bg355522'' (by decide) (by decide)
                              have bz356945 : gB z356945 2 100 := ⟨by omega, by omega⟩
                              refine G_iinc (L' := [(3, .int z356945), (5, .int g356820), (4, .int g356893), (2, .int g355523), (0, .ref q336129), (1, .ref q336130)]) z356945 2 dr_cX17_share_145 rfl hz356945.symm (Nat.le_of_ble_eq_true rfl) rfl ?_
                              refine G_goto 10 dr_cX17_share_148 (by decide +kernel) ?_
                              refine G_lv (L' := [(3, .int z356945), (2, .int g355523), (0, .ref q336129), (1, .ref q336130)]) [0, 3, 4, 5] rfl ?_
                              exact ih10_355530 F356928 z356945 g355523 (gB_w bz356945 (by decide) (by decide)) bg355523 hT356938 hs356936 (by rw [ez356945]; rw [cB_of he356934]; exact sl_u hf356931 (by omega) (by omega) (by omega) cq356897) (by omega) kp356937 mk356935 (mz_up ez356945 (Int.le_trans bg355522''.2 (by decide)) hm10_355530)
                            · have r356946 : z356942.toInt ≠ 0 := gj_neq hc356943 (show Int32.toInt 0 = 0 by decide)
                              have bz356942' : gB z356942 1 1 := gB_t1 bz356942 r356946
                              refine G_iload_n 3 dr_cX17_share_136 rfl ?_
                              refine G_iload 1 dr_cX17_share_137 rfl ?_
                              refine G_iconst 1 dr_cX17_share_139 (by decide +kernel) ?_
                              refine G_iadd dr_cX17_share_140 (G_nam fun z356947 hz356947 => ?_)
                              have ez356947 : z356947.toInt = g356893.toInt + 1 := by rw [gI_add hz356947 bg356893' (gBl (show Int32.toInt 1 = 1 by decide)) (by decide) (by decide), show Int32.toInt 1 = 1 from by decide]
                              have bz356947 : gB z356947 1 99 := gB_add (gI_add hz356947 bg356893' (gBl (show Int32.toInt 1 = 1 by decide)) (by decide) (by decide)) bg356893' (gBl (show Int32.toInt 1 = 1 by decide)) (by decide) (by decide)
                              refine G_mmax dr_cX17_share_141 wr_11_21 wr_1_140 wr_1_6 wr_1_141 (Nat.le_of_ble_eq_true rfl) (Nat.le_of_ble_eq_true rfl) (show 0 ≤ 0 by first | omega | decide) (show 0 ≤ 0 by first | omega | decide) (G_nam fun z356948 hz356948 => ?_)
                              have ez356948 : g355523.toInt ≤ z356948.toInt ∧ z356947.toInt ≤ z356948.toInt ∧ (z356948.toInt = g355523.toInt ∨ z356948.toInt = z356947.toInt) := by have := gI_max hz356948; omega
                              have bz356948 : gB z356948 1 1999 := ⟨by omega, by omega⟩
                              have bz356948' : gB z356948 1 100 := ⟨by omega, by omega⟩
                              refine G_istore_n (L' := [(2, .int z356948), (5, .int g356820), (4, .int g356893), (3, .int g355522), (0, .ref q336129), (1, .ref q336130)]) dr_cX17_share_144 (Nat.le_of_ble_eq_true rfl) rfl ?_
                              obtain ⟨z356949, hz356949⟩ : ∃ z : Int32, z = g355522 + Int32.ofInt 1 := ⟨_, rfl⟩
                              have ez356949 : z356949.toInt = g355522.toInt + 1 := gI_inc hz356949 (by decide) bg355522'' (by decide) (by decide)
                              have bz356949 : gB z356949 2 100 := ⟨by omega, by omega⟩
                              refine G_iinc (L' := [(3, .int z356949), (2, .int z356948), (5, .int g356820), (4, .int g356893), (0, .ref q336129), (1, .ref q336130)]) z356949 3 dr_cX17_share_145 rfl hz356949.symm (Nat.le_of_ble_eq_true rfl) rfl ?_
                              refine G_goto 10 dr_cX17_share_148 (by decide +kernel) ?_
                              refine G_lv (L' := [(3, .int z356949), (2, .int z356948), (0, .ref q336129), (1, .ref q336130)]) [0, 1, 4, 5] rfl ?_
                              exact ih10_355530 F356928 z356949 z356948 (gB_w bz356949 (by decide) (by decide)) (gB_w bz356948' (by decide) (by decide)) hT356938 hs356936 (by rw [ez356949]; rw [cB_of he356934]; exact sl_u hf356931 (by omega) (by omega) (by omega) cq356897) (by omega) kp356937 mk356935 (mz_up ez356949 (Int.le_trans bg355522''.2 (by decide)) hm10_355530)
                          · have r356950 : z356925.toInt = 1 := gj_eq hc356926 (show Int32.toInt 1 = 1 by decide)
                            have bz356925' : gB z356925 1 1 := ⟨by omega, by omega⟩
                            obtain ⟨z356951, hz356951⟩ : ∃ z : Int32, z = g356893 + Int32.ofInt 1 := ⟨_, rfl⟩
                            have ez356951 : z356951.toInt = g356893.toInt + 1 := gI_inc hz356951 (by decide) bg356893' (by decide) (by decide)
                            have bz356951 : gB z356951 1 99 := ⟨by omega, by omega⟩
                            refine G_iinc (L' := [(4, .int z356951), (5, .int g356820), (3, .int g355522), (2, .int g355523), (0, .ref q336129), (1, .ref q336130)]) z356951 1 dr_cX17_share_113 rfl hz356951.symm (Nat.le_of_ble_eq_true rfl) rfl ?_
                            refine G_goto 96 dr_cX17_share_116 (by decide +kernel) ?_
                            refine G_lv (L' := [(5, .int g356820), (4, .int z356951), (3, .int g355522), (2, .int g355523), (0, .ref q336129), (1, .ref q336130)]) [1, 0, 2, 3, 4, 5] rfl ?_
                            exact ih96_356895 z356951 (gB_w bz356951 (by decide) (by decide)) (by rw [cB_of he356833]; exact cq356897) (by omega) (mz_up ez356951 (Int.le_trans bg356893'.2 (by decide)) hm96_356895)
                    exact hlp96_356895 (((100 : Int) - 0).toNat + 1) 0 (gB_w (gBl (show Int32.toInt 0 = 0 by decide)) (by decide) (by decide)) (by rw [cB_of he356833]; exact cq356835) (by have qa0 : Int32.toInt 0 = 0 := (by decide); omega) (Nat.lt_succ_self _)
                  · have r356952 : g356820.toInt < g355522.toInt := gC_nle hc356836
                    have bg356820' : gB g356820 0 98 := ⟨by omega, by omega⟩
                    have bg355522'' : gB g355522 1 99 := ⟨by omega, by omega⟩
                    refine G_aload_n 4 dr_cX17_share_53 rfl ?_
                    refine Gp_get 3 hm356831 he356830 dr_cX17_share_54 (gk_X17 D I) (Nat.le_of_ble_eq_true rfl) wr_7_77 rfl ?_
                    refine G_iload 0 dr_cX17_share_57 rfl ?_
                    have hm356953 : (γ 9 3) ∈ P336127 := RS_m hT356822 ht336158 (by decide)
                    obtain ⟨f356955, he356954, bf356955⟩ := show rk_14 I (F356821 (γ 9 3)) from RS_o hT356822 ht336158
                    refine Gp_zald 3 hm356953 he356954 dr_cX17_share_59 rfl (gB_in bg356820' (by decide) (by decide)) (G_nam fun z356956 hz356956 => ?_)
                    have bz356956 : gB z356956 0 1 := by rw [hz356956]; exact bf356955 _
                    refine G_if_eq 90 dr_cX17_share_60 (by decide +kernel) (fun hc356957 => ?_) (fun hc356957 => ?_)
                    · have r356958 : z356956.toInt = 0 := gj_eq hc356957 (show Int32.toInt 0 = 0 by decide)
                      have bz356956' : gB z356956 0 0 := gB_t0 r356958
                      obtain ⟨z356959, hz356959⟩ : ∃ z : Int32, z = g356820 + Int32.ofInt 1 := ⟨_, rfl⟩
                      have ez356959 : z356959.toInt = g356820.toInt + 1 := gI_inc hz356959 (by decide) bg356820' (by decide) (by decide)
                      have bz356959 : gB z356959 1 99 := ⟨by omega, by omega⟩
                      refine G_iinc (L' := [(5, .int z356959), (4, .int 0), (3, .int g355522), (2, .int g355523), (0, .ref q336129), (1, .ref q336130)]) z356959 0 dr_cX17_share_90 rfl hz356959.symm (Nat.le_of_ble_eq_true rfl) rfl ?_
                      refine G_goto 47 dr_cX17_share_93 (by decide +kernel) ?_
                      exact ih47_356826 F356821 z356959 (gB_w bz356959 (by decide) (by decide)) hT356822 hs356823 (by rw [cB_of he356833]; exact cq356835) x356825 x356826 (mz_up ez356959 (Int.le_trans bg356820'.2 (by decide)) hm47_356826)
                    · have r356960 : z356956.toInt ≠ 0 := gj_neq hc356957 (show Int32.toInt 0 = 0 by decide)
                      have bz356956' : gB z356956 1 1 := gB_t1 bz356956 r356960
                      refine G_aload_n 4 dr_cX17_share_63 rfl ?_
                      refine Gp_get 1 hm356831 he356830 dr_cX17_share_64 (gk_X17 D I) (Nat.le_of_ble_eq_true rfl) wr_7_75 rfl ?_
                      refine G_iload_n 2 dr_cX17_share_67 rfl ?_
                      have hm356961 : (γ 9 1) ∈ P336127 := RS_m hT356822 ht336156 (by decide)
                      obtain ⟨f356963, he356962, hg356964⟩ := show rk_13 I γ (F356821 (γ 9 1)) from RS_o hT356822 ht336156
                      obtain ⟨q356965, hx356967⟩ : ∃ x, x = γ 11 g355522.toInt.toNat := ⟨_, rfl⟩
                      have ht356966 : rKd γ q356965 36 := by rw [hx356967]; exact (hg356964 _ (show g355522.toInt.toNat < 2000 by omega)).2.1
                      refine Gp_aald 5 hm356961 he356962 dr_cX17_share_68 rfl rfl (gB_in bg355522'' (by decide) (by decide)) ?_
                      rw [show f356963 g355522.toNatClampNeg = some q356965 from (hg356964 _ (show g355522.toInt.toNat < 2000 by omega)).1.trans (by rw [hx356967])]
                      change G _ _ _ _ _ _ _ (.ref q356965 :: _) _ _ _
                      refine G_iload 0 dr_cX17_share_69 rfl ?_
                      have hm356968 : q356965 ∈ P336127 := RS_m hT356822 ht356966 (by decide)
                      obtain ⟨f356970, he356969, wf356970⟩ := show rk_36 I (F356821 q356965) from RS_o hT356822 ht356966
                      refine Gw_callS (As := [.ref q356965, .int g356820]) (gV_ok D I) (cp_1838_SpillForgeModel_has l hl0 D I P336127 F356821 q356965 g356820 f356970 hm356968 he356969 (gB_w bg356820' (by decide) (by decide))) dr_cX17_share_71 ⟨wr_10_203, wr_1_14, wr_10_205, by decide, rfl, (Nat.le_of_ble_eq_true rfl), (Nat.le_of_ble_eq_true rfl)⟩ wr_10_204 (show 0 + 0 ≤ 0 by first | omega | decide) (show 0 + 0 ≤ 0 by first | omega | decide) (Nat.le_of_ble_eq_true rfl) (fun r356974 w356975 dc356971 ds356972 hp356973 => ?_) (fun _ _ _ _ _ z => z.elim)
                      rcases hp356973 with ⟨z356976, z356977, rfl, rfl, hdc, hds, r356978, r356979, r356980, r356981⟩ | ⟨z356982, z356983, rfl, rfl, hdc, hds, r356984, r356985, r356986, r356987⟩
                      · change G _ _ _ _ _ _ _ (.int 0 :: _) _ _ _
                        refine G_widen (cs' := 0) (sl' := 0) (by omega) (by omega) ?_
                        refine G_if_eq 90 dr_cX17_share_74 (by decide +kernel) (fun _ => ?_) (fun hc => absurd hc (by decide))
                        obtain ⟨z356989, hz356989⟩ : ∃ z : Int32, z = g356820 + Int32.ofInt 1 := ⟨_, rfl⟩
                        have ez356989 : z356989.toInt = g356820.toInt + 1 := gI_inc hz356989 (by decide) bg356820' (by decide) (by decide)
                        have bz356989 : gB z356989 1 99 := ⟨by omega, by omega⟩
                        refine G_iinc (L' := [(5, .int z356989), (4, .int 0), (3, .int g355522), (2, .int g355523), (0, .ref q336129), (1, .ref q336130)]) z356989 0 dr_cX17_share_90 rfl hz356989.symm (Nat.le_of_ble_eq_true rfl) rfl ?_
                        refine G_goto 47 dr_cX17_share_93 (by decide +kernel) ?_
                        exact ih47_356826 F356821 z356989 (gB_w bz356989 (by decide) (by decide)) hT356822 hs356823 (by rw [cB_of he356833]; exact cq356835) x356825 x356826 (mz_up ez356989 (Int.le_trans bg356820'.2 (by decide)) hm47_356826)
                      · change G _ _ _ _ _ _ _ (.int 1 :: _) _ _ _
                        refine G_widen (cs' := 0) (sl' := 0) (by omega) (by omega) ?_
                        refine G_if_eq 90 dr_cX17_share_74 (by decide +kernel) (fun hc => absurd hc (by decide)) (fun _ => ?_)
                        refine G_aload_n 4 dr_cX17_share_77 rfl ?_
                        refine Gp_get 16 hm356831 he356830 dr_cX17_share_78 (gk_X17 D I) (Nat.le_of_ble_eq_true rfl) wr_7_90 rfl ?_
                        refine G_aload_n 4 dr_cX17_share_81 rfl ?_
                        refine Gp_get 19 hm356831 he356830 dr_cX17_share_82 (gk_X17 D I) (Nat.le_of_ble_eq_true rfl) wr_7_93 rfl ?_
                        refine G_iload 0 dr_cX17_share_85 rfl ?_
                        refine Gp_iald 0 hm356832 he356833 dr_cX17_share_87 rfl (gB_in bg356820' (by decide) (by decide)) (G_nam fun z356990 hz356990 => ?_)
                        have bz356990 : gB z356990 (-1) 1999 := by rw [hz356990]; exact bf356834 _
                        have r356991 : 0 ≤ z356990.toInt := by rw [hz356990]; exact (cq356835 g356820.toInt.toNat (by omega)).1
                        have bz356990' : gB z356990 0 1999 := ⟨by omega, by omega⟩
                        refine G_iconst 1 dr_cX17_share_88 (by decide +kernel) ?_
                        have hm356992 : (γ 9 16) ∈ P336127 := RS_m hT356822 ht336165 (by decide)
                        obtain ⟨f356994, he356993⟩ := show rk_19 I (F356821 (γ 9 16)) from RS_o hT356822 ht336165
                        refine Gp_iast 0 hm356992 he356993 dr_cX17_share_89 rfl (gB_in bz356990' (by decide) (by decide)) (fun F356995 e356996 n356997 => ?_)
                        obtain ⟨f356998, hf356998⟩ : ∃ z, z = upd f356994 z356990.toNatClampNeg 1 := ⟨_, rfl⟩
                        rw [← hf356998] at e356996
                        have he356999 : F356995 q336129 = .inr (22, [.ref (γ 9 0), .ref (γ 9 1), .ref (γ 9 2), .ref (γ 9 3), .ref (γ 9 4), .ref (γ 9 5), .ref (γ 9 6), .ref (γ 9 7), .ref (γ 9 8), .int p336138, .int p336139, .int p336140, .int p336141, .int p336142, .int p336143, .ref (γ 9 15), .ref (γ 9 16), .ref (γ 9 17), .ref (γ 9 18), .ref (γ 9 19), .ref (γ 9 20), .ref (γ 9 21), .ref (γ 9 22), .int p336144, .int p336145, .int p336146, .int p336147, .int p336148, .ref q336136, .ref (γ 9 29), .int p336149, .ref (γ 9 31), .int p336150, .int p336151, .int p336152, .ref q336137]) := (n356997 q336129 (rn_oa he356830 he356993)).trans he356830
                        have he357000 : F356995 (γ 9 19) = .inl (I .int, 2000, .inl f356834) := (n356997 (γ 9 19) (rn_ty ht336168 ht336165 (by decide))).trans he356833
                        have he357001 : F356995 (γ 9 3) = .inl (I .boolean, 2000, .inl f356955) := (n356997 (γ 9 3) (rn_ty ht336158 ht336165 (by decide))).trans he356954
                        have he357002 : F356995 (γ 9 1) = .inl (I (.array .long), 2000, .inr (.inr (.inr (.inr f356963)))) := (n356997 (γ 9 1) (rn_ref_num he356962 he356993)).trans he356962
                        have he357003 : F356995 q356965 = .inl (I .long, 32, .inr (.inl f356970)) := (n356997 q356965 (rn_long_num he356969 he356993)).trans he356969
                        have he357004 : F356995 (γ 9 16) = .inl (I .int, 2000, .inl f356998) := e356996
                        have mk357005 : mKp (F336128 q336129) (F356995 q336129) := mKp_tr x356826 (mKp_eq (n356997 q336129 (rn_ty htq336129 ht336165 (by decide))))
                        have hs357006 : rStr γ [1] F336128 F356995 := rStr_put hs356823 n356997 ht336165 (by decide)
                        have kp357007 : F356995 q336129 = F336128 q336129 := (n356997 q336129 (rn_ty htq336129 ht336165 (by decide))).trans x356825
                        obtain ⟨z357008, hz357008⟩ : ∃ z : Int32, z = g356820 + Int32.ofInt 1 := ⟨_, rfl⟩
                        have ez357008 : z357008.toInt = g356820.toInt + 1 := gI_inc hz357008 (by decide) bg356820' (by decide) (by decide)
                        have bz357008 : gB z357008 1 99 := ⟨by omega, by omega⟩
                        refine G_iinc (L' := [(5, .int z357008), (4, .int 0), (3, .int g355522), (2, .int g355523), (0, .ref q336129), (1, .ref q336130)]) z357008 0 dr_cX17_share_90 rfl hz357008.symm (Nat.le_of_ble_eq_true rfl) rfl ?_
                        refine G_goto 47 dr_cX17_share_93 (by decide +kernel) ?_
                        have hT357009 : RS D I P336127 F356995 γ el := RS_set hT356822 n356997 ht336165 (by decide) ⟨f356998, he357004⟩
                        exact ih47_356826 F356995 z357008 (gB_w bz357008 (by decide) (by decide)) hT357009 hs357006 (by rw [cB_of he357000]; exact cq356835) kp357007 mk357005 (mz_up ez357008 (Int.le_trans bg356820'.2 (by decide)) hm47_356826)
              exact hlp47_356826 (((100 : Int) - 0).toNat + 1) F356619 0 (gB_w (gBl (show Int32.toInt 0 = 0 by decide)) (by decide) (by decide)) hT356620 hs356621 (by rw [cB_of he356631]; exact cq356633) x356623 x356624 (Nat.lt_succ_self _)
            · have r357010 : g356618.toInt < g355522.toInt := gC_nle hc356634
              have bg356618' : gB g356618 0 98 := ⟨by omega, by omega⟩
              have bg355522'' : gB g355522 1 99 := ⟨by omega, by omega⟩
              refine G_aload_n 4 dr_cX17_share_30 rfl ?_
              refine Gp_get 16 hm356629 he356628 dr_cX17_share_31 (gk_X17 D I) (Nat.le_of_ble_eq_true rfl) wr_7_90 rfl ?_
              refine G_iload 0 dr_cX17_share_34 rfl ?_
              refine G_iconst 0 dr_cX17_share_36 (by decide +kernel) ?_
              have hm357011 : (γ 9 16) ∈ P336127 := RS_m hT356620 ht336165 (by decide)
              obtain ⟨f357013, he357012⟩ := show rk_19 I (F356619 (γ 9 16)) from RS_o hT356620 ht336165
              refine Gp_iast 0 hm357011 he357012 dr_cX17_share_37 rfl (gB_in bg356618' (by decide) (by decide)) (fun F357014 e357015 n357016 => ?_)
              obtain ⟨f357017, hf357017⟩ : ∃ z, z = upd f357013 g356618.toNatClampNeg 0 := ⟨_, rfl⟩
              rw [← hf357017] at e357015
              have he357018 : F357014 q336129 = .inr (22, [.ref (γ 9 0), .ref (γ 9 1), .ref (γ 9 2), .ref (γ 9 3), .ref (γ 9 4), .ref (γ 9 5), .ref (γ 9 6), .ref (γ 9 7), .ref (γ 9 8), .int p336138, .int p336139, .int p336140, .int p336141, .int p336142, .int p336143, .ref (γ 9 15), .ref (γ 9 16), .ref (γ 9 17), .ref (γ 9 18), .ref (γ 9 19), .ref (γ 9 20), .ref (γ 9 21), .ref (γ 9 22), .int p336144, .int p336145, .int p336146, .int p336147, .int p336148, .ref q336136, .ref (γ 9 29), .int p336149, .ref (γ 9 31), .int p336150, .int p336151, .int p336152, .ref q336137]) := (n357016 q336129 (rn_oa he356628 he357012)).trans he356628
              have he357019 : F357014 (γ 9 19) = .inl (I .int, 2000, .inl f356632) := (n357016 (γ 9 19) (rn_ty ht336168 ht336165 (by decide))).trans he356631
              have he357020 : F357014 (γ 9 16) = .inl (I .int, 2000, .inl f357017) := e357015
              have mk357021 : mKp (F336128 q336129) (F357014 q336129) := mKp_tr x356624 (mKp_eq (n357016 q336129 (rn_ty htq336129 ht336165 (by decide))))
              have hs357022 : rStr γ [1] F336128 F357014 := rStr_put hs356621 n357016 ht336165 (by decide)
              have kp357023 : F357014 q336129 = F336128 q336129 := (n357016 q336129 (rn_ty htq336129 ht336165 (by decide))).trans x356623
              obtain ⟨z357024, hz357024⟩ : ∃ z : Int32, z = g356618 + Int32.ofInt 1 := ⟨_, rfl⟩
              have ez357024 : z357024.toInt = g356618.toInt + 1 := gI_inc hz357024 (by decide) bg356618' (by decide) (by decide)
              have bz357024 : gB z357024 1 99 := ⟨by omega, by omega⟩
              refine G_iinc (L' := [(5, .int z357024), (4, .int 0), (3, .int g355522), (2, .int g355523), (0, .ref q336129), (1, .ref q336130)]) z357024 0 dr_cX17_share_38 rfl hz357024.symm (Nat.le_of_ble_eq_true rfl) rfl ?_
              refine G_goto 24 dr_cX17_share_41 (by decide +kernel) ?_
              have hT357025 : RS D I P336127 F357014 γ el := RS_set hT356620 n357016 ht336165 (by decide) ⟨f357017, he357020⟩
              exact ih24_356624 F357014 z357024 (gB_w bz357024 (by decide) (by decide)) hT357025 hs357022 (by rw [cB_of he357019]; exact cq356633) kp357023 mk357021 (mz_up ez357024 (Int.le_trans bg356618'.2 (by decide)) hm24_356624)
        exact hlp24_356624 (((2000 : Int) - 0).toNat + 1) F355524 0 (gB_w (gBl (show Int32.toInt 0 = 0 by decide)) (by decide) (by decide)) hT355525 hs355526 (by rw [cB_of he355537]; exact cq355539) x355529 x355530 (Nat.lt_succ_self _)
  exact hlp10_355530 (((101 : Int) - 0).toNat + 1) F336192 0 0 (gB_w (gBl (show Int32.toInt 0 = 0 by decide)) (by decide) (by decide)) (gB_w (gBl (show Int32.toInt 0 = 0 by decide)) (by decide) (by decide)) hT336193 hs336195 (fun q hq => absurd hq (by have qa : Int32.toInt 0 = 0 := (by decide); omega)) (by have qa0 : Int32.toInt 0 = 0 := (by decide); omega) kp336196 mk336197 (Nat.lt_succ_self _)
