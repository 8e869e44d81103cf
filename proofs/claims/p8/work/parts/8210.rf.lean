theorem dr_cX14_next_0 : decode cX14_next 0 = .ok (.aload_n 0, 1) := by decide +kernel
theorem dr_cX14_next_1 : decode cX14_next 1 = .ok (.aload_n 0, 1) := by decide +kernel
theorem dr_cX14_next_2 : decode cX14_next 2 = .ok (.getfield 38, 3) := by decide +kernel
theorem dr_cX14_next_5 : decode cX14_next 5 = .ok (.putfield 41, 3) := by decide +kernel
theorem wr_9_42 : (Jvm.Cond.fieldLink "SpillForgeModel$Reader" (41 : Nat) "SpillForgeModel$Reader" "before" "I") ∈ gw := gw_9 42 rfl rfl
theorem dr_cX14_next_8 : decode cX14_next 8 = .ok (.aload_n 0, 1) := by decide +kernel
theorem dr_cX14_next_9 : decode cX14_next 9 = .ok (.getfield 44, 3) := by decide +kernel
theorem dr_cX14_next_12 : decode cX14_next 12 = .ok (.aload_n 0, 1) := by decide +kernel
theorem dr_cX14_next_13 : decode cX14_next 13 = .ok (.getfield 32, 3) := by decide +kernel
theorem dr_cX14_next_16 : decode cX14_next 16 = .ok (.if_icmp .ge 94, 3) := by decide +kernel
theorem dr_cX14_next_110 : decode cX14_next 110 = .ok (.aload_n 0, 1) := by decide +kernel
theorem dr_cX14_next_111 : decode cX14_next 111 = .ok (.aload_n 0, 1) := by decide +kernel
theorem dr_cX14_next_112 : decode cX14_next 112 = .ok (.getfield 44, 3) := by decide +kernel
theorem dr_cX14_next_115 : decode cX14_next 115 = .ok (.putfield 47, 3) := by decide +kernel
theorem wr_9_40 : (Jvm.Cond.fieldLink "SpillForgeModel$Reader" (47 : Nat) "SpillForgeModel$Reader" "place" "I") ∈ gw := gw_9 40 rfl rfl
theorem dr_cX14_next_118 : decode cX14_next 118 = .ok (.aload_n 0, 1) := by decide +kernel
theorem dr_cX14_next_119 : decode cX14_next 119 = .ok (.ldc 9, 2) := by decide +kernel
theorem dr_cX14_next_121 : decode cX14_next 121 = .ok (.putfield 11, 3) := by decide +kernel
theorem dr_cX14_next_124 : decode cX14_next 124 = .ok (.aload_n 0, 1) := by decide +kernel
theorem dr_cX14_next_125 : decode cX14_next 125 = .ok (.getfield 44, 3) := by decide +kernel
theorem dr_cX14_next_128 : decode cX14_next 128 = .ok (.aload_n 0, 1) := by decide +kernel
theorem dr_cX14_next_129 : decode cX14_next 129 = .ok (.getfield 32, 3) := by decide +kernel
theorem dr_cX14_next_132 : decode cX14_next 132 = .ok (.if_icmp .ne 9, 3) := by decide +kernel
theorem dr_cX14_next_141 : decode cX14_next 141 = .ok (.aload_n 0, 1) := by decide +kernel
theorem dr_cX14_next_142 : decode cX14_next 142 = .ok (.getfield 28, 3) := by decide +kernel
theorem dr_cX14_next_145 : decode cX14_next 145 = .ok (.aload_n 0, 1) := by decide +kernel
theorem dr_cX14_next_146 : decode cX14_next 146 = .ok (.getfield 44, 3) := by decide +kernel
theorem dr_cX14_next_149 : decode cX14_next 149 = .ok (.baload, 1) := by decide +kernel
theorem dr_cX14_next_150 : decode cX14_next 150 = .ok (.istore_n 1, 1) := by decide +kernel
theorem dr_cX14_next_209 : decode cX14_next 209 = .ok (.iload_n 1, 1) := by decide +kernel
theorem dr_cX14_next_210 : decode cX14_next 210 = .ok (.invokestatic 54, 3) := by decide +kernel
theorem dr_cX14_next_213 : decode cX14_next 213 = .ok (.ifCond .eq 10, 3) := by decide +kernel
theorem dr_cX14_next_223 : decode cX14_next 223 = .ok (.iload_n 1, 1) := by decide +kernel
theorem dr_cX14_next_224 : decode cX14_next 224 = .ok (.invokestatic 50, 3) := by decide +kernel
theorem dr_cX14_next_227 : decode cX14_next 227 = .ok (.ifCond .ne 7, 3) := by decide +kernel
theorem dr_cX14_next_234 : decode cX14_next 234 = .ok (.aload_n 0, 1) := by decide +kernel
theorem dr_cX14_next_235 : decode cX14_next 235 = .ok (.iload_n 2, 1) := by decide +kernel
theorem dr_cX14_next_236 : decode cX14_next 236 = .ok (.invokevirtual 60, 3) := by decide +kernel
theorem wr_8_218 : (Jvm.Cond.methodLink "SpillForgeModel$Reader" (60 : Nat) ({ cls := "SpillForgeModel$Reader", name := "number", desc := "(Z)V" } : Jvm.MethodName)) ∈ gw := gw_8 218 rfl rfl
theorem wr_8_221 : (Jvm.Cond.code ({ cls := "SpillForgeModel$Reader", name := "number", desc := "(Z)V" } : Jvm.MethodName) prog_17_method_6_code (4 : Nat) (Option.none : Option Jvm.ClassFile.FieldType)) ∈ gw := gw_8 221 rfl rfl
theorem wr_8_220 : (Jvm.Cond.instanceMethod ({ cls := "SpillForgeModel$Reader", name := "number", desc := "(Z)V" } : Jvm.MethodName)) ∈ gw := gw_8 220 rfl rfl
theorem wr_p_77 : Cond.selects "SpillForgeModel$Reader" ⟨"SpillForgeModel$Reader", "number", "(Z)V"⟩ ⟨"SpillForgeModel$Reader", "number", "(Z)V"⟩ ∈ gw := gw_p _ 77 rfl rfl rfl
theorem dr_cX14_next_239 : decode cX14_next 239 = .ok (.goto 8, 3) := by decide +kernel
theorem dr_cX14_next_247 : decode cX14_next 247 = .ok (.return_, 1) := by decide +kernel
theorem dr_cX14_next_230 : decode cX14_next 230 = .ok (.iload_n 2, 1) := by decide +kernel
theorem dr_cX14_next_231 : decode cX14_next 231 = .ok (.ifCond .eq 11, 3) := by decide +kernel
theorem dr_cX14_next_242 : decode cX14_next 242 = .ok (.aload_n 0, 1) := by decide +kernel
theorem dr_cX14_next_243 : decode cX14_next 243 = .ok (.iload_n 1, 1) := by decide +kernel
theorem dr_cX14_next_244 : decode cX14_next 244 = .ok (.invokevirtual 64, 3) := by decide +kernel
theorem wr_8_223 : (Jvm.Cond.methodLink "SpillForgeModel$Reader" (64 : Nat) ({ cls := "SpillForgeModel$Reader", name := "symbol", desc := "(I)V" } : Jvm.MethodName)) ∈ gw := gw_8 223 rfl rfl
theorem wr_8_226 : (Jvm.Cond.code ({ cls := "SpillForgeModel$Reader", name := "symbol", desc := "(I)V" } : Jvm.MethodName) prog_17_method_7_code (4 : Nat) (Option.none : Option Jvm.ClassFile.FieldType)) ∈ gw := gw_8 226 rfl rfl
theorem wr_8_225 : (Jvm.Cond.instanceMethod ({ cls := "SpillForgeModel$Reader", name := "symbol", desc := "(I)V" } : Jvm.MethodName)) ∈ gw := gw_8 225 rfl rfl
theorem wr_p_78 : Cond.selects "SpillForgeModel$Reader" ⟨"SpillForgeModel$Reader", "symbol", "(I)V"⟩ ⟨"SpillForgeModel$Reader", "symbol", "(I)V"⟩ ∈ gw := gw_p _ 78 rfl rfl rfl
theorem dr_cX14_next_216 : decode cX14_next 216 = .ok (.aload_n 0, 1) := by decide +kernel
theorem dr_cX14_next_217 : decode cX14_next 217 = .ok (.invokevirtual 57, 3) := by decide +kernel
theorem wr_7_225 : (Jvm.Cond.methodLink "SpillForgeModel$Reader" (57 : Nat) ({ cls := "SpillForgeModel$Reader", name := "word", desc := "()V" } : Jvm.MethodName)) ∈ gw := gw_7 225 rfl rfl
theorem wr_7_228 : (Jvm.Cond.code ({ cls := "SpillForgeModel$Reader", name := "word", desc := "()V" } : Jvm.MethodName) prog_17_method_5_code (4 : Nat) (Option.none : Option Jvm.ClassFile.FieldType)) ∈ gw := gw_7 228 rfl rfl
theorem wr_7_227 : (Jvm.Cond.instanceMethod ({ cls := "SpillForgeModel$Reader", name := "word", desc := "()V" } : Jvm.MethodName)) ∈ gw := gw_7 227 rfl rfl
theorem wr_p_76 : Cond.selects "SpillForgeModel$Reader" ⟨"SpillForgeModel$Reader", "word", "()V"⟩ ⟨"SpillForgeModel$Reader", "word", "()V"⟩ ∈ gw := gw_p _ 76 rfl rfl rfl
theorem dr_cX14_next_220 : decode cX14_next 220 = .ok (.goto 27, 3) := by decide +kernel
theorem dr_cX14_next_151 : decode cX14_next 151 = .ok (.iload_n 1, 1) := by decide +kernel
theorem dr_cX14_next_152 : decode cX14_next 152 = .ok (.bipush 45, 2) := by decide +kernel
theorem dr_cX14_next_154 : decode cX14_next 154 = .ok (.if_icmp .ne 53, 3) := by decide +kernel
theorem dr_cX14_next_207 : decode cX14_next 207 = .ok (.iconst 0, 1) := by decide +kernel
theorem dr_cX14_next_208 : decode cX14_next 208 = .ok (.istore_n 2, 1) := by decide +kernel
theorem dr_cX14_next_157 : decode cX14_next 157 = .ok (.aload_n 0, 1) := by decide +kernel
theorem dr_cX14_next_158 : decode cX14_next 158 = .ok (.getfield 44, 3) := by decide +kernel
theorem dr_cX14_next_161 : decode cX14_next 161 = .ok (.iconst 1, 1) := by decide +kernel
theorem dr_cX14_next_162 : decode cX14_next 162 = .ok (.iadd, 1) := by decide +kernel
theorem dr_cX14_next_163 : decode cX14_next 163 = .ok (.aload_n 0, 1) := by decide +kernel
theorem dr_cX14_next_164 : decode cX14_next 164 = .ok (.getfield 32, 3) := by decide +kernel
theorem dr_cX14_next_167 : decode cX14_next 167 = .ok (.if_icmp .ge 40, 3) := by decide +kernel
theorem dr_cX14_next_170 : decode cX14_next 170 = .ok (.aload_n 0, 1) := by decide +kernel
theorem dr_cX14_next_171 : decode cX14_next 171 = .ok (.getfield 28, 3) := by decide +kernel
theorem dr_cX14_next_174 : decode cX14_next 174 = .ok (.aload_n 0, 1) := by decide +kernel
theorem dr_cX14_next_175 : decode cX14_next 175 = .ok (.getfield 44, 3) := by decide +kernel
theorem dr_cX14_next_178 : decode cX14_next 178 = .ok (.iconst 1, 1) := by decide +kernel
theorem dr_cX14_next_179 : decode cX14_next 179 = .ok (.iadd, 1) := by decide +kernel
theorem dr_cX14_next_180 : decode cX14_next 180 = .ok (.baload, 1) := by decide +kernel
theorem dr_cX14_next_181 : decode cX14_next 181 = .ok (.invokestatic 50, 3) := by decide +kernel
theorem dr_cX14_next_184 : decode cX14_next 184 = .ok (.ifCond .eq 23, 3) := by decide +kernel
theorem dr_cX14_next_187 : decode cX14_next 187 = .ok (.aload_n 0, 1) := by decide +kernel
theorem dr_cX14_next_188 : decode cX14_next 188 = .ok (.getfield 41, 3) := by decide +kernel
theorem dr_cX14_next_191 : decode cX14_next 191 = .ok (.iconst 2, 1) := by decide +kernel
theorem dr_cX14_next_192 : decode cX14_next 192 = .ok (.if_icmp .eq 15, 3) := by decide +kernel
theorem dr_cX14_next_195 : decode cX14_next 195 = .ok (.aload_n 0, 1) := by decide +kernel
theorem dr_cX14_next_196 : decode cX14_next 196 = .ok (.getfield 41, 3) := by decide +kernel
theorem dr_cX14_next_199 : decode cX14_next 199 = .ok (.iconst 4, 1) := by decide +kernel
theorem dr_cX14_next_200 : decode cX14_next 200 = .ok (.if_icmp .eq 7, 3) := by decide +kernel
theorem dr_cX14_next_203 : decode cX14_next 203 = .ok (.iconst 1, 1) := by decide +kernel
theorem dr_cX14_next_204 : decode cX14_next 204 = .ok (.goto 4, 3) := by decide +kernel
theorem dr_cX14_next_135 : decode cX14_next 135 = .ok (.aload_n 0, 1) := by decide +kernel
theorem dr_cX14_next_136 : decode cX14_next 136 = .ok (.iconst 0, 1) := by decide +kernel
theorem dr_cX14_next_137 : decode cX14_next 137 = .ok (.putfield 38, 3) := by decide +kernel
theorem dr_cX14_next_140 : decode cX14_next 140 = .ok (.return_, 1) := by decide +kernel
theorem dr_cX14_next_19 : decode cX14_next 19 = .ok (.aload_n 0, 1) := by decide +kernel
theorem dr_cX14_next_20 : decode cX14_next 20 = .ok (.getfield 28, 3) := by decide +kernel
theorem dr_cX14_next_23 : decode cX14_next 23 = .ok (.aload_n 0, 1) := by decide +kernel
theorem dr_cX14_next_24 : decode cX14_next 24 = .ok (.getfield 44, 3) := by decide +kernel
theorem dr_cX14_next_27 : decode cX14_next 27 = .ok (.baload, 1) := by decide +kernel
theorem dr_cX14_next_28 : decode cX14_next 28 = .ok (.istore_n 1, 1) := by decide +kernel
theorem dr_cX14_next_29 : decode cX14_next 29 = .ok (.iload_n 1, 1) := by decide +kernel
theorem dr_cX14_next_30 : decode cX14_next 30 = .ok (.bipush 59, 2) := by decide +kernel
theorem dr_cX14_next_32 : decode cX14_next 32 = .ok (.if_icmp .ne 41, 3) := by decide +kernel
theorem dr_cX14_next_73 : decode cX14_next 73 = .ok (.iload_n 1, 1) := by decide +kernel
theorem dr_cX14_next_74 : decode cX14_next 74 = .ok (.bipush 9, 2) := by decide +kernel
theorem dr_cX14_next_76 : decode cX14_next 76 = .ok (.if_icmp .eq 21, 3) := by decide +kernel
theorem dr_cX14_next_97 : decode cX14_next 97 = .ok (.aload_n 0, 1) := by decide +kernel
theorem dr_cX14_next_98 : decode cX14_next 98 = .ok (.dup, 1) := by decide +kernel
theorem dr_cX14_next_99 : decode cX14_next 99 = .ok (.getfield 44, 3) := by decide +kernel
theorem dr_cX14_next_102 : decode cX14_next 102 = .ok (.iconst 1, 1) := by decide +kernel
theorem dr_cX14_next_103 : decode cX14_next 103 = .ok (.iadd, 1) := by decide +kernel
theorem dr_cX14_next_104 : decode cX14_next 104 = .ok (.putfield 44, 3) := by decide +kernel
theorem dr_cX14_next_107 : decode cX14_next 107 = .ok (.goto (-99), 3) := by decide +kernel
theorem dr_cX14_next_79 : decode cX14_next 79 = .ok (.iload_n 1, 1) := by decide +kernel
theorem dr_cX14_next_80 : decode cX14_next 80 = .ok (.bipush 10, 2) := by decide +kernel
theorem dr_cX14_next_82 : decode cX14_next 82 = .ok (.if_icmp .eq 15, 3) := by decide +kernel
theorem dr_cX14_next_85 : decode cX14_next 85 = .ok (.iload_n 1, 1) := by decide +kernel
theorem dr_cX14_next_86 : decode cX14_next 86 = .ok (.bipush 13, 2) := by decide +kernel
theorem dr_cX14_next_88 : decode cX14_next 88 = .ok (.if_icmp .eq 9, 3) := by decide +kernel
theorem dr_cX14_next_91 : decode cX14_next 91 = .ok (.iload_n 1, 1) := by decide +kernel
theorem dr_cX14_next_92 : decode cX14_next 92 = .ok (.bipush 32, 2) := by decide +kernel
theorem dr_cX14_next_94 : decode cX14_next 94 = .ok (.if_icmp .ne 16, 3) := by decide +kernel
theorem dr_cX14_next_35 : decode cX14_next 35 = .ok (.aload_n 0, 1) := by decide +kernel
theorem dr_cX14_next_36 : decode cX14_next 36 = .ok (.getfield 44, 3) := by decide +kernel
theorem dr_cX14_next_39 : decode cX14_next 39 = .ok (.aload_n 0, 1) := by decide +kernel
theorem dr_cX14_next_40 : decode cX14_next 40 = .ok (.getfield 32, 3) := by decide +kernel
theorem dr_cX14_next_43 : decode cX14_next 43 = .ok (.if_icmp .ge 64, 3) := by decide +kernel
theorem dr_cX14_next_46 : decode cX14_next 46 = .ok (.aload_n 0, 1) := by decide +kernel
theorem dr_cX14_next_47 : decode cX14_next 47 = .ok (.getfield 28, 3) := by decide +kernel
theorem dr_cX14_next_50 : decode cX14_next 50 = .ok (.aload_n 0, 1) := by decide +kernel
theorem dr_cX14_next_51 : decode cX14_next 51 = .ok (.getfield 44, 3) := by decide +kernel
theorem dr_cX14_next_54 : decode cX14_next 54 = .ok (.baload, 1) := by decide +kernel
theorem dr_cX14_next_55 : decode cX14_next 55 = .ok (.bipush 10, 2) := by decide +kernel
theorem dr_cX14_next_57 : decode cX14_next 57 = .ok (.if_icmp .eq 50, 3) := by decide +kernel
theorem dr_cX14_next_60 : decode cX14_next 60 = .ok (.aload_n 0, 1) := by decide +kernel
theorem dr_cX14_next_61 : decode cX14_next 61 = .ok (.dup, 1) := by decide +kernel
theorem dr_cX14_next_62 : decode cX14_next 62 = .ok (.getfield 44, 3) := by decide +kernel
theorem dr_cX14_next_65 : decode cX14_next 65 = .ok (.iconst 1, 1) := by decide +kernel
theorem dr_cX14_next_66 : decode cX14_next 66 = .ok (.iadd, 1) := by decide +kernel
theorem dr_cX14_next_67 : decode cX14_next 67 = .ok (.putfield 44, 3) := by decide +kernel
theorem dr_cX14_next_70 : decode cX14_next 70 = .ok (.goto (-35), 3) := by decide +kernel
abbrev ky_671599_Reader_next : gKey := (cX14_next, 3, "SpillForgeModel$Reader", none, [], "next", fun _ _ => True)
def pp_671599_Reader_next (D : va_G) (I : FieldType → ClassId) (P671578 : List Nat) (F671579 : Nat → va_E) (q671580 : Nat) (q671581 : Nat) (p671582 : Int32) (p671583 : Int32) (p671584 : Int32) (p671585 : Int32) (p671586 : Int32) (p671587 : Int32) (qo671588 : Nat) (p671589 : Int32) (p671590 : Int32) (p671591 : Int32) (qo671592 : Nat) (qo671593 : Nat) (p671594 : Int32) (f671595 : Nat → Int32) : Option Value → va_W → Nat → Nat → Prop := fun r w dc ds => ∃ (P673318 : List Nat) (F673319 : Nat → va_E) (o673313 : Int32) (o673314 : Int32) (o673315 : Int32) (o673316 : Int32) (q673317 : Nat) (xt673320 : gTx), r = none ∧ w = va_pl P673318 F673319 ∧ rSub P671578 P673318 ∧ rFr [q671580] P671578 F671579 F673319 ∧ F673319 q671580 = .inr (19, [.ref q671581, .int p671582, .int o673313, .int o673314, .int o673315, .int o673316, .int p671584, .ref q673317, .int p671589, .int p671590, .int p671591, .ref qo671592, .ref qo671593, .int p671594]) ∧ F673319 q671581 = .inl (I .byte, 8192, .inl f671595) ∧ dc ≤ (16 * (o673313.toInt - p671583.toInt)).toNat ∧ ds ≤ (160 * (o673313.toInt - p671583.toInt)).toNat ∧ gB o673313 0 8192 ∧ gB o673314 0 6 ∧ gB o673315 0 8192 ∧ p671583.toInt ≤ o673313.toInt ∧ prP o673314 p671583 o673313 ∧ o673313.toInt ≤ p671582.toInt ∧ tP I P673318 F673319 o673314 q673317 qo671593 qo671592 xt673320 ∧ vP o673314 o673316 ∧ tr_RReader_next p671582 p671583 p671584 p671586 f671595 o673313 o673314 o673315 o673316 xt673320
set_option maxRecDepth 100000 in
set_option maxHeartbeats 4000000 in
theorem cp_671599_Reader_next (l : Launch) (hl0 : l.stackTraces = false) (D : va_G) (I : FieldType → ClassId) (P671578 : List Nat) (F671579 : Nat → va_E) (q671580 : Nat) (q671581 : Nat) (p671582 : Int32) (p671583 : Int32) (p671584 : Int32) (p671585 : Int32) (p671586 : Int32) (p671587 : Int32) (qo671588 : Nat) (p671589 : Int32) (p671590 : Int32) (p671591 : Int32) (qo671592 : Nat) (qo671593 : Nat) (p671594 : Int32) (f671595 : Nat → Int32) (hmq671580 : q671580 ∈ P671578) (hmq671581 : q671581 ∈ P671578) (heq671580 : F671579 q671580 = .inr (19, [.ref q671581, .int p671582, .int p671583, .int p671584, .int p671585, .int p671586, .int p671587, .ref qo671588, .int p671589, .int p671590, .int p671591, .ref qo671592, .ref qo671593, .int p671594])) (heq671581 : F671579 q671581 = .inl (I .byte, 8192, .inl f671595)) (bp671582 : gB p671582 0 8192) (bp671583 : gB p671583 0 8192) (bp671584 : gB p671584 0 6) (bp671585 : gB p671585 0 8192) (bp671587 : gB p671587 0 6) (bp671589 : gB p671589 (-1) 8192) (bp671590 : gB p671590 0 4) (bp671591 : gB p671591 0 1000000) (bp671594 : gB p671594 0 1000000) (bf671595 : gF f671595 (-128) 127) (x671596 : p671583.toInt ≤ p671582.toInt) (x671597 : qo671593 ∈ P671578) (x671598 : qo671592 ∈ P671578) : CtA (gV D I) l yX14_next cX14_next 3 none 7 155 ((16 * (p671582.toInt - p671583.toInt)).toNat) ((160 * (p671582.toInt - p671583.toInt)).toNat) [.ref q671580] (va_pl P671578 F671579) (pp_671599_Reader_next D I P671578 F671579 q671580 q671581 p671582 p671583 p671584 p671585 p671586 p671587 qo671588 p671589 p671590 p671591 qo671592 qo671593 p671594 f671595) gNA := by
  refine CtA_of hl0 (by decide) (Nat.le_of_ble_eq_true rfl) ?_
  have bp671586 := gB_any p671586
  refine G_aload_n 0 dr_cX14_next_0 rfl ?_
  refine G_aload_n 0 dr_cX14_next_1 rfl ?_
  refine Gp_get 3 hmq671580 heq671580 dr_cX14_next_2 (gk_X14 D I) (Nat.le_of_ble_eq_true rfl) wr_9_39 rfl ?_
  refine Gp_put 6 hmq671580 heq671580 dr_cX14_next_5 (gk_X14 D I) (Nat.le_of_ble_eq_true rfl) wr_9_42 rfl rfl rfl (Nat.le_of_ble_eq_true rfl) (fun F671600 e671601 n671602 => ?_)
  have he671603 : F671600 q671581 = .inl (I .byte, 8192, .inl f671595) := (n671602 q671581 (rn_ao heq671581 heq671580)).trans heq671581
  have he671604 : F671600 q671580 = .inr (19, [.ref q671581, .int p671582, .int p671583, .int p671584, .int p671585, .int p671586, .int p671584, .ref qo671588, .int p671589, .int p671590, .int p671591, .ref qo671592, .ref qo671593, .int p671594]) := e671601
  have hfr671605 : rFr [q671580] P671578 F671579 F671600 := rFr_put (rFr_rf (W := []) (P := P671578) (F := F671579)) n671602
  have hlp8_672739 : ∀ (n8_672739 : Nat) (F672734 : Nat → va_E) (g672733 : Int32), gB g672733 0 8192 → rFr [q671580] P671578 F671579 F672734 → F672734 q671580 = .inr (19, [.ref q671581, .int p671582, .int g672733, .int p671584, .int p671585, .int p671586, .int p671584, .ref qo671588, .int p671589, .int p671590, .int p671591, .ref qo671592, .ref qo671593, .int p671594]) → F672734 q671581 = .inl (I .byte, 8192, .inl f671595) → p671583.toInt ≤ g672733.toInt → g672733.toInt ≤ p671582.toInt → (∀ (k : Nat) (e1 : Int32), tl_RReader_next_8 p671582 f671595 g672733 k e1 → tl_RReader_next_8 p671582 f671595 p671583 k e1) → ((p671582.toInt : Int) + 1 - g672733.toInt).toNat < n8_672739 → G (gV D I) l (gRm 7 155 ((16 * (p671582.toInt - p671583.toInt)).toNat) ((160 * (p671582.toInt - p671583.toInt)).toNat)) (gMA (gV D I) (pp_671599_Reader_next D I P671578 F671579 q671580 q671581 p671582 p671583 p671584 p671585 p671586 p671587 qo671588 p671589 p671590 p671591 qo671592 qo671593 p671594 f671595) gNA ((16 * (p671582.toInt - p671583.toInt)).toNat) ((160 * (p671582.toInt - p671583.toInt)).toNat)) ky_671599_Reader_next 8 [(0, .ref q671580)] [] (va_pl P671578 F672734) 0 0 := by
    intro n8_672739
    induction n8_672739 with
    | zero => intro F672734 g672733 bg672733 hfr672737 he672735 he672736 x672738 x672739 kt8_672739 hm8_672739; exact absurd hm8_672739 (Nat.not_lt_zero _)
    | succ n8_672739 ih8_672739 =>
      intro F672734 g672733 bg672733 hfr672737 he672735 he672736 x672738 x672739 kt8_672739 hm8_672739
      refine G_aload_n 0 dr_cX14_next_8 rfl ?_
      refine Gp_get 2 hmq671580 he672735 dr_cX14_next_9 (gk_X14 D I) (Nat.le_of_ble_eq_true rfl) wr_9_38 rfl ?_
      refine G_aload_n 0 dr_cX14_next_12 rfl ?_
      refine Gp_get 1 hmq671580 he672735 dr_cX14_next_13 (gk_X14 D I) (Nat.le_of_ble_eq_true rfl) wr_9_37 rfl ?_
      refine G_icmp_ge 110 dr_cX14_next_16 (by decide +kernel) (fun hc672740 => ?_) (fun hc672740 => ?_)
      · have r672741 : p671582.toInt ≤ g672733.toInt := gC_le hc672740
        have hx672742 : tl_RReader_next_8 p671582 f671595 p671583 110 g672733 := kt8_672739 110 g672733 (fun R c1 c2 c3 c4 c5 c6 c7 => c1 g672733 bg672733 r672741)
        clear he671603 he671604 hfr671605
        refine G_aload_n 0 dr_cX14_next_110 rfl ?_
        refine G_aload_n 0 dr_cX14_next_111 rfl ?_
        refine Gp_get 2 hmq671580 he672735 dr_cX14_next_112 (gk_X14 D I) (Nat.le_of_ble_eq_true rfl) wr_9_38 rfl ?_
        refine Gp_put 4 hmq671580 he672735 dr_cX14_next_115 (gk_X14 D I) (Nat.le_of_ble_eq_true rfl) wr_9_40 rfl rfl rfl (Nat.le_of_ble_eq_true rfl) (fun F672743 e672744 n672745 => ?_)
        have he672746 : F672743 q671581 = .inl (I .byte, 8192, .inl f671595) := (n672745 q671581 (rn_ao he672736 he672735)).trans he672736
        have he672747 : F672743 q671580 = .inr (19, [.ref q671581, .int p671582, .int g672733, .int p671584, .int g672733, .int p671586, .int p671584, .ref qo671588, .int p671589, .int p671590, .int p671591, .ref qo671592, .ref qo671593, .int p671594]) := e672744
        have hfr672748 : rFr [q671580] P671578 F671579 F672743 := rFr_put' List.mem_cons_self hfr672737 n672745
        refine G_aload_n 0 dr_cX14_next_118 rfl ?_
        refine G_ldcK (a := D.2 1000 32) dr_cX14_next_119 (fun _ _ _ h => gx_vk 32 rfl rfl h) ?_
        have hl32_672748 : (sb_32.length : Int) = 0 := rfl
        refine Gp_put 7 hmq671580 he672747 dr_cX14_next_121 (gk_X14 D I) (Nat.le_of_ble_eq_true rfl) wr_9_43 rfl rfl rfl (Nat.le_of_ble_eq_true rfl) (fun F672750 e672751 n672752 => ?_)
        have he672753 : F672750 q671581 = .inl (I .byte, 8192, .inl f671595) := (n672752 q671581 (rn_ao he672746 he672747)).trans he672746
        have he672754 : F672750 q671580 = .inr (19, [.ref q671581, .int p671582, .int g672733, .int p671584, .int g672733, .int p671586, .int p671584, .ref (D.2 1000 32), .int p671589, .int p671590, .int p671591, .ref qo671592, .ref qo671593, .int p671594]) := e672751
        have hfr672755 : rFr [q671580] P671578 F671579 F672750 := rFr_put' List.mem_cons_self hfr672748 n672752
        clear he672746 he672747 hfr672748
        refine G_aload_n 0 dr_cX14_next_124 rfl ?_
        refine Gp_get 2 hmq671580 he672754 dr_cX14_next_125 (gk_X14 D I) (Nat.le_of_ble_eq_true rfl) wr_9_38 rfl ?_
        refine G_aload_n 0 dr_cX14_next_128 rfl ?_
        refine Gp_get 1 hmq671580 he672754 dr_cX14_next_129 (gk_X14 D I) (Nat.le_of_ble_eq_true rfl) wr_9_37 rfl ?_
        refine G_icmp_ne 141 dr_cX14_next_132 (by decide +kernel) (fun hc672756 => ?_) (fun hc672756 => ?_)
        · have r672757 : g672733.toInt ≠ p671582.toInt := gC_ne hc672756
          refine G_aload_n 0 dr_cX14_next_141 rfl ?_
          refine Gp_get 0 hmq671580 he672754 dr_cX14_next_142 (gk_X14 D I) (Nat.le_of_ble_eq_true rfl) wr_9_36 rfl ?_
          refine G_aload_n 0 dr_cX14_next_145 rfl ?_
          refine Gp_get 2 hmq671580 he672754 dr_cX14_next_146 (gk_X14 D I) (Nat.le_of_ble_eq_true rfl) wr_9_38 rfl ?_
          refine Gp_bald 1 hmq671581 he672753 dr_cX14_next_149 rfl (gB_inr (by omega) (by omega)) (G_nam fun z672758 hz672758 => ?_)
          have bz672758 : gB z672758 (-128) 127 := by rw [hz672758]; exact bf671595 _
          refine G_istore_n (L' := [(1, .int z672758), (0, .ref q671580)]) dr_cX14_next_150 (Nat.le_of_ble_eq_true rfl) rfl ?_
          have jn672759 : ((z672758.toInt ≠ 45) ∨ (∃ (y1 : Int32), z672758.toInt = 45 ∧ y1.toInt = g672733.toInt + 1 ∧ p671582.toInt ≤ y1.toInt) ∨ (∃ (y1 : Int32) (y2 : Int32) (y3 : Int32), z672758.toInt = 45 ∧ y1.toInt = g672733.toInt + 1 ∧ y1.toInt < p671582.toInt ∧ y2 = f671595 y1.toNatClampNeg ∧ gB y2 (-128) 127 ∧ gB y3 0 1 ∧ tr_RReader_isDigit2 y2 y3 ∧ y3.toInt = 0) ∨ (∃ (y1 : Int32) (y2 : Int32) (y3 : Int32), z672758.toInt = 45 ∧ y1.toInt = g672733.toInt + 1 ∧ y1.toInt < p671582.toInt ∧ y2 = f671595 y1.toNatClampNeg ∧ gB y2 (-128) 127 ∧ gB y3 0 1 ∧ tr_RReader_isDigit2 y2 y3 ∧ y3.toInt ≠ 0 ∧ p671584.toInt = 2) ∨ (∃ (y1 : Int32) (y2 : Int32) (y3 : Int32), z672758.toInt = 45 ∧ y1.toInt = g672733.toInt + 1 ∧ y1.toInt < p671582.toInt ∧ y2 = f671595 y1.toNatClampNeg ∧ gB y2 (-128) 127 ∧ gB y3 0 1 ∧ tr_RReader_isDigit2 y2 y3 ∧ y3.toInt ≠ 0 ∧ p671584.toInt ≠ 2 ∧ p671584.toInt = 4)) → G (gV D I) l (gRm 7 155 ((16 * (p671582.toInt - p671583.toInt)).toNat) ((160 * (p671582.toInt - p671583.toInt)).toNat)) (gMA (gV D I) (pp_671599_Reader_next D I P671578 F671579 q671580 q671581 p671582 p671583 p671584 p671585 p671586 p671587 qo671588 p671589 p671590 p671591 qo671592 qo671593 p671594 f671595) gNA ((16 * (p671582.toInt - p671583.toInt)).toNat) ((160 * (p671582.toInt - p671583.toInt)).toNat)) ky_671599_Reader_next 209 [(2, .int 0), (1, .int z672758), (0, .ref q671580)] [] (va_pl P671578 F672750) 0 0 := by
            intro hJ672760
            refine G_iload_n 1 dr_cX14_next_209 rfl ?_
            refine Gw_callS (As := [.int z672758]) (gV_ok D I) (cp_669294_Reader_isLetter l hl0 D I P671578 F672750 z672758 ) dr_cX14_next_210 ⟨wr_7_222, wr_1_32, wr_7_224, by decide, rfl, (Nat.le_of_ble_eq_true rfl), (Nat.le_of_ble_eq_true rfl)⟩ wr_7_223 (show 0 + 0 ≤ ((16 * (p671582.toInt - p671583.toInt)).toNat) by first | omega | decide) (show 0 + 0 ≤ ((160 * (p671582.toInt - p671583.toInt)).toNat) by first | omega | decide) (Nat.le_of_ble_eq_true rfl) (fun r672764 w672765 dc672761 ds672762 hp672763 => ?_) (fun _ _ _ _ _ z => z.elim)
            obtain ⟨o672766, rfl, rfl, hdc, hds, bo672766, x672767, ht672768⟩ := hp672763
            change G _ _ _ _ _ _ _ (.int o672766 :: _) _ _ _
            refine G_widen (cs' := 0) (sl' := 0) (by omega) (by omega) ?_
            refine G_if_eq 223 dr_cX14_next_213 (by decide +kernel) (fun hc672769 => ?_) (fun hc672769 => ?_)
            · have r672770 : o672766.toInt = 0 := gj_eq hc672769 (show Int32.toInt 0 = 0 by decide)
              have bo672766' : gB o672766 0 0 := ⟨by omega, by omega⟩
              clear bo672766'; try clear r672764; try clear w672765; try clear dc672761; try clear ds672762; try clear hp672763; try clear x672767
              refine G_iload_n 1 dr_cX14_next_223 rfl ?_
              refine Gw_callS (As := [.int z672758]) (gV_ok D I) (cp_667344_Reader_isDigit l hl0 D I P671578 F672750 z672758 ) dr_cX14_next_224 ⟨wr_7_219, wr_1_32, wr_7_221, by decide, rfl, (Nat.le_of_ble_eq_true rfl), (Nat.le_of_ble_eq_true rfl)⟩ wr_7_220 (show 0 + 0 ≤ ((16 * (p671582.toInt - p671583.toInt)).toNat) by first | omega | decide) (show 0 + 0 ≤ ((160 * (p671582.toInt - p671583.toInt)).toNat) by first | omega | decide) (Nat.le_of_ble_eq_true rfl) (fun r672774 w672775 dc672771 ds672772 hp672773 => ?_) (fun _ _ _ _ _ z => z.elim)
              obtain ⟨o672776, rfl, rfl, hdc, hds, bo672776, x672777, ht672778⟩ := hp672773
              change G _ _ _ _ _ _ _ (.int o672776 :: _) _ _ _
              refine G_widen (cs' := 0) (sl' := 0) (by omega) (by omega) ?_
              refine G_if_ne 234 dr_cX14_next_227 (by decide +kernel) (fun hc672779 => ?_) (fun hc672779 => ?_)
              · have r672780 : o672776.toInt ≠ 0 := gj_neq hc672779 (show Int32.toInt 0 = 0 by decide)
                have bo672776' : gB o672776 1 1 := ⟨by omega, by omega⟩
                have bi672781 : gB z672758 48 57 := isP_1 x672777 (by omega)
                refine G_aload_n 2 dr_cX14_next_234 rfl ?_
                refine G_iload_n 0 dr_cX14_next_235 rfl ?_
                refine Gw_callV (As := [.int 0]) (gV_ok D I) (cp_667308_Reader_number l hl0 D I P671578 F672750 q671580 q671581 0 p671582 g672733 p671584 g672733 p671586 p671584 (D.2 1000 32) p671589 p671590 p671591 qo671592 qo671593 p671594 f671595 hmq671580 hmq671581 he672754 he672753 (gB_w (gBl (show Int32.toInt 0 = 0 by decide)) (by decide) (by decide)) bp671582 bg672733 bp671584 bg672733 bp671584 bp671589 bp671590 bp671591 bp671594 bf671595 (by have qa0 : Int32.toInt 0 = 0 := (by decide); omega) (by have qa0 : Int32.toInt 0 = 0 := (by decide); omega) (by first | assumption | exact cDg_no (by omega) | exact cDg_no (by decide) | exact cDg_of (by assumption) (by omega) (by omega)) x671597 x671598) dr_cX14_next_236 ⟨wr_8_218, wr_1_32, wr_8_221, by decide, rfl, (Nat.le_of_ble_eq_true rfl), (Nat.le_of_ble_eq_true rfl)⟩ wr_8_220 wr_p_77 hmq671580 he672754 rfl (show 0 + ((16 * (p671582.toInt - g672733.toInt)).toNat) ≤ ((16 * (p671582.toInt - p671583.toInt)).toNat) by first | omega | decide) (show 0 + ((160 * (p671582.toInt - g672733.toInt)).toNat) ≤ ((160 * (p671582.toInt - p671583.toInt)).toNat) by first | omega | decide) (Nat.le_of_ble_eq_true rfl) (fun r672785 w672786 dc672782 ds672783 hp672784 => ?_) (fun _ _ _ _ _ z => z.elim)
                obtain ⟨F672796, o672787, o672788, o672789, xt672795, rfl, rfl, hfr672798, he672799, he672800, hdc, hds, bo672787, bo672788, x672790, x672791, x672792, x672793, ht672794⟩ := hp672784
                have hfr672801 : rFr [q671580] P671578 F671579 F672796 := rFr_call (rSub_rf (P := P671578)) hfr672755 hfr672798 (fun b hb hn => ⟨(nm_c (fun e => hn (e ▸ List.mem_cons_self)) nm_n), (nm_c (fun e => hn (e ▸ List.mem_cons_self)) nm_n)⟩)
                have bo672789 := gB_any o672789
                change G _ _ _ _ _ _ _ _ _ _ _
                refine G_widen (cs' := (16 * (o672787.toInt - g672733.toInt)).toNat) (sl' := (160 * (o672787.toInt - g672733.toInt)).toNat) (by omega) (by omega) ?_
                refine G_goto 247 dr_cX14_next_239 (by decide +kernel) ?_
                exact G_vretA dr_cX14_next_247 rfl (show (16 * (o672787.toInt - g672733.toInt)).toNat ≤ ((16 * (p671582.toInt - p671583.toInt)).toNat) by omega) (show (160 * (o672787.toInt - g672733.toInt)).toNat ≤ ((160 * (p671582.toInt - p671583.toInt)).toNat) by omega) ⟨P671578, F672796, o672787, o672788, g672733, o672789, (D.2 1000 32), xt672795, rfl, rfl, (rSub_rf (P := P671578)), hfr672801, he672799, he672800, (by omega), (by omega), bo672787, (gB_w bo672788 (by decide) (by decide)), bg672733, (by have qa0 : Int32.toInt 0 = 0 := (by decide); omega), (Or.inr (by omega)), (by have qa0 : Int32.toInt 0 = 0 := (by decide); omega), (by first | exact tP_no (by omega) (by omega) | assumption), x672793, (fun R c1 c2 c3 c4 c5 c6 c7 c8 c9 c10 c11 c12 c13 => c1 g672733 z672758 o672766 o672776 xt672795 o672787 o672788 o672789 hx672742 r672757 hz672758 bz672758 hJ672760 bo672766 ht672768 r672770 bo672776 ht672778 r672780 bo672787 bo672788 ht672794)⟩
              · have r672802 : o672776.toInt = 0 := gj_eq hc672779 (show Int32.toInt 0 = 0 by decide)
                have bo672776' : gB o672776 0 0 := ⟨by omega, by omega⟩
                refine G_iload_n 0 dr_cX14_next_230 rfl ?_
                refine G_if_eq 242 dr_cX14_next_231 (by decide +kernel) (fun _ => ?_) (fun hc => absurd hc (by decide))
                refine G_aload_n 2 dr_cX14_next_242 rfl ?_
                refine G_iload_n 1 dr_cX14_next_243 rfl ?_
                refine Gw_callV (As := [.int z672758]) (gV_ok D I) (cp_667931_Reader_symbol l hl0 D I P671578 F672750 q671580 q671581 z672758 p671582 g672733 p671584 g672733 p671586 p671584 (D.2 1000 32) p671589 p671590 p671591 qo671592 qo671593 p671594 f671595 hmq671580 hmq671581 he672754 he672753 bz672758 bp671582 bg672733 bp671584 bg672733 bp671584 bp671589 bp671590 bp671591 bp671594 bf671595 (by have qa0 : Int32.toInt 0 = 0 := (by decide); omega) (by have qa0 : Int32.toInt 0 = 0 := (by decide); omega) x671597 x671598) dr_cX14_next_244 ⟨wr_8_223, wr_1_32, wr_8_226, by decide, rfl, (Nat.le_of_ble_eq_true rfl), (Nat.le_of_ble_eq_true rfl)⟩ wr_8_225 wr_p_78 hmq671580 he672754 rfl (show 0 + ((16 * (p671582.toInt - g672733.toInt)).toNat) ≤ ((16 * (p671582.toInt - p671583.toInt)).toNat) by first | omega | decide) (show 0 + ((160 * (p671582.toInt - g672733.toInt)).toNat) ≤ ((160 * (p671582.toInt - p671583.toInt)).toNat) by first | omega | decide) (Nat.le_of_ble_eq_true rfl) (fun r672806 w672807 dc672803 ds672804 hp672805 => ?_) (fun _ _ _ _ _ z => z.elim)
                obtain ⟨P672817, F672818, o672808, o672809, q672810, xt672816, rfl, rfl, hsb672819, hfr672820, he672821, he672822, hdc, hds, bo672808, bo672809, x672811, x672812, x672813, x672814, ht672815⟩ := hp672805
                have hm672823 : q671580 ∈ P672817 := hsb672819 q671580 hmq671580
                have hm672824 : q671581 ∈ P672817 := hsb672819 q671581 hmq671581
                have hsb672825 : rSub P671578 P672817 := rSub_tr (rSub_rf (P := P671578)) hsb672819
                have hfr672826 : rFr [q671580] P671578 F671579 F672818 := rFr_call (rSub_rf (P := P671578)) hfr672755 hfr672820 (fun b hb hn => ⟨(nm_c (fun e => hn (e ▸ List.mem_cons_self)) nm_n), (nm_c (fun e => hn (e ▸ List.mem_cons_self)) nm_n)⟩)
                change G _ _ _ _ _ _ _ _ _ _ _
                refine G_widen (cs' := (16 * (o672808.toInt - g672733.toInt)).toNat) (sl' := (160 * (o672808.toInt - g672733.toInt)).toNat) (by omega) (by omega) ?_
                exact G_vretA dr_cX14_next_247 rfl (show (16 * (o672808.toInt - g672733.toInt)).toNat ≤ ((16 * (p671582.toInt - p671583.toInt)).toNat) by omega) (show (160 * (o672808.toInt - g672733.toInt)).toNat ≤ ((160 * (p671582.toInt - p671583.toInt)).toNat) by omega) ⟨P672817, F672818, o672808, o672809, g672733, p671586, q672810, xt672816, rfl, rfl, hsb672825, hfr672826, he672821, he672822, (by omega), (by omega), (gB_w bo672808 (by decide) (by decide)), (gB_w bo672809 (by decide) (by decide)), bg672733, (by have qa0 : Int32.toInt 0 = 0 := (by decide); omega), (Or.inr (by omega)), (by have qa0 : Int32.toInt 0 = 0 := (by decide); omega), x672813, x672814, (fun R c1 c2 c3 c4 c5 c6 c7 c8 c9 c10 c11 c12 c13 => c2 g672733 z672758 o672766 o672776 xt672816 o672808 o672809 hx672742 r672757 hz672758 bz672758 hJ672760 bo672766 ht672768 r672770 bo672776 ht672778 r672802 bo672808 bo672809 ht672815)⟩
            · have r672827 : o672766.toInt ≠ 0 := gj_neq hc672769 (show Int32.toInt 0 = 0 by decide)
              have bo672766' : gB o672766 1 1 := ⟨by omega, by omega⟩
              have bi672828 : gB z672758 97 122 := isP_1 x672767 (by omega)
              refine G_aload_n 2 dr_cX14_next_216 rfl ?_
              refine Gw_callV (As := []) (gV_ok D I) (cp_668950_Reader_word l hl0 D I P671578 F672750 q671580 q671581 p671582 g672733 p671584 g672733 p671586 p671584 (D.2 1000 32) p671589 p671590 p671591 qo671592 qo671593 p671594 f671595 hmq671580 hmq671581 he672754 he672753 bp671582 bg672733 bp671584 bg672733 bp671584 bp671589 bp671590 bp671591 bp671594 bf671595 (by have qa0 : Int32.toInt 0 = 0 := (by decide); omega) (by have qa0 : Int32.toInt 0 = 0 := (by decide); omega) (by first | assumption | exact cLt_of (by assumption) (by omega) (by omega)) x671597 x671598) dr_cX14_next_217 ⟨wr_7_225, wr_1_32, wr_7_228, by decide, rfl, (Nat.le_of_ble_eq_true rfl), (Nat.le_of_ble_eq_true rfl)⟩ wr_7_227 wr_p_76 hmq671580 he672754 rfl (show 0 + ((16 * (p671582.toInt - g672733.toInt)).toNat) ≤ ((16 * (p671582.toInt - p671583.toInt)).toNat) by first | omega | decide) (show 0 + ((160 * (p671582.toInt - g672733.toInt)).toNat) ≤ ((160 * (p671582.toInt - p671583.toInt)).toNat) by first | omega | decide) (Nat.le_of_ble_eq_true rfl) (fun r672832 w672833 dc672829 ds672830 hp672831 => ?_) (fun _ _ _ _ _ z => z.elim)
              obtain ⟨P672844, F672845, o672834, o672835, o672836, q672837, xt672843, rfl, rfl, hsb672846, hfr672847, he672848, he672849, hdc, hds, bo672834, bo672835, x672838, x672839, x672840, x672841, ht672842⟩ := hp672831
              have hm672850 : q671580 ∈ P672844 := hsb672846 q671580 hmq671580
              have hm672851 : q671581 ∈ P672844 := hsb672846 q671581 hmq671581
              have hsb672852 : rSub P671578 P672844 := rSub_tr (rSub_rf (P := P671578)) hsb672846
              have hfr672853 : rFr [q671580] P671578 F671579 F672845 := rFr_call (rSub_rf (P := P671578)) hfr672755 hfr672847 (fun b hb hn => ⟨(nm_c (fun e => hn (e ▸ List.mem_cons_self)) nm_n), (nm_c (fun e => hn (e ▸ List.mem_cons_self)) nm_n)⟩)
              have bo672836 := gB_any o672836
              change G _ _ _ _ _ _ _ _ _ _ _
              refine G_widen (cs' := (16 * (o672834.toInt - g672733.toInt)).toNat) (sl' := (160 * (o672834.toInt - g672733.toInt)).toNat) (by omega) (by omega) ?_
              refine G_goto 247 dr_cX14_next_220 (by decide +kernel) ?_
              exact G_vretA dr_cX14_next_247 rfl (show (16 * (o672834.toInt - g672733.toInt)).toNat ≤ ((16 * (p671582.toInt - p671583.toInt)).toNat) by omega) (show (160 * (o672834.toInt - g672733.toInt)).toNat ≤ ((160 * (p671582.toInt - p671583.toInt)).toNat) by omega) ⟨P672844, F672845, o672834, o672835, g672733, o672836, q672837, xt672843, rfl, rfl, hsb672852, hfr672853, he672848, he672849, (by omega), (by omega), bo672834, (gB_w bo672835 (by decide) (by decide)), bg672733, (by have qa0 : Int32.toInt 0 = 0 := (by decide); omega), (Or.inr (by omega)), (by have qa0 : Int32.toInt 0 = 0 := (by decide); omega), x672840, x672841, (fun R c1 c2 c3 c4 c5 c6 c7 c8 c9 c10 c11 c12 c13 => c3 g672733 z672758 o672766 xt672843 o672834 o672835 o672836 hx672742 r672757 hz672758 bz672758 hJ672760 bo672766 ht672768 r672827 bo672834 bo672835 ht672842)⟩
          refine G_iload_n 0 dr_cX14_next_151 rfl ?_
          refine G_bipush 45 dr_cX14_next_152 (by decide +kernel) ?_
          refine G_icmp_ne 207 dr_cX14_next_154 (by decide +kernel) (fun hc672854 => ?_) (fun hc672854 => ?_)
          · have r672855 : z672758.toInt ≠ 45 := gj_neq hc672854 (show Int32.toInt 45 = 45 by decide)
            refine G_iconst 0 dr_cX14_next_207 (by decide +kernel) ?_
            refine G_istore_n (L' := [(2, .int 0), (1, .int z672758), (0, .ref q671580)]) dr_cX14_next_208 (Nat.le_of_ble_eq_true rfl) rfl ?_
            refine G_lv (L' := [(2, .int 0), (1, .int z672758), (0, .ref q671580)]) [0, 1, 2] rfl ?_
            exact jn672759 (Or.inl r672855)
          · have r672856 : z672758.toInt = 45 := gj_eq hc672854 (show Int32.toInt 45 = 45 by decide)
            have bz672758' : gB z672758 45 45 := ⟨by omega, by omega⟩
            refine G_aload_n 1 dr_cX14_next_157 rfl ?_
            refine Gp_get 2 hmq671580 he672754 dr_cX14_next_158 (gk_X14 D I) (Nat.le_of_ble_eq_true rfl) wr_9_38 rfl ?_
            refine G_iconst 1 dr_cX14_next_161 (by decide +kernel) ?_
            refine G_iadd dr_cX14_next_162 (G_nam fun z672857 hz672857 => ?_)
            have ez672857 : z672857.toInt = g672733.toInt + 1 := by rw [gI_add hz672857 bg672733 (gBl (show Int32.toInt 1 = 1 by decide)) (by decide) (by decide), show Int32.toInt 1 = 1 from by decide]
            have bz672857 : gB z672857 1 8193 := gB_add (gI_add hz672857 bg672733 (gBl (show Int32.toInt 1 = 1 by decide)) (by decide) (by decide)) bg672733 (gBl (show Int32.toInt 1 = 1 by decide)) (by decide) (by decide)
            refine G_aload_n 1 dr_cX14_next_163 rfl ?_
            refine Gp_get 1 hmq671580 he672754 dr_cX14_next_164 (gk_X14 D I) (Nat.le_of_ble_eq_true rfl) wr_9_37 rfl ?_
            refine G_icmp_ge 207 dr_cX14_next_167 (by decide +kernel) (fun hc672858 => ?_) (fun hc672858 => ?_)
            · have r672859 : p671582.toInt ≤ z672857.toInt := gC_le hc672858
              refine G_iconst 0 dr_cX14_next_207 (by decide +kernel) ?_
              refine G_istore_n (L' := [(2, .int 0), (1, .int z672758), (0, .ref q671580)]) dr_cX14_next_208 (Nat.le_of_ble_eq_true rfl) rfl ?_
              refine G_lv (L' := [(2, .int 0), (1, .int z672758), (0, .ref q671580)]) [0, 1, 2] rfl ?_
              exact jn672759 (Or.inr (Or.inl ⟨z672857, r672856, ez672857, r672859⟩))
            · have r672860 : z672857.toInt < p671582.toInt := gC_nle hc672858
              have bz672857' : gB z672857 1 8191 := ⟨by omega, by omega⟩
              have bp671582' : gB p671582 2 8192 := ⟨by omega, by omega⟩
              refine G_aload_n 1 dr_cX14_next_170 rfl ?_
              refine Gp_get 0 hmq671580 he672754 dr_cX14_next_171 (gk_X14 D I) (Nat.le_of_ble_eq_true rfl) wr_9_36 rfl ?_
              refine G_aload_n 1 dr_cX14_next_174 rfl ?_
              refine Gp_get 2 hmq671580 he672754 dr_cX14_next_175 (gk_X14 D I) (Nat.le_of_ble_eq_true rfl) wr_9_38 rfl ?_
              refine G_iconst 1 dr_cX14_next_178 (by decide +kernel) ?_
              refine G_iadd dr_cX14_next_179 (G_eqi (y := z672857) hz672857.symm ?_)
              refine Gp_bald 1 hmq671581 he672753 dr_cX14_next_180 rfl (gB_in bz672857' (by decide) (by decide)) (G_nam fun z672861 hz672861 => ?_)
              have bz672861 : gB z672861 (-128) 127 := by rw [hz672861]; exact bf671595 _
              refine Gw_callS (As := [.int z672861]) (gV_ok D I) (cp_667344_Reader_isDigit l hl0 D I P671578 F672750 z672861 ) dr_cX14_next_181 ⟨wr_7_219, wr_1_32, wr_7_221, by decide, rfl, (Nat.le_of_ble_eq_true rfl), (Nat.le_of_ble_eq_true rfl)⟩ wr_7_220 (show 0 + 0 ≤ ((16 * (p671582.toInt - p671583.toInt)).toNat) by first | omega | decide) (show 0 + 0 ≤ ((160 * (p671582.toInt - p671583.toInt)).toNat) by first | omega | decide) (Nat.le_of_ble_eq_true rfl) (fun r672865 w672866 dc672862 ds672863 hp672864 => ?_) (fun _ _ _ _ _ z => z.elim)
              obtain ⟨o672867, rfl, rfl, hdc, hds, bo672867, x672868, ht672869⟩ := hp672864
              change G _ _ _ _ _ _ _ (.int o672867 :: _) _ _ _
              refine G_widen (cs' := 0) (sl' := 0) (by omega) (by omega) ?_
              refine G_if_eq 207 dr_cX14_next_184 (by decide +kernel) (fun hc672870 => ?_) (fun hc672870 => ?_)
              · have r672871 : o672867.toInt = 0 := gj_eq hc672870 (show Int32.toInt 0 = 0 by decide)
                have bo672867' : gB o672867 0 0 := ⟨by omega, by omega⟩
                refine G_iconst 0 dr_cX14_next_207 (by decide +kernel) ?_
                refine G_istore_n (L' := [(2, .int 0), (1, .int z672758), (0, .ref q671580)]) dr_cX14_next_208 (Nat.le_of_ble_eq_true rfl) rfl ?_
                refine G_lv (L' := [(2, .int 0), (1, .int z672758), (0, .ref q671580)]) [0, 1, 2] rfl ?_
                exact jn672759 (Or.inr (Or.inr (Or.inl ⟨z672857, z672861, o672867, r672856, ez672857, r672860, hz672861, bz672861, bo672867, ht672869, r672871⟩)))
              · have r672872 : o672867.toInt ≠ 0 := gj_neq hc672870 (show Int32.toInt 0 = 0 by decide)
                have bo672867' : gB o672867 1 1 := ⟨by omega, by omega⟩
                have bi672873 : gB z672861 48 57 := isP_1 x672868 (by omega)
                refine G_aload_n 1 dr_cX14_next_187 rfl ?_
                refine Gp_get 6 hmq671580 he672754 dr_cX14_next_188 (gk_X14 D I) (Nat.le_of_ble_eq_true rfl) wr_9_42 rfl ?_
                refine G_iconst 2 dr_cX14_next_191 (by decide +kernel) ?_
                refine G_icmp_eq 207 dr_cX14_next_192 (by decide +kernel) (fun hc672874 => ?_) (fun hc672874 => ?_)
                · have r672875 : p671584.toInt = 2 := gj_eq hc672874 (show Int32.toInt 2 = 2 by decide)
                  have bp671584' : gB p671584 2 2 := ⟨by omega, by omega⟩
                  refine G_iconst 0 dr_cX14_next_207 (by decide +kernel) ?_
                  refine G_istore_n (L' := [(2, .int 0), (1, .int z672758), (0, .ref q671580)]) dr_cX14_next_208 (Nat.le_of_ble_eq_true rfl) rfl ?_
                  refine G_lv (L' := [(2, .int 0), (1, .int z672758), (0, .ref q671580)]) [0, 1, 2] rfl ?_
                  exact jn672759 (Or.inr (Or.inr (Or.inr (Or.inl ⟨z672857, z672861, o672867, r672856, ez672857, r672860, hz672861, bz672861, bo672867, ht672869, r672872, r672875⟩))))
                · have r672876 : p671584.toInt ≠ 2 := gj_neq hc672874 (show Int32.toInt 2 = 2 by decide)
                  refine G_aload_n 1 dr_cX14_next_195 rfl ?_
                  refine Gp_get 6 hmq671580 he672754 dr_cX14_next_196 (gk_X14 D I) (Nat.le_of_ble_eq_true rfl) wr_9_42 rfl ?_
                  refine G_iconst 4 dr_cX14_next_199 (by decide +kernel) ?_
                  refine G_icmp_eq 207 dr_cX14_next_200 (by decide +kernel) (fun hc672877 => ?_) (fun hc672877 => ?_)
                  · have r672878 : p671584.toInt = 4 := gj_eq hc672877 (show Int32.toInt 4 = 4 by decide)
                    have bp671584' : gB p671584 4 4 := ⟨by omega, by omega⟩
                    refine G_iconst 0 dr_cX14_next_207 (by decide +kernel) ?_
                    refine G_istore_n (L' := [(2, .int 0), (1, .int z672758), (0, .ref q671580)]) dr_cX14_next_208 (Nat.le_of_ble_eq_true rfl) rfl ?_
                    refine G_lv (L' := [(2, .int 0), (1, .int z672758), (0, .ref q671580)]) [0, 1, 2] rfl ?_
                    exact jn672759 (Or.inr (Or.inr (Or.inr (Or.inr (⟨z672857, z672861, o672867, r672856, ez672857, r672860, hz672861, bz672861, bo672867, ht672869, r672872, r672876, r672878⟩)))))
                  · have r672879 : p671584.toInt ≠ 4 := gj_neq hc672877 (show Int32.toInt 4 = 4 by decide)
                    refine G_iconst 1 dr_cX14_next_203 (by decide +kernel) ?_
                    refine G_goto 208 dr_cX14_next_204 (by decide +kernel) ?_
                    refine G_istore_n (L' := [(2, .int 1), (1, .int z672758), (0, .ref q671580)]) dr_cX14_next_208 (Nat.le_of_ble_eq_true rfl) rfl ?_
                    clear jn672759 bz672857 bo672867'; try clear r672865; try clear w672866; try clear dc672862; try clear ds672863; try clear hp672864; try clear x672868
                    refine G_iload_n 1 dr_cX14_next_209 rfl ?_
                    refine Gw_callS (As := [.int z672758]) (gV_ok D I) (cp_669294_Reader_isLetter l hl0 D I P671578 F672750 z672758 ) dr_cX14_next_210 ⟨wr_7_222, wr_1_32, wr_7_224, by decide, rfl, (Nat.le_of_ble_eq_true rfl), (Nat.le_of_ble_eq_true rfl)⟩ wr_7_223 (show 0 + 0 ≤ ((16 * (p671582.toInt - p671583.toInt)).toNat) by first | omega | decide) (show 0 + 0 ≤ ((160 * (p671582.toInt - p671583.toInt)).toNat) by first | omega | decide) (Nat.le_of_ble_eq_true rfl) (fun r672883 w672884 dc672880 ds672881 hp672882 => ?_) (fun _ _ _ _ _ z => z.elim)
                    obtain ⟨o672885, rfl, rfl, hdc, hds, bo672885, x672886, ht672887⟩ := hp672882
                    change G _ _ _ _ _ _ _ (.int o672885 :: _) _ _ _
                    refine G_widen (cs' := 0) (sl' := 0) (by omega) (by omega) ?_
                    refine G_if_eq 223 dr_cX14_next_213 (by decide +kernel) (fun hc672888 => ?_) (fun hc672888 => ?_)
                    · have r672889 : o672885.toInt = 0 := gj_eq hc672888 (show Int32.toInt 0 = 0 by decide)
                      have bo672885' : gB o672885 0 0 := ⟨by omega, by omega⟩
                      clear bo672885'; try clear r672883; try clear w672884; try clear dc672880; try clear ds672881; try clear hp672882; try clear x672886
                      refine G_iload_n 1 dr_cX14_next_223 rfl ?_
                      refine Gw_callS (As := [.int z672758]) (gV_ok D I) (cp_667344_Reader_isDigit l hl0 D I P671578 F672750 z672758 ) dr_cX14_next_224 ⟨wr_7_219, wr_1_32, wr_7_221, by decide, rfl, (Nat.le_of_ble_eq_true rfl), (Nat.le_of_ble_eq_true rfl)⟩ wr_7_220 (show 0 + 0 ≤ ((16 * (p671582.toInt - p671583.toInt)).toNat) by first | omega | decide) (show 0 + 0 ≤ ((160 * (p671582.toInt - p671583.toInt)).toNat) by first | omega | decide) (Nat.le_of_ble_eq_true rfl) (fun r672893 w672894 dc672890 ds672891 hp672892 => ?_) (fun _ _ _ _ _ z => z.elim)
                      obtain ⟨o672895, rfl, rfl, hdc, hds, bo672895, x672896, ht672897⟩ := hp672892
                      change G _ _ _ _ _ _ _ (.int o672895 :: _) _ _ _
                      refine G_widen (cs' := 0) (sl' := 0) (by omega) (by omega) ?_
                      refine G_if_ne 234 dr_cX14_next_227 (by decide +kernel) (fun hc672898 => ?_) (fun hc672898 => ?_)
                      · have r672899 : o672895.toInt ≠ 0 := gj_neq hc672898 (show Int32.toInt 0 = 0 by decide)
                        have bo672895' : gB o672895 1 1 := ⟨by omega, by omega⟩
                        have bi672900 : gB z672758 48 57 := isP_1 x672896 (by omega)
                        refine G_aload_n 2 dr_cX14_next_234 rfl ?_
                        refine G_iload_n 0 dr_cX14_next_235 rfl ?_
                        refine Gw_callV (As := [.int 1]) (gV_ok D I) (cp_667308_Reader_number l hl0 D I P671578 F672750 q671580 q671581 1 p671582 g672733 p671584 g672733 p671586 p671584 (D.2 1000 32) p671589 p671590 p671591 qo671592 qo671593 p671594 f671595 hmq671580 hmq671581 he672754 he672753 (gB_w (gBl (show Int32.toInt 1 = 1 by decide)) (by decide) (by decide)) (gB_w bp671582' (by decide) (by decide)) bg672733 bp671584 bg672733 bp671584 bp671589 bp671590 bp671591 bp671594 bf671595 (by have qa0 : Int32.toInt 1 = 1 := (by decide); omega) (by have qa0 : Int32.toInt 1 = 1 := (by decide); omega) (by first | assumption | exact cDg_no (by omega) | exact cDg_no (by decide) | exact cDg_of (by assumption) (by omega) (by omega)) x671597 x671598) dr_cX14_next_236 ⟨wr_8_218, wr_1_32, wr_8_221, by decide, rfl, (Nat.le_of_ble_eq_true rfl), (Nat.le_of_ble_eq_true rfl)⟩ wr_8_220 wr_p_77 hmq671580 he672754 rfl (show 0 + ((16 * (p671582.toInt - g672733.toInt)).toNat) ≤ ((16 * (p671582.toInt - p671583.toInt)).toNat) by first | omega | decide) (show 0 + ((160 * (p671582.toInt - g672733.toInt)).toNat) ≤ ((160 * (p671582.toInt - p671583.toInt)).toNat) by first | omega | decide) (Nat.le_of_ble_eq_true rfl) (fun r672904 w672905 dc672901 ds672902 hp672903 => ?_) (fun _ _ _ _ _ z => z.elim)
                        obtain ⟨F672915, o672906, o672907, o672908, xt672914, rfl, rfl, hfr672917, he672918, he672919, hdc, hds, bo672906, bo672907, x672909, x672910, x672911, x672912, ht672913⟩ := hp672903
                        have hfr672920 : rFr [q671580] P671578 F671579 F672915 := rFr_call (rSub_rf (P := P671578)) hfr672755 hfr672917 (fun b hb hn => ⟨(nm_c (fun e => hn (e ▸ List.mem_cons_self)) nm_n), (nm_c (fun e => hn (e ▸ List.mem_cons_self)) nm_n)⟩)
                        have bo672908 := gB_any o672908
                        change G _ _ _ _ _ _ _ _ _ _ _
                        refine G_widen (cs' := (16 * (o672906.toInt - g672733.toInt)).toNat) (sl' := (160 * (o672906.toInt - g672733.toInt)).toNat) (by omega) (by omega) ?_
                        refine G_goto 247 dr_cX14_next_239 (by decide +kernel) ?_
                        exact G_vretA dr_cX14_next_247 rfl (show (16 * (o672906.toInt - g672733.toInt)).toNat ≤ ((16 * (p671582.toInt - p671583.toInt)).toNat) by omega) (show (160 * (o672906.toInt - g672733.toInt)).toNat ≤ ((160 * (p671582.toInt - p671583.toInt)).toNat) by omega) ⟨P671578, F672915, o672906, o672907, g672733, o672908, (D.2 1000 32), xt672914, rfl, rfl, (rSub_rf (P := P671578)), hfr672920, he672918, he672919, (by omega), (by omega), bo672906, (gB_w bo672907 (by decide) (by decide)), bg672733, (by have qa0 : Int32.toInt 1 = 1 := (by decide); omega), (Or.inr (by omega)), (by have qa0 : Int32.toInt 1 = 1 := (by decide); omega), (by first | exact tP_no (by omega) (by omega) | assumption), x672912, (fun R c1 c2 c3 c4 c5 c6 c7 c8 c9 c10 c11 c12 c13 => c4 g672733 z672758 z672857 z672861 o672867 o672885 o672895 xt672914 o672906 o672907 o672908 hx672742 r672757 hz672758 bz672758 r672856 ez672857 r672860 hz672861 bz672861 bo672867 ht672869 r672872 r672876 r672879 bo672885 ht672887 r672889 bo672895 ht672897 r672899 bo672906 bo672907 ht672913)⟩
                      · have r672921 : o672895.toInt = 0 := gj_eq hc672898 (show Int32.toInt 0 = 0 by decide)
                        have bo672895' : gB o672895 0 0 := ⟨by omega, by omega⟩
                        refine G_iload_n 0 dr_cX14_next_230 rfl ?_
                        refine G_if_eq 242 dr_cX14_next_231 (by decide +kernel) (fun hc => absurd hc (by decide)) (fun _ => ?_)
                        refine G_aload_n 2 dr_cX14_next_234 rfl ?_
                        refine G_iload_n 0 dr_cX14_next_235 rfl ?_
                        refine Gw_callV (As := [.int 1]) (gV_ok D I) (cp_667308_Reader_number l hl0 D I P671578 F672750 q671580 q671581 1 p671582 g672733 p671584 g672733 p671586 p671584 (D.2 1000 32) p671589 p671590 p671591 qo671592 qo671593 p671594 f671595 hmq671580 hmq671581 he672754 he672753 (gB_w (gBl (show Int32.toInt 1 = 1 by decide)) (by decide) (by decide)) (gB_w bp671582' (by decide) (by decide)) bg672733 bp671584 bg672733 bp671584 bp671589 bp671590 bp671591 bp671594 bf671595 (by have qa0 : Int32.toInt 1 = 1 := (by decide); omega) (by have qa0 : Int32.toInt 1 = 1 := (by decide); omega) (by first | assumption | exact cDg_no (by omega) | exact cDg_no (by decide) | exact cDg_of (by assumption) (by omega) (by omega)) x671597 x671598) dr_cX14_next_236 ⟨wr_8_218, wr_1_32, wr_8_221, by decide, rfl, (Nat.le_of_ble_eq_true rfl), (Nat.le_of_ble_eq_true rfl)⟩ wr_8_220 wr_p_77 hmq671580 he672754 rfl (show 0 + ((16 * (p671582.toInt - g672733.toInt)).toNat) ≤ ((16 * (p671582.toInt - p671583.toInt)).toNat) by first | omega | decide) (show 0 + ((160 * (p671582.toInt - g672733.toInt)).toNat) ≤ ((160 * (p671582.toInt - p671583.toInt)).toNat) by first | omega | decide) (Nat.le_of_ble_eq_true rfl) (fun r672925 w672926 dc672922 ds672923 hp672924 => ?_) (fun _ _ _ _ _ z => z.elim)
                        obtain ⟨F672936, o672927, o672928, o672929, xt672935, rfl, rfl, hfr672938, he672939, he672940, hdc, hds, bo672927, bo672928, x672930, x672931, x672932, x672933, ht672934⟩ := hp672924
                        have hfr672941 : rFr [q671580] P671578 F671579 F672936 := rFr_call (rSub_rf (P := P671578)) hfr672755 hfr672938 (fun b hb hn => ⟨(nm_c (fun e => hn (e ▸ List.mem_cons_self)) nm_n), (nm_c (fun e => hn (e ▸ List.mem_cons_self)) nm_n)⟩)
                        have bo672929 := gB_any o672929
                        change G _ _ _ _ _ _ _ _ _ _ _
                        refine G_widen (cs' := (16 * (o672927.toInt - g672733.toInt)).toNat) (sl' := (160 * (o672927.toInt - g672733.toInt)).toNat) (by omega) (by omega) ?_
                        refine G_goto 247 dr_cX14_next_239 (by decide +kernel) ?_
                        exact G_vretA dr_cX14_next_247 rfl (show (16 * (o672927.toInt - g672733.toInt)).toNat ≤ ((16 * (p671582.toInt - p671583.toInt)).toNat) by omega) (show (160 * (o672927.toInt - g672733.toInt)).toNat ≤ ((160 * (p671582.toInt - p671583.toInt)).toNat) by omega) ⟨P671578, F672936, o672927, o672928, g672733, o672929, (D.2 1000 32), xt672935, rfl, rfl, (rSub_rf (P := P671578)), hfr672941, he672939, he672940, (by omega), (by omega), bo672927, (gB_w bo672928 (by decide) (by decide)), bg672733, (by have qa0 : Int32.toInt 1 = 1 := (by decide); omega), (Or.inr (by omega)), (by have qa0 : Int32.toInt 1 = 1 := (by decide); omega), (by first | exact tP_no (by omega) (by omega) | assumption), x672933, (fun R c1 c2 c3 c4 c5 c6 c7 c8 c9 c10 c11 c12 c13 => c5 g672733 z672758 z672857 z672861 o672867 o672885 o672895 xt672935 o672927 o672928 o672929 hx672742 r672757 hz672758 bz672758 r672856 ez672857 r672860 hz672861 bz672861 bo672867 ht672869 r672872 r672876 r672879 bo672885 ht672887 r672889 bo672895 ht672897 r672921 bo672927 bo672928 ht672934)⟩
                    · have r672942 : o672885.toInt ≠ 0 := gj_neq hc672888 (show Int32.toInt 0 = 0 by decide)
                      have bo672885' : gB o672885 1 1 := ⟨by omega, by omega⟩
                      have bi672943 : gB z672758 97 122 := isP_1 x672886 (by omega)
                      refine G_aload_n 2 dr_cX14_next_216 rfl ?_
                      refine Gw_callV (As := []) (gV_ok D I) (cp_668950_Reader_word l hl0 D I P671578 F672750 q671580 q671581 p671582 g672733 p671584 g672733 p671586 p671584 (D.2 1000 32) p671589 p671590 p671591 qo671592 qo671593 p671594 f671595 hmq671580 hmq671581 he672754 he672753 (gB_w bp671582' (by decide) (by decide)) bg672733 bp671584 bg672733 bp671584 bp671589 bp671590 bp671591 bp671594 bf671595 (by have qa0 : Int32.toInt 1 = 1 := (by decide); omega) (by have qa0 : Int32.toInt 1 = 1 := (by decide); omega) (by first | assumption | exact cLt_of (by assumption) (by omega) (by omega)) x671597 x671598) dr_cX14_next_217 ⟨wr_7_225, wr_1_32, wr_7_228, by decide, rfl, (Nat.le_of_ble_eq_true rfl), (Nat.le_of_ble_eq_true rfl)⟩ wr_7_227 wr_p_76 hmq671580 he672754 rfl (show 0 + ((16 * (p671582.toInt - g672733.toInt)).toNat) ≤ ((16 * (p671582.toInt - p671583.toInt)).toNat) by first | omega | decide) (show 0 + ((160 * (p671582.toInt - g672733.toInt)).toNat) ≤ ((160 * (p671582.toInt - p671583.toInt)).toNat) by first | omega | decide) (Nat.le_of_ble_eq_true rfl) (fun r672947 w672948 dc672944 ds672945 hp672946 => ?_) (fun _ _ _ _ _ z => z.elim)
                      obtain ⟨P672959, F672960, o672949, o672950, o672951, q672952, xt672958, rfl, rfl, hsb672961, hfr672962, he672963, he672964, hdc, hds, bo672949, bo672950, x672953, x672954, x672955, x672956, ht672957⟩ := hp672946
                      have hm672965 : q671580 ∈ P672959 := hsb672961 q671580 hmq671580
                      have hm672966 : q671581 ∈ P672959 := hsb672961 q671581 hmq671581
                      have hsb672967 : rSub P671578 P672959 := rSub_tr (rSub_rf (P := P671578)) hsb672961
                      have hfr672968 : rFr [q671580] P671578 F671579 F672960 := rFr_call (rSub_rf (P := P671578)) hfr672755 hfr672962 (fun b hb hn => ⟨(nm_c (fun e => hn (e ▸ List.mem_cons_self)) nm_n), (nm_c (fun e => hn (e ▸ List.mem_cons_self)) nm_n)⟩)
                      have bo672951 := gB_any o672951
                      change G _ _ _ _ _ _ _ _ _ _ _
                      refine G_widen (cs' := (16 * (o672949.toInt - g672733.toInt)).toNat) (sl' := (160 * (o672949.toInt - g672733.toInt)).toNat) (by omega) (by omega) ?_
                      refine G_goto 247 dr_cX14_next_220 (by decide +kernel) ?_
                      exact G_vretA dr_cX14_next_247 rfl (show (16 * (o672949.toInt - g672733.toInt)).toNat ≤ ((16 * (p671582.toInt - p671583.toInt)).toNat) by omega) (show (160 * (o672949.toInt - g672733.toInt)).toNat ≤ ((160 * (p671582.toInt - p671583.toInt)).toNat) by omega) ⟨P672959, F672960, o672949, o672950, g672733, o672951, q672952, xt672958, rfl, rfl, hsb672967, hfr672968, he672963, he672964, (by omega), (by omega), bo672949, (gB_w bo672950 (by decide) (by decide)), bg672733, (by have qa0 : Int32.toInt 1 = 1 := (by decide); omega), (Or.inr (by omega)), (by have qa0 : Int32.toInt 1 = 1 := (by decide); omega), x672955, x672956, (fun R c1 c2 c3 c4 c5 c6 c7 c8 c9 c10 c11 c12 c13 => c6 g672733 z672758 z672857 z672861 o672867 o672885 xt672958 o672949 o672950 o672951 hx672742 r672757 hz672758 bz672758 r672856 ez672857 r672860 hz672861 bz672861 bo672867 ht672869 r672872 r672876 r672879 bo672885 ht672887 r672942 bo672949 bo672950 ht672957)⟩
        · have r672969 : g672733.toInt = p671582.toInt := gC_eq hc672756
          refine G_aload_n 0 dr_cX14_next_135 rfl ?_
          refine G_iconst 0 dr_cX14_next_136 (by decide +kernel) ?_
          refine Gp_put 3 hmq671580 he672754 dr_cX14_next_137 (gk_X14 D I) (Nat.le_of_ble_eq_true rfl) wr_9_39 rfl rfl rfl (Nat.le_of_ble_eq_true rfl) (fun F672970 e672971 n672972 => ?_)
          have he672973 : F672970 q671581 = .inl (I .byte, 8192, .inl f671595) := (n672972 q671581 (rn_ao he672753 he672754)).trans he672753
          have he672974 : F672970 q671580 = .inr (19, [.ref q671581, .int p671582, .int g672733, .int 0, .int g672733, .int p671586, .int p671584, .ref (D.2 1000 32), .int p671589, .int p671590, .int p671591, .ref qo671592, .ref qo671593, .int p671594]) := e672971
          have hfr672975 : rFr [q671580] P671578 F671579 F672970 := rFr_put' List.mem_cons_self hfr672755 n672972
          exact G_vretA dr_cX14_next_140 rfl (show 0 ≤ ((16 * (p671582.toInt - p671583.toInt)).toNat) by omega) (show 0 ≤ ((160 * (p671582.toInt - p671583.toInt)).toNat) by omega) ⟨P671578, F672970, g672733, 0, g672733, p671586, (D.2 1000 32), (0, fun _ => 0), rfl, rfl, (rSub_rf (P := P671578)), hfr672975, he672974, he672973, (by omega), (by omega), bg672733, (gB_w (gBl (show Int32.toInt 0 = 0 by decide)) (by decide) (by decide)), bg672733, (by have qa0 : Int32.toInt 0 = 0 := (by decide); omega), (Or.inl (by decide)), (by have qa0 : Int32.toInt 0 = 0 := (by decide); omega), (tP_no (by decide) (by decide)), (vP_no (by decide) (by decide)), (fun R c1 c2 c3 c4 c5 c6 c7 c8 c9 c10 c11 c12 c13 => c7 g672733 hx672742 r672969)⟩
      · have r672976 : g672733.toInt < p671582.toInt := gC_nle hc672740
        have bg672733' : gB g672733 0 8191 := ⟨by omega, by omega⟩
        have bp671582' : gB p671582 1 8192 := ⟨by omega, by omega⟩
        refine G_aload_n 0 dr_cX14_next_19 rfl ?_
        refine Gp_get 0 hmq671580 he672735 dr_cX14_next_20 (gk_X14 D I) (Nat.le_of_ble_eq_true rfl) wr_9_36 rfl ?_
        refine G_aload_n 0 dr_cX14_next_23 rfl ?_
        refine Gp_get 2 hmq671580 he672735 dr_cX14_next_24 (gk_X14 D I) (Nat.le_of_ble_eq_true rfl) wr_9_38 rfl ?_
        refine Gp_bald 1 hmq671581 he672736 dr_cX14_next_27 rfl (gB_in bg672733' (by decide) (by decide)) (G_nam fun z672977 hz672977 => ?_)
        have bz672977 : gB z672977 (-128) 127 := by rw [hz672977]; exact bf671595 _
        refine G_istore_n (L' := [(1, .int z672977), (0, .ref q671580)]) dr_cX14_next_28 (Nat.le_of_ble_eq_true rfl) rfl ?_
        refine G_iload_n 0 dr_cX14_next_29 rfl ?_
        refine G_bipush 59 dr_cX14_next_30 (by decide +kernel) ?_
        refine G_icmp_ne 73 dr_cX14_next_32 (by decide +kernel) (fun hc672978 => ?_) (fun hc672978 => ?_)
        · have r672979 : z672977.toInt ≠ 59 := gj_neq hc672978 (show Int32.toInt 59 = 59 by decide)
          refine G_iload_n 0 dr_cX14_next_73 rfl ?_
          refine G_bipush 9 dr_cX14_next_74 (by decide +kernel) ?_
          refine G_icmp_eq 97 dr_cX14_next_76 (by decide +kernel) (fun hc672980 => ?_) (fun hc672980 => ?_)
          · have r672981 : z672977.toInt = 9 := gj_eq hc672980 (show Int32.toInt 9 = 9 by decide)
            have bz672977' : gB z672977 9 9 := ⟨by omega, by omega⟩
            refine G_aload_n 1 dr_cX14_next_97 rfl ?_
            refine G_dup dr_cX14_next_98 rfl ?_
            refine Gp_get 2 hmq671580 he672735 dr_cX14_next_99 (gk_X14 D I) (Nat.le_of_ble_eq_true rfl) wr_9_38 rfl ?_
            refine G_iconst 1 dr_cX14_next_102 (by decide +kernel) ?_
            refine G_iadd dr_cX14_next_103 (G_nam fun z672982 hz672982 => ?_)
            have ez672982 : z672982.toInt = g672733.toInt + 1 := by rw [gI_add hz672982 bg672733' (gBl (show Int32.toInt 1 = 1 by decide)) (by decide) (by decide), show Int32.toInt 1 = 1 from by decide]
            have bz672982 : gB z672982 1 8192 := gB_add (gI_add hz672982 bg672733' (gBl (show Int32.toInt 1 = 1 by decide)) (by decide) (by decide)) bg672733' (gBl (show Int32.toInt 1 = 1 by decide)) (by decide) (by decide)
            refine Gp_put 2 hmq671580 he672735 dr_cX14_next_104 (gk_X14 D I) (Nat.le_of_ble_eq_true rfl) wr_9_38 rfl rfl rfl (Nat.le_of_ble_eq_true rfl) (fun F672983 e672984 n672985 => ?_)
            have he672986 : F672983 q671581 = .inl (I .byte, 8192, .inl f671595) := (n672985 q671581 (rn_ao he672736 he672735)).trans he672736
            have he672987 : F672983 q671580 = .inr (19, [.ref q671581, .int p671582, .int z672982, .int p671584, .int p671585, .int p671586, .int p671584, .ref qo671588, .int p671589, .int p671590, .int p671591, .ref qo671592, .ref qo671593, .int p671594]) := e672984
            have hfr672988 : rFr [q671580] P671578 F671579 F672983 := rFr_put' List.mem_cons_self hfr672737 n672985
            have x672989 : g672733.toInt < z672982.toInt := by first | omega | exact chNe (a := g672733) (b := z672982) (by assumption) (by assumption) (by omega) (by omega)
            refine G_goto 8 dr_cX14_next_107 (by decide +kernel) ?_
            refine G_lv (L' := [(0, .ref q671580)]) [1] rfl ?_
            exact ih8_672739 F672983 z672982 (gB_w bz672982 (by decide) (by decide)) hfr672988 he672987 he672986 (by omega) (by omega) (fun k e1 ht => kt8_672739 k e1 (fun R c1 c2 c3 c4 c5 c6 c7 => c2 g672733 z672977 z672982 k e1 bg672733 r672976 hz672977 bz672977 r672979 r672981 ez672982 (ht R c1 c2 c3 c4 c5 c6 c7))) (by omega)
          · have r672990 : z672977.toInt ≠ 9 := gj_neq hc672980 (show Int32.toInt 9 = 9 by decide)
            refine G_iload_n 0 dr_cX14_next_79 rfl ?_
            refine G_bipush 10 dr_cX14_next_80 (by decide +kernel) ?_
            refine G_icmp_eq 97 dr_cX14_next_82 (by decide +kernel) (fun hc672991 => ?_) (fun hc672991 => ?_)
            · have r672992 : z672977.toInt = 10 := gj_eq hc672991 (show Int32.toInt 10 = 10 by decide)
              have bz672977' : gB z672977 10 10 := ⟨by omega, by omega⟩
              refine G_aload_n 1 dr_cX14_next_97 rfl ?_
              refine G_dup dr_cX14_next_98 rfl ?_
              refine Gp_get 2 hmq671580 he672735 dr_cX14_next_99 (gk_X14 D I) (Nat.le_of_ble_eq_true rfl) wr_9_38 rfl ?_
              refine G_iconst 1 dr_cX14_next_102 (by decide +kernel) ?_
              refine G_iadd dr_cX14_next_103 (G_nam fun z672993 hz672993 => ?_)
              have ez672993 : z672993.toInt = g672733.toInt + 1 := by rw [gI_add hz672993 bg672733' (gBl (show Int32.toInt 1 = 1 by decide)) (by decide) (by decide), show Int32.toInt 1 = 1 from by decide]
              have bz672993 : gB z672993 1 8192 := gB_add (gI_add hz672993 bg672733' (gBl (show Int32.toInt 1 = 1 by decide)) (by decide) (by decide)) bg672733' (gBl (show Int32.toInt 1 = 1 by decide)) (by decide) (by decide)
              refine Gp_put 2 hmq671580 he672735 dr_cX14_next_104 (gk_X14 D I) (Nat.le_of_ble_eq_true rfl) wr_9_38 rfl rfl rfl (Nat.le_of_ble_eq_true rfl) (fun F672994 e672995 n672996 => ?_)
              have he672997 : F672994 q671581 = .inl (I .byte, 8192, .inl f671595) := (n672996 q671581 (rn_ao he672736 he672735)).trans he672736
              have he672998 : F672994 q671580 = .inr (19, [.ref q671581, .int p671582, .int z672993, .int p671584, .int p671585, .int p671586, .int p671584, .ref qo671588, .int p671589, .int p671590, .int p671591, .ref qo671592, .ref qo671593, .int p671594]) := e672995
              have hfr672999 : rFr [q671580] P671578 F671579 F672994 := rFr_put' List.mem_cons_self hfr672737 n672996
              have x673000 : g672733.toInt < z672993.toInt := by first | omega | exact chNe (a := g672733) (b := z672993) (by assumption) (by assumption) (by omega) (by omega)
              refine G_goto 8 dr_cX14_next_107 (by decide +kernel) ?_
              refine G_lv (L' := [(0, .ref q671580)]) [1] rfl ?_
              exact ih8_672739 F672994 z672993 (gB_w bz672993 (by decide) (by decide)) hfr672999 he672998 he672997 (by omega) (by omega) (fun k e1 ht => kt8_672739 k e1 (fun R c1 c2 c3 c4 c5 c6 c7 => c3 g672733 z672977 z672993 k e1 bg672733 r672976 hz672977 bz672977 r672979 r672990 r672992 ez672993 (ht R c1 c2 c3 c4 c5 c6 c7))) (by omega)
            · have r673001 : z672977.toInt ≠ 10 := gj_neq hc672991 (show Int32.toInt 10 = 10 by decide)
              refine G_iload_n 0 dr_cX14_next_85 rfl ?_
              refine G_bipush 13 dr_cX14_next_86 (by decide +kernel) ?_
              refine G_icmp_eq 97 dr_cX14_next_88 (by decide +kernel) (fun hc673002 => ?_) (fun hc673002 => ?_)
              · have r673003 : z672977.toInt = 13 := gj_eq hc673002 (show Int32.toInt 13 = 13 by decide)
                have bz672977' : gB z672977 13 13 := ⟨by omega, by omega⟩
                refine G_aload_n 1 dr_cX14_next_97 rfl ?_
                refine G_dup dr_cX14_next_98 rfl ?_
                refine Gp_get 2 hmq671580 he672735 dr_cX14_next_99 (gk_X14 D I) (Nat.le_of_ble_eq_true rfl) wr_9_38 rfl ?_
                refine G_iconst 1 dr_cX14_next_102 (by decide +kernel) ?_
                refine G_iadd dr_cX14_next_103 (G_nam fun z673004 hz673004 => ?_)
                have ez673004 : z673004.toInt = g672733.toInt + 1 := by rw [gI_add hz673004 bg672733' (gBl (show Int32.toInt 1 = 1 by decide)) (by decide) (by decide), show Int32.toInt 1 = 1 from by decide]
                have bz673004 : gB z673004 1 8192 := gB_add (gI_add hz673004 bg672733' (gBl (show Int32.toInt 1 = 1 by decide)) (by decide) (by decide)) bg672733' (gBl (show Int32.toInt 1 = 1 by decide)) (by decide) (by decide)
                refine Gp_put 2 hmq671580 he672735 dr_cX14_next_104 (gk_X14 D I) (Nat.le_of_ble_eq_true rfl) wr_9_38 rfl rfl rfl (Nat.le_of_ble_eq_true rfl) (fun F673005 e673006 n673007 => ?_)
                have he673008 : F673005 q671581 = .inl (I .byte, 8192, .inl f671595) := (n673007 q671581 (rn_ao he672736 he672735)).trans he672736
                have he673009 : F673005 q671580 = .inr (19, [.ref q671581, .int p671582, .int z673004, .int p671584, .int p671585, .int p671586, .int p671584, .ref qo671588, .int p671589, .int p671590, .int p671591, .ref qo671592, .ref qo671593, .int p671594]) := e673006
                have hfr673010 : rFr [q671580] P671578 F671579 F673005 := rFr_put' List.mem_cons_self hfr672737 n673007
                have x673011 : g672733.toInt < z673004.toInt := by first | omega | exact chNe (a := g672733) (b := z673004) (by assumption) (by assumption) (by omega) (by omega)
                refine G_goto 8 dr_cX14_next_107 (by decide +kernel) ?_
                refine G_lv (L' := [(0, .ref q671580)]) [1] rfl ?_
                exact ih8_672739 F673005 z673004 (gB_w bz673004 (by decide) (by decide)) hfr673010 he673009 he673008 (by omega) (by omega) (fun k e1 ht => kt8_672739 k e1 (fun R c1 c2 c3 c4 c5 c6 c7 => c4 g672733 z672977 z673004 k e1 bg672733 r672976 hz672977 bz672977 r672979 r672990 r673001 r673003 ez673004 (ht R c1 c2 c3 c4 c5 c6 c7))) (by omega)
              · have r673012 : z672977.toInt ≠ 13 := gj_neq hc673002 (show Int32.toInt 13 = 13 by decide)
                refine G_iload_n 0 dr_cX14_next_91 rfl ?_
                refine G_bipush 32 dr_cX14_next_92 (by decide +kernel) ?_
                refine G_icmp_ne 110 dr_cX14_next_94 (by decide +kernel) (fun hc673013 => ?_) (fun hc673013 => ?_)
                · have r673014 : z672977.toInt ≠ 32 := gj_neq hc673013 (show Int32.toInt 32 = 32 by decide)
                  have hx673015 : tl_RReader_next_8 p671582 f671595 p671583 110 g672733 := kt8_672739 110 g672733 (fun R c1 c2 c3 c4 c5 c6 c7 => c5 g672733 z672977 bg672733 r672976 hz672977 bz672977 r672979 r672990 r673001 r673012 r673014)
                  clear he671603 he671604 hfr671605
                  refine G_aload_n 1 dr_cX14_next_110 rfl ?_
                  refine G_aload_n 1 dr_cX14_next_111 rfl ?_
                  refine Gp_get 2 hmq671580 he672735 dr_cX14_next_112 (gk_X14 D I) (Nat.le_of_ble_eq_true rfl) wr_9_38 rfl ?_
                  refine Gp_put 4 hmq671580 he672735 dr_cX14_next_115 (gk_X14 D I) (Nat.le_of_ble_eq_true rfl) wr_9_40 rfl rfl rfl (Nat.le_of_ble_eq_true rfl) (fun F673016 e673017 n673018 => ?_)
                  have he673019 : F673016 q671581 = .inl (I .byte, 8192, .inl f671595) := (n673018 q671581 (rn_ao he672736 he672735)).trans he672736
                  have he673020 : F673016 q671580 = .inr (19, [.ref q671581, .int p671582, .int g672733, .int p671584, .int g672733, .int p671586, .int p671584, .ref qo671588, .int p671589, .int p671590, .int p671591, .ref qo671592, .ref qo671593, .int p671594]) := e673017
                  have hfr673021 : rFr [q671580] P671578 F671579 F673016 := rFr_put' List.mem_cons_self hfr672737 n673018
                  refine G_aload_n 1 dr_cX14_next_118 rfl ?_
                  refine G_ldcK (a := D.2 1000 32) dr_cX14_next_119 (fun _ _ _ h => gx_vk 32 rfl rfl h) ?_
                  have hl32_673021 : (sb_32.length : Int) = 0 := rfl
                  refine Gp_put 7 hmq671580 he673020 dr_cX14_next_121 (gk_X14 D I) (Nat.le_of_ble_eq_true rfl) wr_9_43 rfl rfl rfl (Nat.le_of_ble_eq_true rfl) (fun F673023 e673024 n673025 => ?_)
                  have he673026 : F673023 q671581 = .inl (I .byte, 8192, .inl f671595) := (n673025 q671581 (rn_ao he673019 he673020)).trans he673019
                  have he673027 : F673023 q671580 = .inr (19, [.ref q671581, .int p671582, .int g672733, .int p671584, .int g672733, .int p671586, .int p671584, .ref (D.2 1000 32), .int p671589, .int p671590, .int p671591, .ref qo671592, .ref qo671593, .int p671594]) := e673024
                  have hfr673028 : rFr [q671580] P671578 F671579 F673023 := rFr_put' List.mem_cons_self hfr673021 n673025
                  clear he673019 he673020 hfr673021
                  refine G_aload_n 1 dr_cX14_next_124 rfl ?_
                  refine Gp_get 2 hmq671580 he673027 dr_cX14_next_125 (gk_X14 D I) (Nat.le_of_ble_eq_true rfl) wr_9_38 rfl ?_
                  refine G_aload_n 1 dr_cX14_next_128 rfl ?_
                  refine Gp_get 1 hmq671580 he673027 dr_cX14_next_129 (gk_X14 D I) (Nat.le_of_ble_eq_true rfl) wr_9_37 rfl ?_
                  refine G_icmp_ne 141 dr_cX14_next_132 (by decide +kernel) (fun hc673029 => ?_) (fun hc673029 => ?_)
                  · have r673030 : g672733.toInt ≠ p671582.toInt := gC_ne hc673029
                    refine G_aload_n 1 dr_cX14_next_141 rfl ?_
                    refine Gp_get 0 hmq671580 he673027 dr_cX14_next_142 (gk_X14 D I) (Nat.le_of_ble_eq_true rfl) wr_9_36 rfl ?_
                    refine G_aload_n 1 dr_cX14_next_145 rfl ?_
                    refine Gp_get 2 hmq671580 he673027 dr_cX14_next_146 (gk_X14 D I) (Nat.le_of_ble_eq_true rfl) wr_9_38 rfl ?_
                    refine Gp_bald 1 hmq671581 he673026 dr_cX14_next_149 rfl (gB_in bg672733' (by decide) (by decide)) (G_eqi (y := z672977) hz672977.symm ?_)
                    refine G_istore_n (L' := [(1, .int z672977), (0, .ref q671580)]) dr_cX14_next_150 (Nat.le_of_ble_eq_true rfl) rfl ?_
                    have jn673031 : ((z672977.toInt ≠ 45) ∨ (∃ (y1 : Int32), z672977.toInt = 45 ∧ y1.toInt = g672733.toInt + 1 ∧ p671582.toInt ≤ y1.toInt) ∨ (∃ (y1 : Int32) (y2 : Int32) (y3 : Int32), z672977.toInt = 45 ∧ y1.toInt = g672733.toInt + 1 ∧ y1.toInt < p671582.toInt ∧ y2 = f671595 y1.toNatClampNeg ∧ gB y2 (-128) 127 ∧ gB y3 0 1 ∧ tr_RReader_isDigit2 y2 y3 ∧ y3.toInt = 0) ∨ (∃ (y1 : Int32) (y2 : Int32) (y3 : Int32), z672977.toInt = 45 ∧ y1.toInt = g672733.toInt + 1 ∧ y1.toInt < p671582.toInt ∧ y2 = f671595 y1.toNatClampNeg ∧ gB y2 (-128) 127 ∧ gB y3 0 1 ∧ tr_RReader_isDigit2 y2 y3 ∧ y3.toInt ≠ 0 ∧ p671584.toInt = 2) ∨ (∃ (y1 : Int32) (y2 : Int32) (y3 : Int32), z672977.toInt = 45 ∧ y1.toInt = g672733.toInt + 1 ∧ y1.toInt < p671582.toInt ∧ y2 = f671595 y1.toNatClampNeg ∧ gB y2 (-128) 127 ∧ gB y3 0 1 ∧ tr_RReader_isDigit2 y2 y3 ∧ y3.toInt ≠ 0 ∧ p671584.toInt ≠ 2 ∧ p671584.toInt = 4)) → G (gV D I) l (gRm 7 155 ((16 * (p671582.toInt - p671583.toInt)).toNat) ((160 * (p671582.toInt - p671583.toInt)).toNat)) (gMA (gV D I) (pp_671599_Reader_next D I P671578 F671579 q671580 q671581 p671582 p671583 p671584 p671585 p671586 p671587 qo671588 p671589 p671590 p671591 qo671592 qo671593 p671594 f671595) gNA ((16 * (p671582.toInt - p671583.toInt)).toNat) ((160 * (p671582.toInt - p671583.toInt)).toNat)) ky_671599_Reader_next 209 [(2, .int 0), (1, .int z672977), (0, .ref q671580)] [] (va_pl P671578 F673023) 0 0 := by
                      intro hJ673032
                      refine G_iload_n 1 dr_cX14_next_209 rfl ?_
                      refine Gw_callS (As := [.int z672977]) (gV_ok D I) (cp_669294_Reader_isLetter l hl0 D I P671578 F673023 z672977 ) dr_cX14_next_210 ⟨wr_7_222, wr_1_32, wr_7_224, by decide, rfl, (Nat.le_of_ble_eq_true rfl), (Nat.le_of_ble_eq_true rfl)⟩ wr_7_223 (show 0 + 0 ≤ ((16 * (p671582.toInt - p671583.toInt)).toNat) by first | omega | decide) (show 0 + 0 ≤ ((160 * (p671582.toInt - p671583.toInt)).toNat) by first | omega | decide) (Nat.le_of_ble_eq_true rfl) (fun r673036 w673037 dc673033 ds673034 hp673035 => ?_) (fun _ _ _ _ _ z => z.elim)
                      obtain ⟨o673038, rfl, rfl, hdc, hds, bo673038, x673039, ht673040⟩ := hp673035
                      change G _ _ _ _ _ _ _ (.int o673038 :: _) _ _ _
                      refine G_widen (cs' := 0) (sl' := 0) (by omega) (by omega) ?_
                      refine G_if_eq 223 dr_cX14_next_213 (by decide +kernel) (fun hc673041 => ?_) (fun hc673041 => ?_)
                      · have r673042 : o673038.toInt = 0 := gj_eq hc673041 (show Int32.toInt 0 = 0 by decide)
                        have bo673038' : gB o673038 0 0 := ⟨by omega, by omega⟩
                        clear bo673038'; try clear r673036; try clear w673037; try clear dc673033; try clear ds673034; try clear hp673035; try clear x673039
                        refine G_iload_n 1 dr_cX14_next_223 rfl ?_
                        refine Gw_callS (As := [.int z672977]) (gV_ok D I) (cp_667344_Reader_isDigit l hl0 D I P671578 F673023 z672977 ) dr_cX14_next_224 ⟨wr_7_219, wr_1_32, wr_7_221, by decide, rfl, (Nat.le_of_ble_eq_true rfl), (Nat.le_of_ble_eq_true rfl)⟩ wr_7_220 (show 0 + 0 ≤ ((16 * (p671582.toInt - p671583.toInt)).toNat) by first | omega | decide) (show 0 + 0 ≤ ((160 * (p671582.toInt - p671583.toInt)).toNat) by first | omega | decide) (Nat.le_of_ble_eq_true rfl) (fun r673046 w673047 dc673043 ds673044 hp673045 => ?_) (fun _ _ _ _ _ z => z.elim)
                        obtain ⟨o673048, rfl, rfl, hdc, hds, bo673048, x673049, ht673050⟩ := hp673045
                        change G _ _ _ _ _ _ _ (.int o673048 :: _) _ _ _
                        refine G_widen (cs' := 0) (sl' := 0) (by omega) (by omega) ?_
                        refine G_if_ne 234 dr_cX14_next_227 (by decide +kernel) (fun hc673051 => ?_) (fun hc673051 => ?_)
                        · have r673052 : o673048.toInt ≠ 0 := gj_neq hc673051 (show Int32.toInt 0 = 0 by decide)
                          have bo673048' : gB o673048 1 1 := ⟨by omega, by omega⟩
                          have bi673053 : gB z672977 48 57 := isP_1 x673049 (by omega)
                          refine G_aload_n 2 dr_cX14_next_234 rfl ?_
                          refine G_iload_n 0 dr_cX14_next_235 rfl ?_
                          refine Gw_callV (As := [.int 0]) (gV_ok D I) (cp_667308_Reader_number l hl0 D I P671578 F673023 q671580 q671581 0 p671582 g672733 p671584 g672733 p671586 p671584 (D.2 1000 32) p671589 p671590 p671591 qo671592 qo671593 p671594 f671595 hmq671580 hmq671581 he673027 he673026 (gB_w (gBl (show Int32.toInt 0 = 0 by decide)) (by decide) (by decide)) (gB_w bp671582' (by decide) (by decide)) (gB_w bg672733' (by decide) (by decide)) bp671584 (gB_w bg672733' (by decide) (by decide)) bp671584 bp671589 bp671590 bp671591 bp671594 bf671595 (by have qa0 : Int32.toInt 0 = 0 := (by decide); omega) (by have qa0 : Int32.toInt 0 = 0 := (by decide); omega) (by first | assumption | exact cDg_no (by omega) | exact cDg_no (by decide) | exact cDg_of (by assumption) (by omega) (by omega)) x671597 x671598) dr_cX14_next_236 ⟨wr_8_218, wr_1_32, wr_8_221, by decide, rfl, (Nat.le_of_ble_eq_true rfl), (Nat.le_of_ble_eq_true rfl)⟩ wr_8_220 wr_p_77 hmq671580 he673027 rfl (show 0 + ((16 * (p671582.toInt - g672733.toInt)).toNat) ≤ ((16 * (p671582.toInt - p671583.toInt)).toNat) by first | omega | decide) (show 0 + ((160 * (p671582.toInt - g672733.toInt)).toNat) ≤ ((160 * (p671582.toInt - p671583.toInt)).toNat) by first | omega | decide) (Nat.le_of_ble_eq_true rfl) (fun r673057 w673058 dc673054 ds673055 hp673056 => ?_) (fun _ _ _ _ _ z => z.elim)
                          obtain ⟨F673068, o673059, o673060, o673061, xt673067, rfl, rfl, hfr673070, he673071, he673072, hdc, hds, bo673059, bo673060, x673062, x673063, x673064, x673065, ht673066⟩ := hp673056
                          have hfr673073 : rFr [q671580] P671578 F671579 F673068 := rFr_call (rSub_rf (P := P671578)) hfr673028 hfr673070 (fun b hb hn => ⟨(nm_c (fun e => hn (e ▸ List.mem_cons_self)) nm_n), (nm_c (fun e => hn (e ▸ List.mem_cons_self)) nm_n)⟩)
                          have bo673061 := gB_any o673061
                          change G _ _ _ _ _ _ _ _ _ _ _
                          refine G_widen (cs' := (16 * (o673059.toInt - g672733.toInt)).toNat) (sl' := (160 * (o673059.toInt - g672733.toInt)).toNat) (by omega) (by omega) ?_
                          refine G_goto 247 dr_cX14_next_239 (by decide +kernel) ?_
                          exact G_vretA dr_cX14_next_247 rfl (show (16 * (o673059.toInt - g672733.toInt)).toNat ≤ ((16 * (p671582.toInt - p671583.toInt)).toNat) by omega) (show (160 * (o673059.toInt - g672733.toInt)).toNat ≤ ((160 * (p671582.toInt - p671583.toInt)).toNat) by omega) ⟨P671578, F673068, o673059, o673060, g672733, o673061, (D.2 1000 32), xt673067, rfl, rfl, (rSub_rf (P := P671578)), hfr673073, he673071, he673072, (by omega), (by omega), bo673059, (gB_w bo673060 (by decide) (by decide)), (gB_w bg672733' (by decide) (by decide)), (by have qa0 : Int32.toInt 0 = 0 := (by decide); omega), (Or.inr (by omega)), (by have qa0 : Int32.toInt 0 = 0 := (by decide); omega), (by first | exact tP_no (by omega) (by omega) | assumption), x673065, (fun R c1 c2 c3 c4 c5 c6 c7 c8 c9 c10 c11 c12 c13 => c8 g672733 z672977 o673038 o673048 xt673067 o673059 o673060 o673061 hx673015 r673030 hz672977 hJ673032 bo673038 ht673040 r673042 bo673048 ht673050 r673052 bo673059 bo673060 ht673066)⟩
                        · have r673074 : o673048.toInt = 0 := gj_eq hc673051 (show Int32.toInt 0 = 0 by decide)
                          have bo673048' : gB o673048 0 0 := ⟨by omega, by omega⟩
                          refine G_iload_n 0 dr_cX14_next_230 rfl ?_
                          refine G_if_eq 242 dr_cX14_next_231 (by decide +kernel) (fun _ => ?_) (fun hc => absurd hc (by decide))
                          refine G_aload_n 2 dr_cX14_next_242 rfl ?_
                          refine G_iload_n 1 dr_cX14_next_243 rfl ?_
                          refine Gw_callV (As := [.int z672977]) (gV_ok D I) (cp_667931_Reader_symbol l hl0 D I P671578 F673023 q671580 q671581 z672977 p671582 g672733 p671584 g672733 p671586 p671584 (D.2 1000 32) p671589 p671590 p671591 qo671592 qo671593 p671594 f671595 hmq671580 hmq671581 he673027 he673026 bz672977 (gB_w bp671582' (by decide) (by decide)) (gB_w bg672733' (by decide) (by decide)) bp671584 (gB_w bg672733' (by decide) (by decide)) bp671584 bp671589 bp671590 bp671591 bp671594 bf671595 (by have qa0 : Int32.toInt 0 = 0 := (by decide); omega) (by have qa0 : Int32.toInt 0 = 0 := (by decide); omega) x671597 x671598) dr_cX14_next_244 ⟨wr_8_223, wr_1_32, wr_8_226, by decide, rfl, (Nat.le_of_ble_eq_true rfl), (Nat.le_of_ble_eq_true rfl)⟩ wr_8_225 wr_p_78 hmq671580 he673027 rfl (show 0 + ((16 * (p671582.toInt - g672733.toInt)).toNat) ≤ ((16 * (p671582.toInt - p671583.toInt)).toNat) by first | omega | decide) (show 0 + ((160 * (p671582.toInt - g672733.toInt)).toNat) ≤ ((160 * (p671582.toInt - p671583.toInt)).toNat) by first | omega | decide) (Nat.le_of_ble_eq_true rfl) (fun r673078 w673079 dc673075 ds673076 hp673077 => ?_) (fun _ _ _ _ _ z => z.elim)
                          obtain ⟨P673089, F673090, o673080, o673081, q673082, xt673088, rfl, rfl, hsb673091, hfr673092, he673093, he673094, hdc, hds, bo673080, bo673081, x673083, x673084, x673085, x673086, ht673087⟩ := hp673077
                          have hm673095 : q671580 ∈ P673089 := hsb673091 q671580 hmq671580
                          have hm673096 : q671581 ∈ P673089 := hsb673091 q671581 hmq671581
                          have hsb673097 : rSub P671578 P673089 := rSub_tr (rSub_rf (P := P671578)) hsb673091
                          have hfr673098 : rFr [q671580] P671578 F671579 F673090 := rFr_call (rSub_rf (P := P671578)) hfr673028 hfr673092 (fun b hb hn => ⟨(nm_c (fun e => hn (e ▸ List.mem_cons_self)) nm_n), (nm_c (fun e => hn (e ▸ List.mem_cons_self)) nm_n)⟩)
                          change G _ _ _ _ _ _ _ _ _ _ _
                          refine G_widen (cs' := (16 * (o673080.toInt - g672733.toInt)).toNat) (sl' := (160 * (o673080.toInt - g672733.toInt)).toNat) (by omega) (by omega) ?_
                          exact G_vretA dr_cX14_next_247 rfl (show (16 * (o673080.toInt - g672733.toInt)).toNat ≤ ((16 * (p671582.toInt - p671583.toInt)).toNat) by omega) (show (160 * (o673080.toInt - g672733.toInt)).toNat ≤ ((160 * (p671582.toInt - p671583.toInt)).toNat) by omega) ⟨P673089, F673090, o673080, o673081, g672733, p671586, q673082, xt673088, rfl, rfl, hsb673097, hfr673098, he673093, he673094, (by omega), (by omega), (gB_w bo673080 (by decide) (by decide)), (gB_w bo673081 (by decide) (by decide)), (gB_w bg672733' (by decide) (by decide)), (by have qa0 : Int32.toInt 0 = 0 := (by decide); omega), (Or.inr (by omega)), (by have qa0 : Int32.toInt 0 = 0 := (by decide); omega), x673085, x673086, (fun R c1 c2 c3 c4 c5 c6 c7 c8 c9 c10 c11 c12 c13 => c9 g672733 z672977 o673038 o673048 xt673088 o673080 o673081 hx673015 r673030 hz672977 hJ673032 bo673038 ht673040 r673042 bo673048 ht673050 r673074 bo673080 bo673081 ht673087)⟩
                      · have r673099 : o673038.toInt ≠ 0 := gj_neq hc673041 (show Int32.toInt 0 = 0 by decide)
                        have bo673038' : gB o673038 1 1 := ⟨by omega, by omega⟩
                        have bi673100 : gB z672977 97 122 := isP_1 x673039 (by omega)
                        refine G_aload_n 2 dr_cX14_next_216 rfl ?_
                        refine Gw_callV (As := []) (gV_ok D I) (cp_668950_Reader_word l hl0 D I P671578 F673023 q671580 q671581 p671582 g672733 p671584 g672733 p671586 p671584 (D.2 1000 32) p671589 p671590 p671591 qo671592 qo671593 p671594 f671595 hmq671580 hmq671581 he673027 he673026 (gB_w bp671582' (by decide) (by decide)) (gB_w bg672733' (by decide) (by decide)) bp671584 (gB_w bg672733' (by decide) (by decide)) bp671584 bp671589 bp671590 bp671591 bp671594 bf671595 (by have qa0 : Int32.toInt 0 = 0 := (by decide); omega) (by have qa0 : Int32.toInt 0 = 0 := (by decide); omega) (by first | assumption | exact cLt_of (by assumption) (by omega) (by omega)) x671597 x671598) dr_cX14_next_217 ⟨wr_7_225, wr_1_32, wr_7_228, by decide, rfl, (Nat.le_of_ble_eq_true rfl), (Nat.le_of_ble_eq_true rfl)⟩ wr_7_227 wr_p_76 hmq671580 he673027 rfl (show 0 + ((16 * (p671582.toInt - g672733.toInt)).toNat) ≤ ((16 * (p671582.toInt - p671583.toInt)).toNat) by first | omega | decide) (show 0 + ((160 * (p671582.toInt - g672733.toInt)).toNat) ≤ ((160 * (p671582.toInt - p671583.toInt)).toNat) by first | omega | decide) (Nat.le_of_ble_eq_true rfl) (fun r673104 w673105 dc673101 ds673102 hp673103 => ?_) (fun _ _ _ _ _ z => z.elim)
                        obtain ⟨P673116, F673117, o673106, o673107, o673108, q673109, xt673115, rfl, rfl, hsb673118, hfr673119, he673120, he673121, hdc, hds, bo673106, bo673107, x673110, x673111, x673112, x673113, ht673114⟩ := hp673103
                        have hm673122 : q671580 ∈ P673116 := hsb673118 q671580 hmq671580
                        have hm673123 : q671581 ∈ P673116 := hsb673118 q671581 hmq671581
                        have hsb673124 : rSub P671578 P673116 := rSub_tr (rSub_rf (P := P671578)) hsb673118
                        have hfr673125 : rFr [q671580] P671578 F671579 F673117 := rFr_call (rSub_rf (P := P671578)) hfr673028 hfr673119 (fun b hb hn => ⟨(nm_c (fun e => hn (e ▸ List.mem_cons_self)) nm_n), (nm_c (fun e => hn (e ▸ List.mem_cons_self)) nm_n)⟩)
                        have bo673108 := gB_any o673108
                        change G _ _ _ _ _ _ _ _ _ _ _
                        refine G_widen (cs' := (16 * (o673106.toInt - g672733.toInt)).toNat) (sl' := (160 * (o673106.toInt - g672733.toInt)).toNat) (by omega) (by omega) ?_
                        refine G_goto 247 dr_cX14_next_220 (by decide +kernel) ?_
                        exact G_vretA dr_cX14_next_247 rfl (show (16 * (o673106.toInt - g672733.toInt)).toNat ≤ ((16 * (p671582.toInt - p671583.toInt)).toNat) by omega) (show (160 * (o673106.toInt - g672733.toInt)).toNat ≤ ((160 * (p671582.toInt - p671583.toInt)).toNat) by omega) ⟨P673116, F673117, o673106, o673107, g672733, o673108, q673109, xt673115, rfl, rfl, hsb673124, hfr673125, he673120, he673121, (by omega), (by omega), bo673106, (gB_w bo673107 (by decide) (by decide)), (gB_w bg672733' (by decide) (by decide)), (by have qa0 : Int32.toInt 0 = 0 := (by decide); omega), (Or.inr (by omega)), (by have qa0 : Int32.toInt 0 = 0 := (by decide); omega), x673112, x673113, (fun R c1 c2 c3 c4 c5 c6 c7 c8 c9 c10 c11 c12 c13 => c10 g672733 z672977 o673038 xt673115 o673106 o673107 o673108 hx673015 r673030 hz672977 hJ673032 bo673038 ht673040 r673099 bo673106 bo673107 ht673114)⟩
                    refine G_iload_n 0 dr_cX14_next_151 rfl ?_
                    refine G_bipush 45 dr_cX14_next_152 (by decide +kernel) ?_
                    refine G_icmp_ne 207 dr_cX14_next_154 (by decide +kernel) (fun hc673126 => ?_) (fun hc673126 => ?_)
                    · have r673127 : z672977.toInt ≠ 45 := gj_neq hc673126 (show Int32.toInt 45 = 45 by decide)
                      refine G_iconst 0 dr_cX14_next_207 (by decide +kernel) ?_
                      refine G_istore_n (L' := [(2, .int 0), (1, .int z672977), (0, .ref q671580)]) dr_cX14_next_208 (Nat.le_of_ble_eq_true rfl) rfl ?_
                      refine G_lv (L' := [(2, .int 0), (1, .int z672977), (0, .ref q671580)]) [0, 1, 2] rfl ?_
                      exact jn673031 (Or.inl r673127)
                    · have r673128 : z672977.toInt = 45 := gj_eq hc673126 (show Int32.toInt 45 = 45 by decide)
                      have bz672977' : gB z672977 45 45 := ⟨by omega, by omega⟩
                      refine G_aload_n 1 dr_cX14_next_157 rfl ?_
                      refine Gp_get 2 hmq671580 he673027 dr_cX14_next_158 (gk_X14 D I) (Nat.le_of_ble_eq_true rfl) wr_9_38 rfl ?_
                      refine G_iconst 1 dr_cX14_next_161 (by decide +kernel) ?_
                      refine G_iadd dr_cX14_next_162 (G_nam fun z673129 hz673129 => ?_)
                      have ez673129 : z673129.toInt = g672733.toInt + 1 := by rw [gI_add hz673129 bg672733' (gBl (show Int32.toInt 1 = 1 by decide)) (by decide) (by decide), show Int32.toInt 1 = 1 from by decide]
                      have bz673129 : gB z673129 1 8192 := gB_add (gI_add hz673129 bg672733' (gBl (show Int32.toInt 1 = 1 by decide)) (by decide) (by decide)) bg672733' (gBl (show Int32.toInt 1 = 1 by decide)) (by decide) (by decide)
                      refine G_aload_n 1 dr_cX14_next_163 rfl ?_
                      refine Gp_get 1 hmq671580 he673027 dr_cX14_next_164 (gk_X14 D I) (Nat.le_of_ble_eq_true rfl) wr_9_37 rfl ?_
                      refine G_icmp_ge 207 dr_cX14_next_167 (by decide +kernel) (fun hc673130 => ?_) (fun hc673130 => ?_)
                      · have r673131 : p671582.toInt ≤ z673129.toInt := gC_le hc673130
                        refine G_iconst 0 dr_cX14_next_207 (by decide +kernel) ?_
                        refine G_istore_n (L' := [(2, .int 0), (1, .int z672977), (0, .ref q671580)]) dr_cX14_next_208 (Nat.le_of_ble_eq_true rfl) rfl ?_
                        refine G_lv (L' := [(2, .int 0), (1, .int z672977), (0, .ref q671580)]) [0, 1, 2] rfl ?_
                        exact jn673031 (Or.inr (Or.inl ⟨z673129, r673128, ez673129, r673131⟩))
                      · have r673132 : z673129.toInt < p671582.toInt := gC_nle hc673130
                        have bz673129' : gB z673129 1 8191 := ⟨by omega, by omega⟩
                        have bp671582'' : gB p671582 2 8192 := ⟨by omega, by omega⟩
                        refine G_aload_n 1 dr_cX14_next_170 rfl ?_
                        refine Gp_get 0 hmq671580 he673027 dr_cX14_next_171 (gk_X14 D I) (Nat.le_of_ble_eq_true rfl) wr_9_36 rfl ?_
                        refine G_aload_n 1 dr_cX14_next_174 rfl ?_
                        refine Gp_get 2 hmq671580 he673027 dr_cX14_next_175 (gk_X14 D I) (Nat.le_of_ble_eq_true rfl) wr_9_38 rfl ?_
                        refine G_iconst 1 dr_cX14_next_178 (by decide +kernel) ?_
                        refine G_iadd dr_cX14_next_179 (G_eqi (y := z673129) hz673129.symm ?_)
                        refine Gp_bald 1 hmq671581 he673026 dr_cX14_next_180 rfl (gB_in bz673129' (by decide) (by decide)) (G_nam fun z673133 hz673133 => ?_)
                        have bz673133 : gB z673133 (-128) 127 := by rw [hz673133]; exact bf671595 _
                        refine Gw_callS (As := [.int z673133]) (gV_ok D I) (cp_667344_Reader_isDigit l hl0 D I P671578 F673023 z673133 ) dr_cX14_next_181 ⟨wr_7_219, wr_1_32, wr_7_221, by decide, rfl, (Nat.le_of_ble_eq_true rfl), (Nat.le_of_ble_eq_true rfl)⟩ wr_7_220 (show 0 + 0 ≤ ((16 * (p671582.toInt - p671583.toInt)).toNat) by first | omega | decide) (show 0 + 0 ≤ ((160 * (p671582.toInt - p671583.toInt)).toNat) by first | omega | decide) (Nat.le_of_ble_eq_true rfl) (fun r673137 w673138 dc673134 ds673135 hp673136 => ?_) (fun _ _ _ _ _ z => z.elim)
                        obtain ⟨o673139, rfl, rfl, hdc, hds, bo673139, x673140, ht673141⟩ := hp673136
                        change G _ _ _ _ _ _ _ (.int o673139 :: _) _ _ _
                        refine G_widen (cs' := 0) (sl' := 0) (by omega) (by omega) ?_
                        refine G_if_eq 207 dr_cX14_next_184 (by decide +kernel) (fun hc673142 => ?_) (fun hc673142 => ?_)
                        · have r673143 : o673139.toInt = 0 := gj_eq hc673142 (show Int32.toInt 0 = 0 by decide)
                          have bo673139' : gB o673139 0 0 := ⟨by omega, by omega⟩
                          refine G_iconst 0 dr_cX14_next_207 (by decide +kernel) ?_
                          refine G_istore_n (L' := [(2, .int 0), (1, .int z672977), (0, .ref q671580)]) dr_cX14_next_208 (Nat.le_of_ble_eq_true rfl) rfl ?_
                          refine G_lv (L' := [(2, .int 0), (1, .int z672977), (0, .ref q671580)]) [0, 1, 2] rfl ?_
                          exact jn673031 (Or.inr (Or.inr (Or.inl ⟨z673129, z673133, o673139, r673128, ez673129, r673132, hz673133, bz673133, bo673139, ht673141, r673143⟩)))
                        · have r673144 : o673139.toInt ≠ 0 := gj_neq hc673142 (show Int32.toInt 0 = 0 by decide)
                          have bo673139' : gB o673139 1 1 := ⟨by omega, by omega⟩
                          have bi673145 : gB z673133 48 57 := isP_1 x673140 (by omega)
                          refine G_aload_n 1 dr_cX14_next_187 rfl ?_
                          refine Gp_get 6 hmq671580 he673027 dr_cX14_next_188 (gk_X14 D I) (Nat.le_of_ble_eq_true rfl) wr_9_42 rfl ?_
                          refine G_iconst 2 dr_cX14_next_191 (by decide +kernel) ?_
                          refine G_icmp_eq 207 dr_cX14_next_192 (by decide +kernel) (fun hc673146 => ?_) (fun hc673146 => ?_)
                          · have r673147 : p671584.toInt = 2 := gj_eq hc673146 (show Int32.toInt 2 = 2 by decide)
                            have bp671584' : gB p671584 2 2 := ⟨by omega, by omega⟩
                            refine G_iconst 0 dr_cX14_next_207 (by decide +kernel) ?_
                            refine G_istore_n (L' := [(2, .int 0), (1, .int z672977), (0, .ref q671580)]) dr_cX14_next_208 (Nat.le_of_ble_eq_true rfl) rfl ?_
                            refine G_lv (L' := [(2, .int 0), (1, .int z672977), (0, .ref q671580)]) [0, 1, 2] rfl ?_
                            exact jn673031 (Or.inr (Or.inr (Or.inr (Or.inl ⟨z673129, z673133, o673139, r673128, ez673129, r673132, hz673133, bz673133, bo673139, ht673141, r673144, r673147⟩))))
                          · have r673148 : p671584.toInt ≠ 2 := gj_neq hc673146 (show Int32.toInt 2 = 2 by decide)
                            refine G_aload_n 1 dr_cX14_next_195 rfl ?_
                            refine Gp_get 6 hmq671580 he673027 dr_cX14_next_196 (gk_X14 D I) (Nat.le_of_ble_eq_true rfl) wr_9_42 rfl ?_
                            refine G_iconst 4 dr_cX14_next_199 (by decide +kernel) ?_
                            refine G_icmp_eq 207 dr_cX14_next_200 (by decide +kernel) (fun hc673149 => ?_) (fun hc673149 => ?_)
                            · have r673150 : p671584.toInt = 4 := gj_eq hc673149 (show Int32.toInt 4 = 4 by decide)
                              have bp671584' : gB p671584 4 4 := ⟨by omega, by omega⟩
                              refine G_iconst 0 dr_cX14_next_207 (by decide +kernel) ?_
                              refine G_istore_n (L' := [(2, .int 0), (1, .int z672977), (0, .ref q671580)]) dr_cX14_next_208 (Nat.le_of_ble_eq_true rfl) rfl ?_
                              refine G_lv (L' := [(2, .int 0), (1, .int z672977), (0, .ref q671580)]) [0, 1, 2] rfl ?_
                              exact jn673031 (Or.inr (Or.inr (Or.inr (Or.inr (⟨z673129, z673133, o673139, r673128, ez673129, r673132, hz673133, bz673133, bo673139, ht673141, r673144, r673148, r673150⟩)))))
                            · have r673151 : p671584.toInt ≠ 4 := gj_neq hc673149 (show Int32.toInt 4 = 4 by decide)
                              refine G_iconst 1 dr_cX14_next_203 (by decide +kernel) ?_
                              refine G_goto 208 dr_cX14_next_204 (by decide +kernel) ?_
                              refine G_istore_n (L' := [(2, .int 1), (1, .int z672977), (0, .ref q671580)]) dr_cX14_next_208 (Nat.le_of_ble_eq_true rfl) rfl ?_
                              clear bp671582' bz672977 jn673031 bz673129 bo673139'; try clear r673137; try clear w673138; try clear dc673134; try clear ds673135; try clear hp673136; try clear x673140
                              refine G_iload_n 1 dr_cX14_next_209 rfl ?_
                              refine Gw_callS (As := [.int z672977]) (gV_ok D I) (cp_669294_Reader_isLetter l hl0 D I P671578 F673023 z672977 ) dr_cX14_next_210 ⟨wr_7_222, wr_1_32, wr_7_224, by decide, rfl, (Nat.le_of_ble_eq_true rfl), (Nat.le_of_ble_eq_true rfl)⟩ wr_7_223 (show 0 + 0 ≤ ((16 * (p671582.toInt - p671583.toInt)).toNat) by first | omega | decide) (show 0 + 0 ≤ ((160 * (p671582.toInt - p671583.toInt)).toNat) by first | omega | decide) (Nat.le_of_ble_eq_true rfl) (fun r673155 w673156 dc673152 ds673153 hp673154 => ?_) (fun _ _ _ _ _ z => z.elim)
                              obtain ⟨o673157, rfl, rfl, hdc, hds, bo673157, x673158, ht673159⟩ := hp673154
                              change G _ _ _ _ _ _ _ (.int o673157 :: _) _ _ _
                              refine G_widen (cs' := 0) (sl' := 0) (by omega) (by omega) ?_
                              refine G_if_eq 223 dr_cX14_next_213 (by decide +kernel) (fun hc673160 => ?_) (fun hc673160 => ?_)
                              · have r673161 : o673157.toInt = 0 := gj_eq hc673160 (show Int32.toInt 0 = 0 by decide)
                                have bo673157' : gB o673157 0 0 := ⟨by omega, by omega⟩
                                clear bo673157'; try clear r673155; try clear w673156; try clear dc673152; try clear ds673153; try clear hp673154; try clear x673158
                                refine G_iload_n 1 dr_cX14_next_223 rfl ?_
                                refine Gw_callS (As := [.int z672977]) (gV_ok D I) (cp_667344_Reader_isDigit l hl0 D I P671578 F673023 z672977 ) dr_cX14_next_224 ⟨wr_7_219, wr_1_32, wr_7_221, by decide, rfl, (Nat.le_of_ble_eq_true rfl), (Nat.le_of_ble_eq_true rfl)⟩ wr_7_220 (show 0 + 0 ≤ ((16 * (p671582.toInt - p671583.toInt)).toNat) by first | omega | decide) (show 0 + 0 ≤ ((160 * (p671582.toInt - p671583.toInt)).toNat) by first | omega | decide) (Nat.le_of_ble_eq_true rfl) (fun r673165 w673166 dc673162 ds673163 hp673164 => ?_) (fun _ _ _ _ _ z => z.elim)
                                obtain ⟨o673167, rfl, rfl, hdc, hds, bo673167, x673168, ht673169⟩ := hp673164
                                change G _ _ _ _ _ _ _ (.int o673167 :: _) _ _ _
                                refine G_widen (cs' := 0) (sl' := 0) (by omega) (by omega) ?_
                                refine G_if_ne 234 dr_cX14_next_227 (by decide +kernel) (fun hc673170 => ?_) (fun hc673170 => ?_)
                                · have r673171 : o673167.toInt ≠ 0 := gj_neq hc673170 (show Int32.toInt 0 = 0 by decide)
                                  have bo673167' : gB o673167 1 1 := ⟨by omega, by omega⟩
                                  have bi673172 : gB z672977 48 57 := isP_1 x673168 (by omega)
                                  refine G_aload_n 2 dr_cX14_next_234 rfl ?_
                                  refine G_iload_n 0 dr_cX14_next_235 rfl ?_
                                  refine Gw_callV (As := [.int 1]) (gV_ok D I) (cp_667308_Reader_number l hl0 D I P671578 F673023 q671580 q671581 1 p671582 g672733 p671584 g672733 p671586 p671584 (D.2 1000 32) p671589 p671590 p671591 qo671592 qo671593 p671594 f671595 hmq671580 hmq671581 he673027 he673026 (gB_w (gBl (show Int32.toInt 1 = 1 by decide)) (by decide) (by decide)) (gB_w bp671582'' (by decide) (by decide)) (gB_w bg672733' (by decide) (by decide)) bp671584 (gB_w bg672733' (by decide) (by decide)) bp671584 bp671589 bp671590 bp671591 bp671594 bf671595 (by have qa0 : Int32.toInt 1 = 1 := (by decide); omega) (by have qa0 : Int32.toInt 1 = 1 := (by decide); omega) (by first | assumption | exact cDg_no (by omega) | exact cDg_no (by decide) | exact cDg_of (by assumption) (by omega) (by omega)) x671597 x671598) dr_cX14_next_236 ⟨wr_8_218, wr_1_32, wr_8_221, by decide, rfl, (Nat.le_of_ble_eq_true rfl), (Nat.le_of_ble_eq_true rfl)⟩ wr_8_220 wr_p_77 hmq671580 he673027 rfl (show 0 + ((16 * (p671582.toInt - g672733.toInt)).toNat) ≤ ((16 * (p671582.toInt - p671583.toInt)).toNat) by first | omega | decide) (show 0 + ((160 * (p671582.toInt - g672733.toInt)).toNat) ≤ ((160 * (p671582.toInt - p671583.toInt)).toNat) by first | omega | decide) (Nat.le_of_ble_eq_true rfl) (fun r673176 w673177 dc673173 ds673174 hp673175 => ?_) (fun _ _ _ _ _ z => z.elim)
                                  obtain ⟨F673187, o673178, o673179, o673180, xt673186, rfl, rfl, hfr673189, he673190, he673191, hdc, hds, bo673178, bo673179, x673181, x673182, x673183, x673184, ht673185⟩ := hp673175
                                  have hfr673192 : rFr [q671580] P671578 F671579 F673187 := rFr_call (rSub_rf (P := P671578)) hfr673028 hfr673189 (fun b hb hn => ⟨(nm_c (fun e => hn (e ▸ List.mem_cons_self)) nm_n), (nm_c (fun e => hn (e ▸ List.mem_cons_self)) nm_n)⟩)
                                  have bo673180 := gB_any o673180
                                  change G _ _ _ _ _ _ _ _ _ _ _
                                  refine G_widen (cs' := (16 * (o673178.toInt - g672733.toInt)).toNat) (sl' := (160 * (o673178.toInt - g672733.toInt)).toNat) (by omega) (by omega) ?_
                                  refine G_goto 247 dr_cX14_next_239 (by decide +kernel) ?_
                                  exact G_vretA dr_cX14_next_247 rfl (show (16 * (o673178.toInt - g672733.toInt)).toNat ≤ ((16 * (p671582.toInt - p671583.toInt)).toNat) by omega) (show (160 * (o673178.toInt - g672733.toInt)).toNat ≤ ((160 * (p671582.toInt - p671583.toInt)).toNat) by omega) ⟨P671578, F673187, o673178, o673179, g672733, o673180, (D.2 1000 32), xt673186, rfl, rfl, (rSub_rf (P := P671578)), hfr673192, he673190, he673191, (by omega), (by omega), bo673178, (gB_w bo673179 (by decide) (by decide)), (gB_w bg672733' (by decide) (by decide)), (by have qa0 : Int32.toInt 1 = 1 := (by decide); omega), (Or.inr (by omega)), (by have qa0 : Int32.toInt 1 = 1 := (by decide); omega), (by first | exact tP_no (by omega) (by omega) | assumption), x673184, (fun R c1 c2 c3 c4 c5 c6 c7 c8 c9 c10 c11 c12 c13 => c11 g672733 z672977 z673129 z673133 o673139 o673157 o673167 xt673186 o673178 o673179 o673180 hx673015 r673030 hz672977 r673128 ez673129 r673132 hz673133 bz673133 bo673139 ht673141 r673144 r673148 r673151 bo673157 ht673159 r673161 bo673167 ht673169 r673171 bo673178 bo673179 ht673185)⟩
                                · have r673193 : o673167.toInt = 0 := gj_eq hc673170 (show Int32.toInt 0 = 0 by decide)
                                  have bo673167' : gB o673167 0 0 := ⟨by omega, by omega⟩
                                  refine G_iload_n 0 dr_cX14_next_230 rfl ?_
                                  refine G_if_eq 242 dr_cX14_next_231 (by decide +kernel) (fun hc => absurd hc (by decide)) (fun _ => ?_)
                                  refine G_aload_n 2 dr_cX14_next_234 rfl ?_
                                  refine G_iload_n 0 dr_cX14_next_235 rfl ?_
                                  refine Gw_callV (As := [.int 1]) (gV_ok D I) (cp_667308_Reader_number l hl0 D I P671578 F673023 q671580 q671581 1 p671582 g672733 p671584 g672733 p671586 p671584 (D.2 1000 32) p671589 p671590 p671591 qo671592 qo671593 p671594 f671595 hmq671580 hmq671581 he673027 he673026 (gB_w (gBl (show Int32.toInt 1 = 1 by decide)) (by decide) (by decide)) (gB_w bp671582'' (by decide) (by decide)) (gB_w bg672733' (by decide) (by decide)) bp671584 (gB_w bg672733' (by decide) (by decide)) bp671584 bp671589 bp671590 bp671591 bp671594 bf671595 (by have qa0 : Int32.toInt 1 = 1 := (by decide); omega) (by have qa0 : Int32.toInt 1 = 1 := (by decide); omega) (by first | assumption | exact cDg_no (by omega) | exact cDg_no (by decide) | exact cDg_of (by assumption) (by omega) (by omega)) x671597 x671598) dr_cX14_next_236 ⟨wr_8_218, wr_1_32, wr_8_221, by decide, rfl, (Nat.le_of_ble_eq_true rfl), (Nat.le_of_ble_eq_true rfl)⟩ wr_8_220 wr_p_77 hmq671580 he673027 rfl (show 0 + ((16 * (p671582.toInt - g672733.toInt)).toNat) ≤ ((16 * (p671582.toInt - p671583.toInt)).toNat) by first | omega | decide) (show 0 + ((160 * (p671582.toInt - g672733.toInt)).toNat) ≤ ((160 * (p671582.toInt - p671583.toInt)).toNat) by first | omega | decide) (Nat.le_of_ble_eq_true rfl) (fun r673197 w673198 dc673194 ds673195 hp673196 => ?_) (fun _ _ _ _ _ z => z.elim)
                                  obtain ⟨F673208, o673199, o673200, o673201, xt673207, rfl, rfl, hfr673210, he673211, he673212, hdc, hds, bo673199, bo673200, x673202, x673203, x673204, x673205, ht673206⟩ := hp673196
                                  have hfr673213 : rFr [q671580] P671578 F671579 F673208 := rFr_call (rSub_rf (P := P671578)) hfr673028 hfr673210 (fun b hb hn => ⟨(nm_c (fun e => hn (e ▸ List.mem_cons_self)) nm_n), (nm_c (fun e => hn (e ▸ List.mem_cons_self)) nm_n)⟩)
                                  have bo673201 := gB_any o673201
                                  change G _ _ _ _ _ _ _ _ _ _ _
                                  refine G_widen (cs' := (16 * (o673199.toInt - g672733.toInt)).toNat) (sl' := (160 * (o673199.toInt - g672733.toInt)).toNat) (by omega) (by omega) ?_
                                  refine G_goto 247 dr_cX14_next_239 (by decide +kernel) ?_
                                  exact G_vretA dr_cX14_next_247 rfl (show (16 * (o673199.toInt - g672733.toInt)).toNat ≤ ((16 * (p671582.toInt - p671583.toInt)).toNat) by omega) (show (160 * (o673199.toInt - g672733.toInt)).toNat ≤ ((160 * (p671582.toInt - p671583.toInt)).toNat) by omega) ⟨P671578, F673208, o673199, o673200, g672733, o673201, (D.2 1000 32), xt673207, rfl, rfl, (rSub_rf (P := P671578)), hfr673213, he673211, he673212, (by omega), (by omega), bo673199, (gB_w bo673200 (by decide) (by decide)), (gB_w bg672733' (by decide) (by decide)), (by have qa0 : Int32.toInt 1 = 1 := (by decide); omega), (Or.inr (by omega)), (by have qa0 : Int32.toInt 1 = 1 := (by decide); omega), (by first | exact tP_no (by omega) (by omega) | assumption), x673205, (fun R c1 c2 c3 c4 c5 c6 c7 c8 c9 c10 c11 c12 c13 => c12 g672733 z672977 z673129 z673133 o673139 o673157 o673167 xt673207 o673199 o673200 o673201 hx673015 r673030 hz672977 r673128 ez673129 r673132 hz673133 bz673133 bo673139 ht673141 r673144 r673148 r673151 bo673157 ht673159 r673161 bo673167 ht673169 r673193 bo673199 bo673200 ht673206)⟩
                              · have r673214 : o673157.toInt ≠ 0 := gj_neq hc673160 (show Int32.toInt 0 = 0 by decide)
                                have bo673157' : gB o673157 1 1 := ⟨by omega, by omega⟩
                                have bi673215 : gB z672977 97 122 := isP_1 x673158 (by omega)
                                refine G_aload_n 2 dr_cX14_next_216 rfl ?_
                                refine Gw_callV (As := []) (gV_ok D I) (cp_668950_Reader_word l hl0 D I P671578 F673023 q671580 q671581 p671582 g672733 p671584 g672733 p671586 p671584 (D.2 1000 32) p671589 p671590 p671591 qo671592 qo671593 p671594 f671595 hmq671580 hmq671581 he673027 he673026 (gB_w bp671582'' (by decide) (by decide)) (gB_w bg672733' (by decide) (by decide)) bp671584 (gB_w bg672733' (by decide) (by decide)) bp671584 bp671589 bp671590 bp671591 bp671594 bf671595 (by have qa0 : Int32.toInt 1 = 1 := (by decide); omega) (by have qa0 : Int32.toInt 1 = 1 := (by decide); omega) (by first | assumption | exact cLt_of (by assumption) (by omega) (by omega)) x671597 x671598) dr_cX14_next_217 ⟨wr_7_225, wr_1_32, wr_7_228, by decide, rfl, (Nat.le_of_ble_eq_true rfl), (Nat.le_of_ble_eq_true rfl)⟩ wr_7_227 wr_p_76 hmq671580 he673027 rfl (show 0 + ((16 * (p671582.toInt - g672733.toInt)).toNat) ≤ ((16 * (p671582.toInt - p671583.toInt)).toNat) by first | omega | decide) (show 0 + ((160 * (p671582.toInt - g672733.toInt)).toNat) ≤ ((160 * (p671582.toInt - p671583.toInt)).toNat) by first | omega | decide) (Nat.le_of_ble_eq_true rfl) (fun r673219 w673220 dc673216 ds673217 hp673218 => ?_) (fun _ _ _ _ _ z => z.elim)
                                obtain ⟨P673231, F673232, o673221, o673222, o673223, q673224, xt673230, rfl, rfl, hsb673233, hfr673234, he673235, he673236, hdc, hds, bo673221, bo673222, x673225, x673226, x673227, x673228, ht673229⟩ := hp673218
                                have hm673237 : q671580 ∈ P673231 := hsb673233 q671580 hmq671580
                                have hm673238 : q671581 ∈ P673231 := hsb673233 q671581 hmq671581
                                have hsb673239 : rSub P671578 P673231 := rSub_tr (rSub_rf (P := P671578)) hsb673233
                                have hfr673240 : rFr [q671580] P671578 F671579 F673232 := rFr_call (rSub_rf (P := P671578)) hfr673028 hfr673234 (fun b hb hn => ⟨(nm_c (fun e => hn (e ▸ List.mem_cons_self)) nm_n), (nm_c (fun e => hn (e ▸ List.mem_cons_self)) nm_n)⟩)
                                have bo673223 := gB_any o673223
                                change G _ _ _ _ _ _ _ _ _ _ _
                                refine G_widen (cs' := (16 * (o673221.toInt - g672733.toInt)).toNat) (sl' := (160 * (o673221.toInt - g672733.toInt)).toNat) (by omega) (by omega) ?_
                                refine G_goto 247 dr_cX14_next_220 (by decide +kernel) ?_
                                exact G_vretA dr_cX14_next_247 rfl (show (16 * (o673221.toInt - g672733.toInt)).toNat ≤ ((16 * (p671582.toInt - p671583.toInt)).toNat) by omega) (show (160 * (o673221.toInt - g672733.toInt)).toNat ≤ ((160 * (p671582.toInt - p671583.toInt)).toNat) by omega) ⟨P673231, F673232, o673221, o673222, g672733, o673223, q673224, xt673230, rfl, rfl, hsb673239, hfr673240, he673235, he673236, (by omega), (by omega), bo673221, (gB_w bo673222 (by decide) (by decide)), (gB_w bg672733' (by decide) (by decide)), (by have qa0 : Int32.toInt 1 = 1 := (by decide); omega), (Or.inr (by omega)), (by have qa0 : Int32.toInt 1 = 1 := (by decide); omega), x673227, x673228, (fun R c1 c2 c3 c4 c5 c6 c7 c8 c9 c10 c11 c12 c13 => c13 g672733 z672977 z673129 z673133 o673139 o673157 xt673230 o673221 o673222 o673223 hx673015 r673030 hz672977 r673128 ez673129 r673132 hz673133 bz673133 bo673139 ht673141 r673144 r673148 r673151 bo673157 ht673159 r673214 bo673221 bo673222 ht673229)⟩
                  · have r673241 : g672733.toInt = p671582.toInt := gC_eq hc673029
                    have bg672733'' : gB g672733 1 8191 := ⟨by omega, by omega⟩
                    have bp671582'' : gB p671582 1 8191 := ⟨by omega, by omega⟩
                    refine G_aload_n 1 dr_cX14_next_135 rfl ?_
                    refine G_iconst 0 dr_cX14_next_136 (by decide +kernel) ?_
                    refine Gp_put 3 hmq671580 he673027 dr_cX14_next_137 (gk_X14 D I) (Nat.le_of_ble_eq_true rfl) wr_9_39 rfl rfl rfl (Nat.le_of_ble_eq_true rfl) (fun F673242 e673243 n673244 => ?_)
                    have he673245 : F673242 q671581 = .inl (I .byte, 8192, .inl f671595) := (n673244 q671581 (rn_ao he673026 he673027)).trans he673026
                    have he673246 : F673242 q671580 = .inr (19, [.ref q671581, .int p671582, .int g672733, .int 0, .int g672733, .int p671586, .int p671584, .ref (D.2 1000 32), .int p671589, .int p671590, .int p671591, .ref qo671592, .ref qo671593, .int p671594]) := e673243
                    have hfr673247 : rFr [q671580] P671578 F671579 F673242 := rFr_put' List.mem_cons_self hfr673028 n673244
                    exact G_vretA dr_cX14_next_140 rfl (show 0 ≤ ((16 * (p671582.toInt - p671583.toInt)).toNat) by omega) (show 0 ≤ ((160 * (p671582.toInt - p671583.toInt)).toNat) by omega) ⟨P671578, F673242, g672733, 0, g672733, p671586, (D.2 1000 32), (0, fun _ => 0), rfl, rfl, (rSub_rf (P := P671578)), hfr673247, he673246, he673245, (by omega), (by omega), (gB_w bg672733'' (by decide) (by decide)), (gB_w (gBl (show Int32.toInt 0 = 0 by decide)) (by decide) (by decide)), (gB_w bg672733'' (by decide) (by decide)), (by have qa0 : Int32.toInt 0 = 0 := (by decide); omega), (Or.inl (by decide)), (by have qa0 : Int32.toInt 0 = 0 := (by decide); omega), (tP_no (by decide) (by decide)), (vP_no (by decide) (by decide)), (fun R c1 c2 c3 c4 c5 c6 c7 c8 c9 c10 c11 c12 c13 => c7 g672733 hx673015 r673241)⟩
                · have r673248 : z672977.toInt = 32 := gj_eq hc673013 (show Int32.toInt 32 = 32 by decide)
                  have bz672977' : gB z672977 32 32 := ⟨by omega, by omega⟩
                  refine G_aload_n 1 dr_cX14_next_97 rfl ?_
                  refine G_dup dr_cX14_next_98 rfl ?_
                  refine Gp_get 2 hmq671580 he672735 dr_cX14_next_99 (gk_X14 D I) (Nat.le_of_ble_eq_true rfl) wr_9_38 rfl ?_
                  refine G_iconst 1 dr_cX14_next_102 (by decide +kernel) ?_
                  refine G_iadd dr_cX14_next_103 (G_nam fun z673249 hz673249 => ?_)
                  have ez673249 : z673249.toInt = g672733.toInt + 1 := by rw [gI_add hz673249 bg672733' (gBl (show Int32.toInt 1 = 1 by decide)) (by decide) (by decide), show Int32.toInt 1 = 1 from by decide]
                  have bz673249 : gB z673249 1 8192 := gB_add (gI_add hz673249 bg672733' (gBl (show Int32.toInt 1 = 1 by decide)) (by decide) (by decide)) bg672733' (gBl (show Int32.toInt 1 = 1 by decide)) (by decide) (by decide)
                  refine Gp_put 2 hmq671580 he672735 dr_cX14_next_104 (gk_X14 D I) (Nat.le_of_ble_eq_true rfl) wr_9_38 rfl rfl rfl (Nat.le_of_ble_eq_true rfl) (fun F673250 e673251 n673252 => ?_)
                  have he673253 : F673250 q671581 = .inl (I .byte, 8192, .inl f671595) := (n673252 q671581 (rn_ao he672736 he672735)).trans he672736
                  have he673254 : F673250 q671580 = .inr (19, [.ref q671581, .int p671582, .int z673249, .int p671584, .int p671585, .int p671586, .int p671584, .ref qo671588, .int p671589, .int p671590, .int p671591, .ref qo671592, .ref qo671593, .int p671594]) := e673251
                  have hfr673255 : rFr [q671580] P671578 F671579 F673250 := rFr_put' List.mem_cons_self hfr672737 n673252
                  have x673256 : g672733.toInt < z673249.toInt := by first | omega | exact chNe (a := g672733) (b := z673249) (by assumption) (by assumption) (by omega) (by omega)
                  refine G_goto 8 dr_cX14_next_107 (by decide +kernel) ?_
                  refine G_lv (L' := [(0, .ref q671580)]) [1] rfl ?_
                  exact ih8_672739 F673250 z673249 (gB_w bz673249 (by decide) (by decide)) hfr673255 he673254 he673253 (by omega) (by omega) (fun k e1 ht => kt8_672739 k e1 (fun R c1 c2 c3 c4 c5 c6 c7 => c6 g672733 z672977 z673249 k e1 bg672733 r672976 hz672977 bz672977 r672979 r672990 r673001 r673012 r673248 ez673249 (ht R c1 c2 c3 c4 c5 c6 c7))) (by omega)
        · have r673257 : z672977.toInt = 59 := gj_eq hc672978 (show Int32.toInt 59 = 59 by decide)
          have bz672977' : gB z672977 59 59 := ⟨by omega, by omega⟩
          have hlp35_673294 : ∀ (n35_673294 : Nat) (F673288 : Nat → va_E) (g673287 : Int32), gB g673287 0 8192 → rFr [q671580] P671578 F671579 F673288 → F673288 q671580 = .inr (19, [.ref q671581, .int p671582, .int g673287, .int p671584, .int p671585, .int p671586, .int p671584, .ref qo671588, .int p671589, .int p671590, .int p671591, .ref qo671592, .ref qo671593, .int p671594]) → F673288 q671581 = .inl (I .byte, 8192, .inl f671595) → p671583.toInt ≤ g673287.toInt → g673287.toInt ≤ p671582.toInt → g672733.toInt ≤ g673287.toInt → (∀ (k : Nat) (e1 : Int32), tl_RReader_next_35 p671582 f671595 g673287 k e1 → tl_RReader_next_35 p671582 f671595 g672733 k e1) → ((p671582.toInt : Int) + 1 - g673287.toInt).toNat < n35_673294 → G (gV D I) l (gRm 7 155 ((16 * (p671582.toInt - p671583.toInt)).toNat) ((160 * (p671582.toInt - p671583.toInt)).toNat)) (gMA (gV D I) (pp_671599_Reader_next D I P671578 F671579 q671580 q671581 p671582 p671583 p671584 p671585 p671586 p671587 qo671588 p671589 p671590 p671591 qo671592 qo671593 p671594 f671595) gNA ((16 * (p671582.toInt - p671583.toInt)).toNat) ((160 * (p671582.toInt - p671583.toInt)).toNat)) ky_671599_Reader_next 35 [(1, .int z672977), (0, .ref q671580)] [] (va_pl P671578 F673288) 0 0 := by
            intro n35_673294
            induction n35_673294 with
            | zero => intro F673288 g673287 bg673287 hfr673291 he673289 he673290 x673292 x673293 x673294 kt35_673294 hm35_673294; exact absurd hm35_673294 (Nat.not_lt_zero _)
            | succ n35_673294 ih35_673294 =>
              intro F673288 g673287 bg673287 hfr673291 he673289 he673290 x673292 x673293 x673294 kt35_673294 hm35_673294
              refine G_aload_n 1 dr_cX14_next_35 rfl ?_
              refine Gp_get 2 hmq671580 he673289 dr_cX14_next_36 (gk_X14 D I) (Nat.le_of_ble_eq_true rfl) wr_9_38 rfl ?_
              refine G_aload_n 1 dr_cX14_next_39 rfl ?_
              refine Gp_get 1 hmq671580 he673289 dr_cX14_next_40 (gk_X14 D I) (Nat.le_of_ble_eq_true rfl) wr_9_37 rfl ?_
              refine G_icmp_ge 107 dr_cX14_next_43 (by decide +kernel) (fun hc673295 => ?_) (fun hc673295 => ?_)
              · have r673296 : p671582.toInt ≤ g673287.toInt := gC_le hc673295
                have bg673287' : gB g673287 1 8192 := ⟨by omega, by omega⟩
                have hx673297 : tl_RReader_next_35 p671582 f671595 g672733 107 g673287 := kt35_673294 107 g673287 (fun R c1 c2 c3 => c1 g673287 bg673287 r673296)
                have x673298 : g672733.toInt < g673287.toInt := by first | omega | exact chNe (a := g672733) (b := g673287) (by assumption) (by assumption) (by omega) (by omega)
                refine G_goto 8 dr_cX14_next_107 (by decide +kernel) ?_
                refine G_lv (L' := [(0, .ref q671580)]) [1] rfl ?_
                exact ih8_672739 F673288 g673287 (gB_w bg673287' (by decide) (by decide)) hfr673291 he673289 he673290 (by omega) (by omega) (fun k e1 ht => kt8_672739 k e1 (fun R c1 c2 c3 c4 c5 c6 c7 => c7 g672733 z672977 g673287 k e1 bg672733 r672976 hz672977 bz672977 r673257 hx673297 (ht R c1 c2 c3 c4 c5 c6 c7))) (by omega)
              · have r673299 : g673287.toInt < p671582.toInt := gC_nle hc673295
                have bg673287' : gB g673287 0 8191 := ⟨by omega, by omega⟩
                refine G_aload_n 1 dr_cX14_next_46 rfl ?_
                refine Gp_get 0 hmq671580 he673289 dr_cX14_next_47 (gk_X14 D I) (Nat.le_of_ble_eq_true rfl) wr_9_36 rfl ?_
                refine G_aload_n 1 dr_cX14_next_50 rfl ?_
                refine Gp_get 2 hmq671580 he673289 dr_cX14_next_51 (gk_X14 D I) (Nat.le_of_ble_eq_true rfl) wr_9_38 rfl ?_
                refine Gp_bald 1 hmq671581 he673290 dr_cX14_next_54 rfl (gB_in bg673287' (by decide) (by decide)) (G_nam fun z673300 hz673300 => ?_)
                have bz673300 : gB z673300 (-128) 127 := by rw [hz673300]; exact bf671595 _
                refine G_bipush 10 dr_cX14_next_55 (by decide +kernel) ?_
                refine G_icmp_eq 107 dr_cX14_next_57 (by decide +kernel) (fun hc673301 => ?_) (fun hc673301 => ?_)
                · have r673302 : z673300.toInt = 10 := gj_eq hc673301 (show Int32.toInt 10 = 10 by decide)
                  have bz673300' : gB z673300 10 10 := ⟨by omega, by omega⟩
                  have hx673303 : tl_RReader_next_35 p671582 f671595 g672733 107 g673287 := kt35_673294 107 g673287 (fun R c1 c2 c3 => c2 g673287 z673300 bg673287 r673299 hz673300 bz673300 r673302)
                  have x673304 : g672733.toInt < g673287.toInt := by first | omega | exact chNe (a := g672733) (b := g673287) (by assumption) (by assumption) (by omega) (by omega)
                  refine G_goto 8 dr_cX14_next_107 (by decide +kernel) ?_
                  refine G_lv (L' := [(0, .ref q671580)]) [1] rfl ?_
                  exact ih8_672739 F673288 g673287 (gB_w bg673287' (by decide) (by decide)) hfr673291 he673289 he673290 (by omega) (by omega) (fun k e1 ht => kt8_672739 k e1 (fun R c1 c2 c3 c4 c5 c6 c7 => c7 g672733 z672977 g673287 k e1 bg672733 r672976 hz672977 bz672977 r673257 hx673303 (ht R c1 c2 c3 c4 c5 c6 c7))) (by omega)
                · have r673305 : z673300.toInt ≠ 10 := gj_neq hc673301 (show Int32.toInt 10 = 10 by decide)
                  refine G_aload_n 1 dr_cX14_next_60 rfl ?_
                  refine G_dup dr_cX14_next_61 rfl ?_
                  refine Gp_get 2 hmq671580 he673289 dr_cX14_next_62 (gk_X14 D I) (Nat.le_of_ble_eq_true rfl) wr_9_38 rfl ?_
                  refine G_iconst 1 dr_cX14_next_65 (by decide +kernel) ?_
                  refine G_iadd dr_cX14_next_66 (G_nam fun z673306 hz673306 => ?_)
                  have ez673306 : z673306.toInt = g673287.toInt + 1 := by rw [gI_add hz673306 bg673287' (gBl (show Int32.toInt 1 = 1 by decide)) (by decide) (by decide), show Int32.toInt 1 = 1 from by decide]
                  have bz673306 : gB z673306 1 8192 := gB_add (gI_add hz673306 bg673287' (gBl (show Int32.toInt 1 = 1 by decide)) (by decide) (by decide)) bg673287' (gBl (show Int32.toInt 1 = 1 by decide)) (by decide) (by decide)
                  refine Gp_put 2 hmq671580 he673289 dr_cX14_next_67 (gk_X14 D I) (Nat.le_of_ble_eq_true rfl) wr_9_38 rfl rfl rfl (Nat.le_of_ble_eq_true rfl) (fun F673307 e673308 n673309 => ?_)
                  have he673310 : F673307 q671581 = .inl (I .byte, 8192, .inl f671595) := (n673309 q671581 (rn_ao he673290 he673289)).trans he673290
                  have he673311 : F673307 q671580 = .inr (19, [.ref q671581, .int p671582, .int z673306, .int p671584, .int p671585, .int p671586, .int p671584, .ref qo671588, .int p671589, .int p671590, .int p671591, .ref qo671592, .ref qo671593, .int p671594]) := e673308
                  have hfr673312 : rFr [q671580] P671578 F671579 F673307 := rFr_put' List.mem_cons_self hfr673291 n673309
                  refine G_goto 35 dr_cX14_next_70 (by decide +kernel) ?_
                  exact ih35_673294 F673307 z673306 (gB_w bz673306 (by decide) (by decide)) hfr673312 he673311 he673310 (by omega) (by omega) (by omega) (fun k e1 ht => kt35_673294 k e1 (fun R c1 c2 c3 => c3 g673287 z673300 z673306 k e1 bg673287 r673299 hz673300 bz673300 r673305 ez673306 (ht R c1 c2 c3))) (by omega)
          exact hlp35_673294 (((p671582.toInt : Int) + 1 - g672733.toInt).toNat + 1) F672734 g672733 (gB_w bg672733' (by decide) (by decide)) hfr672737 he672735 he672736 (by omega) (by omega) (by omega) (fun k e1 ht => ht) (Nat.lt_succ_self _)
  exact hlp8_672739 (((p671582.toInt : Int) + 1 - p671583.toInt).toNat + 1) F671600 p671583 bp671583 hfr671605 he671604 he671603 (by omega) (by omega) (fun k e1 ht => ht) (Nat.lt_succ_self _)
