theorem dr_cX14_next_0 : decode cX14_next 0 = .ok (.aload_n 0, 1) := by decide +kernel
theorem dr_cX14_next_1 : decode cX14_next 1 = .ok (.aload_n 0, 1) := by decide +kernel
theorem dr_cX14_next_2 : decode cX14_next 2 = .ok (.getfield 38, 3) := by decide +kernel
theorem dr_cX14_next_5 : decode cX14_next 5 = .ok (.putfield 41, 3) := by decide +kernel
theorem wr_9_42 : (Jvm.Cond.fieldLink "SpillForgeModel$Reader" (41 : Nat) "SpillForgeModel$Reader" "before" "I") ∈ gw := gw_9 42 rfl rfl
theorem dr_cX14_next_8 : decode cX14_next 8 = .ok (.aload_n 0, 1) := by decide +kernel
theorem dr_cX14_next_9 : decode cX14_next 9 = .ok (.getfield 44, 3) := by decide +kernel
theorem dr_cX14_next_12 : decode cX14_next 12 = .ok (.aload_n 0, 1) := by decide +kernel
theorem dr_cX14_next_13 : decode cX14_next 13 = .ok (.getfield 32, 3) := by decide +kernel
theorem dr_cX14_next_16 : decode cX14_next 16 = .ok (.if_icmp .ge 94, 3) := by decide +kernel
theorem dr_cX14_next_110 : decode cX14_next 110 = .ok (.aload_n 0, 1) := by decide +kernel
theorem dr_cX14_next_111 : decode cX14_next 111 = .ok (.aload_n 0, 1) := by decide +kernel
theorem dr_cX14_next_112 : decode cX14_next 112 = .ok (.getfield 44, 3) := by decide +kernel
theorem dr_cX14_next_115 : decode cX14_next 115 = .ok (.putfield 47, 3) := by decide +kernel
theorem wr_9_40 : (Jvm.Cond.fieldLink "SpillForgeModel$Reader" (47 : Nat) "SpillForgeModel$Reader" "place" "I") ∈ gw := gw_9 40 rfl rfl
theorem dr_cX14_next_118 : decode cX14_next 118 = .ok (.aload_n 0, 1) := by decide +kernel
theorem dr_cX14_next_119 : decode cX14_next 119 = .ok (.ldc 9, 2) := by decide +kernel
theorem dr_cX14_next_121 : decode cX14_next 121 = .ok (.putfield 11, 3) := by decide +kernel
theorem dr_cX14_next_124 : decode cX14_next 124 = .ok (.aload_n 0, 1) := by decide +kernel
theorem dr_cX14_next_125 : decode cX14_next 125 = .ok (.getfield 44, 3) := by decide +kernel
theorem dr_cX14_next_128 : decode cX14_next 128 = .ok (.aload_n 0, 1) := by decide +kernel
theorem dr_cX14_next_129 : decode cX14_next 129 = .ok (.getfield 32, 3) := by decide +kernel
theorem dr_cX14_next_132 : decode cX14_next 132 = .ok (.if_icmp .ne 9, 3) := by decide +kernel
theorem dr_cX14_next_141 : decode cX14_next 141 = .ok (.aload_n 0, 1) := by decide +kernel
theorem dr_cX14_next_142 : decode cX14_next 142 = .ok (.getfield 28, 3) := by decide +kernel
theorem dr_cX14_next_145 : decode cX14_next 145 = .ok (.aload_n 0, 1) := by decide +kernel
theorem dr_cX14_next_146 : decode cX14_next 146 = .ok (.getfield 44, 3) := by decide +kernel
theorem dr_cX14_next_149 : decode cX14_next 149 = .ok (.baload, 1) := by decide +kernel
theorem dr_cX14_next_150 : decode cX14_next 150 = .ok (.istore_n 1, 1) := by decide +kernel
theorem dr_cX14_next_209 : decode cX14_next 209 = .ok (.iload_n 1, 1) := by decide +kernel
theorem dr_cX14_next_210 : decode cX14_next 210 = .ok (.invokestatic 54, 3) := by decide +kernel
theorem dr_cX14_next_213 : decode cX14_next 213 = .ok (.ifCond .eq 10, 3) := by decide +kernel
theorem dr_cX14_next_223 : decode cX14_next 223 = .ok (.iload_n 1, 1) := by decide +kernel
theorem dr_cX14_next_224 : decode cX14_next 224 = .ok (.invokestatic 50, 3) := by decide +kernel
theorem dr_cX14_next_227 : decode cX14_next 227 = .ok (.ifCond .ne 7, 3) := by decide +kernel
theorem dr_cX14_next_234 : decode cX14_next 234 = .ok (.aload_n 0, 1) := by decide +kernel
theorem dr_cX14_next_235 : decode cX14_next 235 = .ok (.iload_n 2, 1) := by decide +kernel
theorem dr_cX14_next_236 : decode cX14_next 236 = .ok (.invokevirtual 60, 3) := by decide +kernel
theorem wr_8_218 : (Jvm.Cond.methodLink "SpillForgeModel$Reader" (60 : Nat) ({ cls := "SpillForgeModel$Reader", name := "number", desc := "(Z)V" } : Jvm.MethodName)) ∈ gw := gw_8 218 rfl rfl
theorem wr_8_221 : (Jvm.Cond.code ({ cls := "SpillForgeModel$Reader", name := "number", desc := "(Z)V" } : Jvm.MethodName) prog_17_method_6_code (4 : Nat) (Option.none : Option Jvm.ClassFile.FieldType)) ∈ gw := gw_8 221 rfl rfl
theorem wr_8_220 : (Jvm.Cond.instanceMethod ({ cls := "SpillForgeModel$Reader", name := "number", desc := "(Z)V" } : Jvm.MethodName)) ∈ gw := gw_8 220 rfl rfl
theorem wr_p_77 : Cond.selects "SpillForgeModel$Reader" ⟨"SpillForgeModel$Reader", "number", "(Z)V"⟩ ⟨"SpillForgeModel$Reader", "number", "(Z)V"⟩ ∈ gw := gw_p _ 77 rfl rfl rfl
theorem dr_cX14_next_239 : decode cX14_next 239 = .ok (.goto 8, 3) := by decide +kernel
theorem dr_cX14_next_247 : decode cX14_next 247 = .ok (.return_, 1) := by decide +kernel
theorem dr_cX14_next_230 : decode cX14_next 230 = .ok (.iload_n 2, 1) := by decide +kernel
theorem dr_cX14_next_231 : decode cX14_next 231 = .ok (.ifCond .eq 11, 3) := by decide +kernel
theorem dr_cX14_next_242 : decode cX14_next 242 = .ok (.aload_n 0, 1) := by decide +kernel
theorem dr_cX14_next_243 : decode cX14_next 243 = .ok (.iload_n 1, 1) := by decide +kernel
theorem dr_cX14_next_244 : decode cX14_next 244 = .ok (.invokevirtual 64, 3) := by decide +kernel
theorem wr_8_223 : (Jvm.Cond.methodLink "SpillForgeModel$Reader" (64 : Nat) ({ cls := "SpillForgeModel$Reader", name := "symbol", desc := "(I)V" } : Jvm.MethodName)) ∈ gw := gw_8 223 rfl rfl
theorem wr_8_226 : (Jvm.Cond.code ({ cls := "SpillForgeModel$Reader", name := "symbol", desc := "(I)V" } : Jvm.MethodName) prog_17_method_7_code (4 : Nat) (Option.none : Option Jvm.ClassFile.FieldType)) ∈ gw := gw_8 226 rfl rfl
theorem wr_8_225 : (Jvm.Cond.instanceMethod ({ cls := "SpillForgeModel$Reader", name := "symbol", desc := "(I)V" } : Jvm.MethodName)) ∈ gw := gw_8 225 rfl rfl
theorem wr_p_78 : Cond.selects "SpillForgeModel$Reader" ⟨"SpillForgeModel$Reader", "symbol", "(I)V"⟩ ⟨"SpillForgeModel$Reader", "symbol", "(I)V"⟩ ∈ gw := gw_p _ 78 rfl rfl rfl
theorem dr_cX14_next_216 : decode cX14_next 216 = .ok (.aload_n 0, 1) := by decide +kernel
theorem dr_cX14_next_217 : decode cX14_next 217 = .ok (.invokevirtual 57, 3) := by decide +kernel
theorem wr_7_225 : (Jvm.Cond.methodLink "SpillForgeModel$Reader" (57 : Nat) ({ cls := "SpillForgeModel$Reader", name := "word", desc := "()V" } : Jvm.MethodName)) ∈ gw := gw_7 225 rfl rfl
theorem wr_7_228 : (Jvm.Cond.code ({ cls := "SpillForgeModel$Reader", name := "word", desc := "()V" } : Jvm.MethodName) prog_17_method_5_code (4 : Nat) (Option.none : Option Jvm.ClassFile.FieldType)) ∈ gw := gw_7 228 rfl rfl
theorem wr_7_227 : (Jvm.Cond.instanceMethod ({ cls := "SpillForgeModel$Reader", name := "word", desc := "()V" } : Jvm.MethodName)) ∈ gw := gw_7 227 rfl rfl
theorem wr_p_76 : Cond.selects "SpillForgeModel$Reader" ⟨"SpillForgeModel$Reader", "word", "()V"⟩ ⟨"SpillForgeModel$Reader", "word", "()V"⟩ ∈ gw := gw_p _ 76 rfl rfl rfl
theorem dr_cX14_next_220 : decode cX14_next 220 = .ok (.goto 27, 3) := by decide +kernel
theorem dr_cX14_next_151 : decode cX14_next 151 = .ok (.iload_n 1, 1) := by decide +kernel
theorem dr_cX14_next_152 : decode cX14_next 152 = .ok (.bipush 45, 2) := by decide +kernel
theorem dr_cX14_next_154 : decode cX14_next 154 = .ok (.if_icmp .ne 53, 3) := by decide +kernel
theorem dr_cX14_next_207 : decode cX14_next 207 = .ok (.iconst 0, 1) := by decide +kernel
theorem dr_cX14_next_208 : decode cX14_next 208 = .ok (.istore_n 2, 1) := by decide +kernel
theorem dr_cX14_next_157 : decode cX14_next 157 = .ok (.aload_n 0, 1) := by decide +kernel
theorem dr_cX14_next_158 : decode cX14_next 158 = .ok (.getfield 44, 3) := by decide +kernel
theorem dr_cX14_next_161 : decode cX14_next 161 = .ok (.iconst 1, 1) := by decide +kernel
theorem dr_cX14_next_162 : decode cX14_next 162 = .ok (.iadd, 1) := by decide +kernel
theorem dr_cX14_next_163 : decode cX14_next 163 = .ok (.aload_n 0, 1) := by decide +kernel
theorem dr_cX14_next_164 : decode cX14_next 164 = .ok (.getfield 32, 3) := by decide +kernel
theorem dr_cX14_next_167 : decode cX14_next 167 = .ok (.if_icmp .ge 40, 3) := by decide +kernel
theorem dr_cX14_next_170 : decode cX14_next 170 = .ok (.aload_n 0, 1) := by decide +kernel
theorem dr_cX14_next_171 : decode cX14_next 171 = .ok (.getfield 28, 3) := by decide +kernel
theorem dr_cX14_next_174 : decode cX14_next 174 = .ok (.aload_n 0, 1) := by decide +kernel
theorem dr_cX14_next_175 : decode cX14_next 175 = .ok (.getfield 44, 3) := by decide +kernel
theorem dr_cX14_next_178 : decode cX14_next 178 = .ok (.iconst 1, 1) := by decide +kernel
theorem dr_cX14_next_179 : decode cX14_next 179 = .ok (.iadd, 1) := by decide +kernel
theorem dr_cX14_next_180 : decode cX14_next 180 = .ok (.baload, 1) := by decide +kernel
theorem dr_cX14_next_181 : decode cX14_next 181 = .ok (.invokestatic 50, 3) := by decide +kernel
theorem dr_cX14_next_184 : decode cX14_next 184 = .ok (.ifCond .eq 23, 3) := by decide +kernel
theorem dr_cX14_next_187 : decode cX14_next 187 = .ok (.aload_n 0, 1) := by decide +kernel
theorem dr_cX14_next_188 : decode cX14_next 188 = .ok (.getfield 41, 3) := by decide +kernel
theorem dr_cX14_next_191 : decode cX14_next 191 = .ok (.iconst 2, 1) := by decide +kernel
theorem dr_cX14_next_192 : decode cX14_next 192 = .ok (.if_icmp .eq 15, 3) := by decide +kernel
theorem dr_cX14_next_195 : decode cX14_next 195 = .ok (.aload_n 0, 1) := by decide +kernel
theorem dr_cX14_next_196 : decode cX14_next 196 = .ok (.getfield 41, 3) := by decide +kernel
theorem dr_cX14_next_199 : decode cX14_next 199 = .ok (.iconst 4, 1) := by decide +kernel
theorem dr_cX14_next_200 : decode cX14_next 200 = .ok (.if_icmp .eq 7, 3) := by decide +kernel
theorem dr_cX14_next_203 : decode cX14_next 203 = .ok (.iconst 1, 1) := by decide +kernel
theorem dr_cX14_next_204 : decode cX14_next 204 = .ok (.goto 4, 3) := by decide +kernel
theorem dr_cX14_next_135 : decode cX14_next 135 = .ok (.aload_n 0, 1) := by decide +kernel
theorem dr_cX14_next_136 : decode cX14_next 136 = .ok (.iconst 0, 1) := by decide +kernel
theorem dr_cX14_next_137 : decode cX14_next 137 = .ok (.putfield 38, 3) := by decide +kernel
theorem dr_cX14_next_140 : decode cX14_next 140 = .ok (.return_, 1) := by decide +kernel
theorem dr_cX14_next_19 : decode cX14_next 19 = .ok (.aload_n 0, 1) := by decide +kernel
theorem dr_cX14_next_20 : decode cX14_next 20 = .ok (.getfield 28, 3) := by decide +kernel
theorem dr_cX14_next_23 : decode cX14_next 23 = .ok (.aload_n 0, 1) := by decide +kernel
theorem dr_cX14_next_24 : decode cX14_next 24 = .ok (.getfield 44, 3) := by decide +kernel
theorem dr_cX14_next_27 : decode cX14_next 27 = .ok (.baload, 1) := by decide +kernel
theorem dr_cX14_next_28 : decode cX14_next 28 = .ok (.istore_n 1, 1) := by decide +kernel
theorem dr_cX14_next_29 : decode cX14_next 29 = .ok (.iload_n 1, 1) := by decide +kernel
theorem dr_cX14_next_30 : decode cX14_next 30 = .ok (.bipush 59, 2) := by decide +kernel
theorem dr_cX14_next_32 : decode cX14_next 32 = .ok (.if_icmp .ne 41, 3) := by decide +kernel
theorem dr_cX14_next_73 : decode cX14_next 73 = .ok (.iload_n 1, 1) := by decide +kernel
theorem dr_cX14_next_74 : decode cX14_next 74 = .ok (.bipush 9, 2) := by decide +kernel
theorem dr_cX14_next_76 : decode cX14_next 76 = .ok (.if_icmp .eq 21, 3) := by decide +kernel
theorem dr_cX14_next_97 : decode cX14_next 97 = .ok (.aload_n 0, 1) := by decide +kernel
theorem dr_cX14_next_98 : decode cX14_next 98 = .ok (.dup, 1) := by decide +kernel
theorem dr_cX14_next_99 : decode cX14_next 99 = .ok (.getfield 44, 3) := by decide +kernel
theorem dr_cX14_next_102 : decode cX14_next 102 = .ok (.iconst 1, 1) := by decide +kernel
theorem dr_cX14_next_103 : decode cX14_next 103 = .ok (.iadd, 1) := by decide +kernel
theorem dr_cX14_next_104 : decode cX14_next 104 = .ok (.putfield 44, 3) := by decide +kernel
theorem dr_cX14_next_107 : decode cX14_next 107 = .ok (.goto (-99), 3) := by decide +kernel
theorem dr_cX14_next_79 : decode cX14_next 79 = .ok (.iload_n 1, 1) := by decide +kernel
theorem dr_cX14_next_80 : decode cX14_next 80 = .ok (.bipush 10, 2) := by decide +kernel
theorem dr_cX14_next_82 : decode cX14_next 82 = .ok (.if_icmp .eq 15, 3) := by decide +kernel
theorem dr_cX14_next_85 : decode cX14_next 85 = .ok (.iload_n 1, 1) := by decide +kernel
theorem dr_cX14_next_86 : decode cX14_next 86 = .ok (.bipush 13, 2) := by decide +kernel
theorem dr_cX14_next_88 : decode cX14_next 88 = .ok (.if_icmp .eq 9, 3) := by decide +kernel
theorem dr_cX14_next_91 : decode cX14_next 91 = .ok (.iload_n 1, 1) := by decide +kernel
theorem dr_cX14_next_92 : decode cX14_next 92 = .ok (.bipush 32, 2) := by decide +kernel
theorem dr_cX14_next_94 : decode cX14_next 94 = .ok (.if_icmp .ne 16, 3) := by decide +kernel
theorem dr_cX14_next_35 : decode cX14_next 35 = .ok (.aload_n 0, 1) := by decide +kernel
theorem dr_cX14_next_36 : decode cX14_next 36 = .ok (.getfield 44, 3) := by decide +kernel
theorem dr_cX14_next_39 : decode cX14_next 39 = .ok (.aload_n 0, 1) := by decide +kernel
theorem dr_cX14_next_40 : decode cX14_next 40 = .ok (.getfield 32, 3) := by decide +kernel
theorem dr_cX14_next_43 : decode cX14_next 43 = .ok (.if_icmp .ge 64, 3) := by decide +kernel
theorem dr_cX14_next_46 : decode cX14_next 46 = .ok (.aload_n 0, 1) := by decide +kernel
theorem dr_cX14_next_47 : decode cX14_next 47 = .ok (.getfield 28, 3) := by decide +kernel
theorem dr_cX14_next_50 : decode cX14_next 50 = .ok (.aload_n 0, 1) := by decide +kernel
theorem dr_cX14_next_51 : decode cX14_next 51 = .ok (.getfield 44, 3) := by decide +kernel
theorem dr_cX14_next_54 : decode cX14_next 54 = .ok (.baload, 1) := by decide +kernel
theorem dr_cX14_next_55 : decode cX14_next 55 = .ok (.bipush 10, 2) := by decide +kernel
theorem dr_cX14_next_57 : decode cX14_next 57 = .ok (.if_icmp .eq 50, 3) := by decide +kernel
theorem dr_cX14_next_60 : decode cX14_next 60 = .ok (.aload_n 0, 1) := by decide +kernel
theorem dr_cX14_next_61 : decode cX14_next 61 = .ok (.dup, 1) := by decide +kernel
theorem dr_cX14_next_62 : decode cX14_next 62 = .ok (.getfield 44, 3) := by decide +kernel
theorem dr_cX14_next_65 : decode cX14_next 65 = .ok (.iconst 1, 1) := by decide +kernel
theorem dr_cX14_next_66 : decode cX14_next 66 = .ok (.iadd, 1) := by decide +kernel
theorem dr_cX14_next_67 : decode cX14_next 67 = .ok (.putfield 44, 3) := by decide +kernel
theorem dr_cX14_next_70 : decode cX14_next 70 = .ok (.goto (-35), 3) := by decide +kernel
abbrev ky_669296_Reader_next : gKey := (cX14_next, 3, "SpillForgeModel$Reader", none, [], "next", fun _ _ => True)
def pp_669296_Reader_next (D : va_G) (I : FieldType → ClassId) (P669275 : List Nat) (F669276 : Nat → va_E) (q669277 : Nat) (q669278 : Nat) (p669279 : Int32) (p669280 : Int32) (p669281 : Int32) (p669282 : Int32) (p669283 : Int32) (p669284 : Int32) (qo669285 : Nat) (p669286 : Int32) (p669287 : Int32) (p669288 : Int32) (qo669289 : Nat) (qo669290 : Nat) (p669291 : Int32) (f669292 : Nat → Int32) : Option Value → va_W → Nat → Nat → Prop := fun r w dc ds => ∃ (P671015 : List Nat) (F671016 : Nat → va_E) (o671010 : Int32) (o671011 : Int32) (o671012 : Int32) (o671013 : Int32) (q671014 : Nat) (xt671017 : gTx), r = none ∧ w = va_pl P671015 F671016 ∧ rSub P669275 P671015 ∧ rFr [q669277] P669275 F669276 F671016 ∧ F671016 q669277 = .inr (19, [.ref q669278, .int p669279, .int o671010, .int o671011, .int o671012, .int o671013, .int p669281, .ref q671014, .int p669286, .int p669287, .int p669288, .ref qo669289, .ref qo669290, .int p669291]) ∧ F671016 q669278 = .inl (I .byte, 8192, .inl f669292) ∧ dc ≤ (16 * (o671010.toInt - p669280.toInt)).toNat ∧ ds ≤ (160 * (o671010.toInt - p669280.toInt)).toNat ∧ gB o671010 0 8192 ∧ gB o671011 0 6 ∧ gB o671012 0 8192 ∧ p669280.toInt ≤ o671010.toInt ∧ prP o671011 p669280 o671010 ∧ o671010.toInt ≤ p669279.toInt ∧ tP I P671015 F671016 o671011 q671014 qo669290 qo669289 xt671017 ∧ vP o671011 o671013 ∧ tr_RReader_next p669279 p669280 p669281 p669283 f669292 o671010 o671011 o671012 o671013 xt671017
set_option maxRecDepth 100000 in
set_option maxHeartbeats 4000000 in
theorem cp_669296_Reader_next (l : Launch) (hl0 : l.stackTraces = false) (D : va_G) (I : FieldType → ClassId) (P669275 : List Nat) (F669276 : Nat → va_E) (q669277 : Nat) (q669278 : Nat) (p669279 : Int32) (p669280 : Int32) (p669281 : Int32) (p669282 : Int32) (p669283 : Int32) (p669284 : Int32) (qo669285 : Nat) (p669286 : Int32) (p669287 : Int32) (p669288 : Int32) (qo669289 : Nat) (qo669290 : Nat) (p669291 : Int32) (f669292 : Nat → Int32) (hmq669277 : q669277 ∈ P669275) (hmq669278 : q669278 ∈ P669275) (heq669277 : F669276 q669277 = .inr (19, [.ref q669278, .int p669279, .int p669280, .int p669281, .int p669282, .int p669283, .int p669284, .ref qo669285, .int p669286, .int p669287, .int p669288, .ref qo669289, .ref qo669290, .int p669291])) (heq669278 : F669276 q669278 = .inl (I .byte, 8192, .inl f669292)) (bp669279 : gB p669279 0 8192) (bp669280 : gB p669280 0 8192) (bp669281 : gB p669281 0 6) (bp669282 : gB p669282 0 8192) (bp669284 : gB p669284 0 6) (bp669286 : gB p669286 (-1) 8192) (bp669287 : gB p669287 0 4) (bp669288 : gB p669288 0 1000000) (bp669291 : gB p669291 0 1000000) (bf669292 : gF f669292 (-128) 127) (x669293 : p669280.toInt ≤ p669279.toInt) (x669294 : qo669290 ∈ P669275) (x669295 : qo669289 ∈ P669275) : CtA (gV D I) l yX14_next cX14_next 3 none 7 155 ((16 * (p669279.toInt - p669280.toInt)).toNat) ((160 * (p669279.toInt - p669280.toInt)).toNat) [.ref q669277] (va_pl P669275 F669276) (pp_669296_Reader_next D I P669275 F669276 q669277 q669278 p669279 p669280 p669281 p669282 p669283 p669284 qo669285 p669286 p669287 p669288 qo669289 qo669290 p669291 f669292) gNA := by
  refine CtA_of hl0 (by decide) (Nat.le_of_ble_eq_true rfl) ?_
  have bp669283 := gB_any p669283
  refine G_aload_n 0 dr_cX14_next_0 rfl ?_
  refine G_aload_n 0 dr_cX14_next_1 rfl ?_
  refine Gp_get 3 hmq669277 heq669277 dr_cX14_next_2 (gk_X14 D I) (Nat.le_of_ble_eq_true rfl) wr_9_39 rfl ?_
  refine Gp_put 6 hmq669277 heq669277 dr_cX14_next_5 (gk_X14 D I) (Nat.le_of_ble_eq_true rfl) wr_9_42 rfl rfl rfl (Nat.le_of_ble_eq_true rfl) (fun F669297 e669298 n669299 => ?_)
  have he669300 : F669297 q669278 = .inl (I .byte, 8192, .inl f669292) := (n669299 q669278 (rn_ao heq669278 heq669277)).trans heq669278
  have he669301 : F669297 q669277 = .inr (19, [.ref q669278, .int p669279, .int p669280, .int p669281, .int p669282, .int p669283, .int p669281, .ref qo669285, .int p669286, .int p669287, .int p669288, .ref qo669289, .ref qo669290, .int p669291]) := e669298
  have hfr669302 : rFr [q669277] P669275 F669276 F669297 := rFr_put (rFr_rf (W := []) (P := P669275) (F := F669276)) n669299
  have hlp8_670436 : ∀ (n8_670436 : Nat) (F670431 : Nat → va_E) (g670430 : Int32), gB g670430 0 8192 → rFr [q669277] P669275 F669276 F670431 → F670431 q669277 = .inr (19, [.ref q669278, .int p669279, .int g670430, .int p669281, .int p669282, .int p669283, .int p669281, .ref qo669285, .int p669286, .int p669287, .int p669288, .ref qo669289, .ref qo669290, .int p669291]) → F670431 q669278 = .inl (I .byte, 8192, .inl f669292) → p669280.toInt ≤ g670430.toInt → g670430.toInt ≤ p669279.toInt → (∀ (k : Nat) (e1 : Int32), tl_RReader_next_8 p669279 f669292 g670430 k e1 → tl_RReader_next_8 p669279 f669292 p669280 k e1) → ((p669279.toInt : Int) + 1 - g670430.toInt).toNat < n8_670436 → G (gV D I) l (gRm 7 155 ((16 * (p669279.toInt - p669280.toInt)).toNat) ((160 * (p669279.toInt - p669280.toInt)).toNat)) (gMA (gV D I) (pp_669296_Reader_next D I P669275 F669276 q669277 q669278 p669279 p669280 p669281 p669282 p669283 p669284 qo669285 p669286 p669287 p669288 qo669289 qo669290 p669291 f669292) gNA ((16 * (p669279.toInt - p669280.toInt)).toNat) ((160 * (p669279.toInt - p669280.toInt)).toNat)) ky_669296_Reader_next 8 [(0, .ref q669277)] [] (va_pl P669275 F670431) 0 0 := by
    intro n8_670436
    induction n8_670436 with
    | zero => intro F670431 g670430 bg670430 hfr670434 he670432 he670433 x670435 x670436 kt8_670436 hm8_670436; exact absurd hm8_670436 (Nat.not_lt_zero _)
    | succ n8_670436 ih8_670436 =>
      intro F670431 g670430 bg670430 hfr670434 he670432 he670433 x670435 x670436 kt8_670436 hm8_670436
      refine G_aload_n 0 dr_cX14_next_8 rfl ?_
      refine Gp_get 2 hmq669277 he670432 dr_cX14_next_9 (gk_X14 D I) (Nat.le_of_ble_eq_true rfl) wr_9_38 rfl ?_
      refine G_aload_n 0 dr_cX14_next_12 rfl ?_
      refine Gp_get 1 hmq669277 he670432 dr_cX14_next_13 (gk_X14 D I) (Nat.le_of_ble_eq_true rfl) wr_9_37 rfl ?_
      refine G_icmp_ge 110 dr_cX14_next_16 (by decide +kernel) (fun hc670437 => ?_) (fun hc670437 => ?_)
      · have r670438 : p669279.toInt ≤ g670430.toInt := gC_le hc670437
        have hx670439 : tl_RReader_next_8 p669279 f669292 p669280 110 g670430 := kt8_670436 110 g670430 (fun R c1 c2 c3 c4 c5 c6 c7 => c1 g670430 bg670430 r670438)
        clear he669300 he669301 hfr669302
        refine G_aload_n 0 dr_cX14_next_110 rfl ?_
        refine G_aload_n 0 dr_cX14_next_111 rfl ?_
        refine Gp_get 2 hmq669277 he670432 dr_cX14_next_112 (gk_X14 D I) (Nat.le_of_ble_eq_true rfl) wr_9_38 rfl ?_
        refine Gp_put 4 hmq669277 he670432 dr_cX14_next_115 (gk_X14 D I) (Nat.le_of_ble_eq_true rfl) wr_9_40 rfl rfl rfl (Nat.le_of_ble_eq_true rfl) (fun F670440 e670441 n670442 => ?_)
        have he670443 : F670440 q669278 = .inl (I .byte, 8192, .inl f669292) := (n670442 q669278 (rn_ao he670433 he670432)).trans he670433
        have he670444 : F670440 q669277 = .inr (19, [.ref q669278, .int p669279, .int g670430, .int p669281, .int g670430, .int p669283, .int p669281, .ref qo669285, .int p669286, .int p669287, .int p669288, .ref qo669289, .ref qo669290, .int p669291]) := e670441
        have hfr670445 : rFr [q669277] P669275 F669276 F670440 := rFr_put' List.mem_cons_self hfr670434 n670442
        refine G_aload_n 0 dr_cX14_next_118 rfl ?_
        refine G_ldcK (a := D.2 1000 32) dr_cX14_next_119 (fun _ _ _ h => gx_vk 32 rfl rfl h) ?_
        have hl32_670445 : (sb_32.length : Int) = 0 := rfl
        refine Gp_put 7 hmq669277 he670444 dr_cX14_next_121 (gk_X14 D I) (Nat.le_of_ble_eq_true rfl) wr_9_43 rfl rfl rfl (Nat.le_of_ble_eq_true rfl) (fun F670447 e670448 n670449 => ?_)
        have he670450 : F670447 q669278 = .inl (I .byte, 8192, .inl f669292) := (n670449 q669278 (rn_ao he670443 he670444)).trans he670443
        have he670451 : F670447 q669277 = .inr (19, [.ref q669278, .int p669279, .int g670430, .int p669281, .int g670430, .int p669283, .int p669281, .ref (D.2 1000 32), .int p669286, .int p669287, .int p669288, .ref qo669289, .ref qo669290, .int p669291]) := e670448
        have hfr670452 : rFr [q669277] P669275 F669276 F670447 := rFr_put' List.mem_cons_self hfr670445 n670449
        clear he670443 he670444 hfr670445
        refine G_aload_n 0 dr_cX14_next_124 rfl ?_
        refine Gp_get 2 hmq669277 he670451 dr_cX14_next_125 (gk_X14 D I) (Nat.le_of_ble_eq_true rfl) wr_9_38 rfl ?_
        refine G_aload_n 0 dr_cX14_next_128 rfl ?_
        refine Gp_get 1 hmq669277 he670451 dr_cX14_next_129 (gk_X14 D I) (Nat.le_of_ble_eq_true rfl) wr_9_37 rfl ?_
        refine G_icmp_ne 141 dr_cX14_next_132 (by decide +kernel) (fun hc670453 => ?_) (fun hc670453 => ?_)
        · have r670454 : g670430.toInt ≠ p669279.toInt := gC_ne hc670453
          refine G_aload_n 0 dr_cX14_next_141 rfl ?_
          refine Gp_get 0 hmq669277 he670451 dr_cX14_next_142 (gk_X14 D I) (Nat.le_of_ble_eq_true rfl) wr_9_36 rfl ?_
          refine G_aload_n 0 dr_cX14_next_145 rfl ?_
          refine Gp_get 2 hmq669277 he670451 dr_cX14_next_146 (gk_X14 D I) (Nat.le_of_ble_eq_true rfl) wr_9_38 rfl ?_
          refine Gp_bald 1 hmq669278 he670450 dr_cX14_next_149 rfl (gB_inr (by omega) (by omega)) (G_nam fun z670455 hz670455 => ?_)
          have bz670455 : gB z670455 (-128) 127 := by rw [hz670455]; exact bf669292 _
          refine G_istore_n (L' := [(1, .int z670455), (0, .ref q669277)]) dr_cX14_next_150 (Nat.le_of_ble_eq_true rfl) rfl ?_
          have jn670456 : ((z670455.toInt ≠ 45) ∨ (∃ (y1 : Int32), z670455.toInt = 45 ∧ y1.toInt = g670430.toInt + 1 ∧ p669279.toInt ≤ y1.toInt) ∨ (∃ (y1 : Int32) (y2 : Int32) (y3 : Int32), z670455.toInt = 45 ∧ y1.toInt = g670430.toInt + 1 ∧ y1.toInt < p669279.toInt ∧ y2 = f669292 y1.toNatClampNeg ∧ gB y2 (-128) 127 ∧ gB y3 0 1 ∧ tr_RReader_isDigit2 y2 y3 ∧ y3.toInt = 0) ∨ (∃ (y1 : Int32) (y2 : Int32) (y3 : Int32), z670455.toInt = 45 ∧ y1.toInt = g670430.toInt + 1 ∧ y1.toInt < p669279.toInt ∧ y2 = f669292 y1.toNatClampNeg ∧ gB y2 (-128) 127 ∧ gB y3 0 1 ∧ tr_RReader_isDigit2 y2 y3 ∧ y3.toInt ≠ 0 ∧ p669281.toInt = 2) ∨ (∃ (y1 : Int32) (y2 : Int32) (y3 : Int32), z670455.toInt = 45 ∧ y1.toInt = g670430.toInt + 1 ∧ y1.toInt < p669279.toInt ∧ y2 = f669292 y1.toNatClampNeg ∧ gB y2 (-128) 127 ∧ gB y3 0 1 ∧ tr_RReader_isDigit2 y2 y3 ∧ y3.toInt ≠ 0 ∧ p669281.toInt ≠ 2 ∧ p669281.toInt = 4)) → G (gV D I) l (gRm 7 155 ((16 * (p669279.toInt - p669280.toInt)).toNat) ((160 * (p669279.toInt - p669280.toInt)).toNat)) (gMA (gV D I) (pp_669296_Reader_next D I P669275 F669276 q669277 q669278 p669279 p669280 p669281 p669282 p669283 p669284 qo669285 p669286 p669287 p669288 qo669289 qo669290 p669291 f669292) gNA ((16 * (p669279.toInt - p669280.toInt)).toNat) ((160 * (p669279.toInt - p669280.toInt)).toNat)) ky_669296_Reader_next 209 [(2, .int 0), (1, .int z670455), (0, .ref q669277)] [] (va_pl P669275 F670447) 0 0 := by
            intro hJ670457
            refine G_iload_n 1 dr_cX14_next_209 rfl ?_
            refine Gw_callS (As := [.int z670455]) (gV_ok D I) (cp_666991_Reader_isLetter l hl0 D I P669275 F670447 z670455 ) dr_cX14_next_210 ⟨wr_7_222, wr_1_32, wr_7_224, by decide, rfl, (Nat.le_of_ble_eq_true rfl), (Nat.le_of_ble_eq_true rfl)⟩ wr_7_223 (show 0 + 0 ≤ ((16 * (p669279.toInt - p669280.toInt)).toNat) by first | omega | decide) (show 0 + 0 ≤ ((160 * (p669279.toInt - p669280.toInt)).toNat) by first | omega | decide) (Nat.le_of_ble_eq_true rfl) (fun r670461 w670462 dc670458 ds670459 hp670460 => ?_) (fun _ _ _ _ _ z => z.elim)
            obtain ⟨o670463, rfl, rfl, hdc, hds, bo670463, x670464, ht670465⟩ := hp670460
            change G _ _ _ _ _ _ _ (.int o670463 :: _) _ _ _
            refine G_widen (cs' := 0) (sl' := 0) (by omega) (by omega) ?_
            refine G_if_eq 223 dr_cX14_next_213 (by decide +kernel) (fun hc670466 => ?_) (fun hc670466 => ?_)
            · have r670467 : o670463.toInt = 0 := gj_eq hc670466 (show Int32.toInt 0 = 0 by decide)
              have bo670463' : gB o670463 0 0 := ⟨by omega, by omega⟩
              clear bo670463'; try clear r670461; try clear w670462; try clear dc670458; try clear ds670459; try clear hp670460; try clear x670464
              refine G_iload_n 1 dr_cX14_next_223 rfl ?_
              refine Gw_callS (As := [.int z670455]) (gV_ok D I) (cp_665041_Reader_isDigit l hl0 D I P669275 F670447 z670455 ) dr_cX14_next_224 ⟨wr_7_219, wr_1_32, wr_7_221, by decide, rfl, (Nat.le_of_ble_eq_true rfl), (Nat.le_of_ble_eq_true rfl)⟩ wr_7_220 (show 0 + 0 ≤ ((16 * (p669279.toInt - p669280.toInt)).toNat) by first | omega | decide) (show 0 + 0 ≤ ((160 * (p669279.toInt - p669280.toInt)).toNat) by first | omega | decide) (Nat.le_of_ble_eq_true rfl) (fun r670471 w670472 dc670468 ds670469 hp670470 => ?_) (fun _ _ _ _ _ z => z.elim)
              obtain ⟨o670473, rfl, rfl, hdc, hds, bo670473, x670474, ht670475⟩ := hp670470
              change G _ _ _ _ _ _ _ (.int o670473 :: _) _ _ _
              refine G_widen (cs' := 0) (sl' := 0) (by omega) (by omega) ?_
              refine G_if_ne 234 dr_cX14_next_227 (by decide +kernel) (fun hc670476 => ?_) (fun hc670476 => ?_)
              · have r670477 : o670473.toInt ≠ 0 := gj_neq hc670476 (show Int32.toInt 0 = 0 by decide)
                have bo670473' : gB o670473 1 1 := ⟨by omega, by omega⟩
                have bi670478 : gB z670455 48 57 := isP_1 x670474 (by omega)
                refine G_aload_n 2 dr_cX14_next_234 rfl ?_
                refine G_iload_n 0 dr_cX14_next_235 rfl ?_
                refine Gw_callV (As := [.int 0]) (gV_ok D I) (cp_665005_Reader_number l hl0 D I P669275 F670447 q669277 q669278 0 p669279 g670430 p669281 g670430 p669283 p669281 (D.2 1000 32) p669286 p669287 p669288 qo669289 qo669290 p669291 f669292 hmq669277 hmq669278 he670451 he670450 (gB_w (gBl (show Int32.toInt 0 = 0 by decide)) (by decide) (by decide)) bp669279 bg670430 bp669281 bg670430 bp669281 bp669286 bp669287 bp669288 bp669291 bf669292 (by have qa0 : Int32.toInt 0 = 0 := (by decide); omega) (by have qa0 : Int32.toInt 0 = 0 := (by decide); omega) (by first | assumption | exact cDg_no (by omega) | exact cDg_no (by decide) | exact cDg_of (by assumption) (by omega) (by omega)) x669294 x669295) dr_cX14_next_236 ⟨wr_8_218, wr_1_32, wr_8_221, by decide, rfl, (Nat.le_of_ble_eq_true rfl), (Nat.le_of_ble_eq_true rfl)⟩ wr_8_220 wr_p_77 hmq669277 he670451 rfl (show 0 + ((16 * (p669279.toInt - g670430.toInt)).toNat) ≤ ((16 * (p669279.toInt - p669280.toInt)).toNat) by first | omega | decide) (show 0 + ((160 * (p669279.toInt - g670430.toInt)).toNat) ≤ ((160 * (p669279.toInt - p669280.toInt)).toNat) by first | omega | decide) (Nat.le_of_ble_eq_true rfl) (fun r670482 w670483 dc670479 ds670480 hp670481 => ?_) (fun _ _ _ _ _ z => z.elim)
                obtain ⟨F670493, o670484, o670485, o670486, xt670492, rfl, rfl, hfr670495, he670496, he670497, hdc, hds, bo670484, bo670485, x670487, x670488, x670489, x670490, ht670491⟩ := hp670481
                have hfr670498 : rFr [q669277] P669275 F669276 F670493 := rFr_call (rSub_rf (P := P669275)) hfr670452 hfr670495 (fun b hb hn => ⟨(nm_c (fun e => hn (e ▸ List.mem_cons_self)) nm_n), (nm_c (fun e => hn (e ▸ List.mem_cons_self)) nm_n)⟩)
                have bo670486 := gB_any o670486
                change G _ _ _ _ _ _ _ _ _ _ _
                refine G_widen (cs' := (16 * (o670484.toInt - g670430.toInt)).toNat) (sl' := (160 * (o670484.toInt - g670430.toInt)).toNat) (by omega) (by omega) ?_
                refine G_goto 247 dr_cX14_next_239 (by decide +kernel) ?_
                exact G_vretA dr_cX14_next_247 rfl (show (16 * (o670484.toInt - g670430.toInt)).toNat ≤ ((16 * (p669279.toInt - p669280.toInt)).toNat) by omega) (show (160 * (o670484.toInt - g670430.toInt)).toNat ≤ ((160 * (p669279.toInt - p669280.toInt)).toNat) by omega) ⟨P669275, F670493, o670484, o670485, g670430, o670486, (D.2 1000 32), xt670492, rfl, rfl, (rSub_rf (P := P669275)), hfr670498, he670496, he670497, (by omega), (by omega), bo670484, (gB_w bo670485 (by decide) (by decide)), bg670430, (by have qa0 : Int32.toInt 0 = 0 := (by decide); omega), (Or.inr (by omega)), (by have qa0 : Int32.toInt 0 = 0 := (by decide); omega), (by first | exact tP_no (by omega) (by omega) | assumption), x670490, (fun R c1 c2 c3 c4 c5 c6 c7 c8 c9 c10 c11 c12 c13 => c1 g670430 z670455 o670463 o670473 xt670492 o670484 o670485 o670486 hx670439 r670454 hz670455 bz670455 hJ670457 bo670463 ht670465 r670467 bo670473 ht670475 r670477 bo670484 bo670485 ht670491)⟩
              · have r670499 : o670473.toInt = 0 := gj_eq hc670476 (show Int32.toInt 0 = 0 by decide)
                have bo670473' : gB o670473 0 0 := ⟨by omega, by omega⟩
                refine G_iload_n 0 dr_cX14_next_230 rfl ?_
                refine G_if_eq 242 dr_cX14_next_231 (by decide +kernel) (fun _ => ?_) (fun hc => absurd hc (by decide))
                refine G_aload_n 2 dr_cX14_next_242 rfl ?_
                refine G_iload_n 1 dr_cX14_next_243 rfl ?_
                refine Gw_callV (As := [.int z670455]) (gV_ok D I) (cp_665628_Reader_symbol l hl0 D I P669275 F670447 q669277 q669278 z670455 p669279 g670430 p669281 g670430 p669283 p669281 (D.2 1000 32) p669286 p669287 p669288 qo669289 qo669290 p669291 f669292 hmq669277 hmq669278 he670451 he670450 bz670455 bp669279 bg670430 bp669281 bg670430 bp669281 bp669286 bp669287 bp669288 bp669291 bf669292 (by have qa0 : Int32.toInt 0 = 0 := (by decide); omega) (by have qa0 : Int32.toInt 0 = 0 := (by decide); omega) x669294 x669295) dr_cX14_next_244 ⟨wr_8_223, wr_1_32, wr_8_226, by decide, rfl, (Nat.le_of_ble_eq_true rfl), (Nat.le_of_ble_eq_true rfl)⟩ wr_8_225 wr_p_78 hmq669277 he670451 rfl (show 0 + ((16 * (p669279.toInt - g670430.toInt)).toNat) ≤ ((16 * (p669279.toInt - p669280.toInt)).toNat) by first | omega | decide) (show 0 + ((160 * (p669279.toInt - g670430.toInt)).toNat) ≤ ((160 * (p669279.toInt - p669280.toInt)).toNat) by first | omega | decide) (Nat.le_of_ble_eq_true rfl) (fun r670503 w670504 dc670500 ds670501 hp670502 => ?_) (fun _ _ _ _ _ z => z.elim)
                obtain ⟨P670514, F670515, o670505, o670506, q670507, xt670513, rfl, rfl, hsb670516, hfr670517, he670518, he670519, hdc, hds, bo670505, bo670506, x670508, x670509, x670510, x670511, ht670512⟩ := hp670502
                have hm670520 : q669277 ∈ P670514 := hsb670516 q669277 hmq669277
                have hm670521 : q669278 ∈ P670514 := hsb670516 q669278 hmq669278
                have hsb670522 : rSub P669275 P670514 := rSub_tr (rSub_rf (P := P669275)) hsb670516
                have hfr670523 : rFr [q669277] P669275 F669276 F670515 := rFr_call (rSub_rf (P := P669275)) hfr670452 hfr670517 (fun b hb hn => ⟨(nm_c (fun e => hn (e ▸ List.mem_cons_self)) nm_n), (nm_c (fun e => hn (e ▸ List.mem_cons_self)) nm_n)⟩)
                change G _ _ _ _ _ _ _ _ _ _ _
                refine G_widen (cs' := (16 * (o670505.toInt - g670430.toInt)).toNat) (sl' := (160 * (o670505.toInt - g670430.toInt)).toNat) (by omega) (by omega) ?_
                exact G_vretA dr_cX14_next_247 rfl (show (16 * (o670505.toInt - g670430.toInt)).toNat ≤ ((16 * (p669279.toInt - p669280.toInt)).toNat) by omega) (show (160 * (o670505.toInt - g670430.toInt)).toNat ≤ ((160 * (p669279.toInt - p669280.toInt)).toNat) by omega) ⟨P670514, F670515, o670505, o670506, g670430, p669283, q670507, xt670513, rfl, rfl, hsb670522, hfr670523, he670518, he670519, (by omega), (by omega), (gB_w bo670505 (by decide) (by decide)), (gB_w bo670506 (by decide) (by decide)), bg670430, (by have qa0 : Int32.toInt 0 = 0 := (by decide); omega), (Or.inr (by omega)), (by have qa0 : Int32.toInt 0 = 0 := (by decide); omega), x670510, x670511, (fun R c1 c2 c3 c4 c5 c6 c7 c8 c9 c10 c11 c12 c13 => c2 g670430 z670455 o670463 o670473 xt670513 o670505 o670506 hx670439 r670454 hz670455 bz670455 hJ670457 bo670463 ht670465 r670467 bo670473 ht670475 r670499 bo670505 bo670506 ht670512)⟩
            · have r670524 : o670463.toInt ≠ 0 := gj_neq hc670466 (show Int32.toInt 0 = 0 by decide)
              have bo670463' : gB o670463 1 1 := ⟨by omega, by omega⟩
              have bi670525 : gB z670455 97 122 := isP_1 x670464 (by omega)
              refine G_aload_n 2 dr_cX14_next_216 rfl ?_
              refine Gw_callV (As := []) (gV_ok D I) (cp_666647_Reader_word l hl0 D I P669275 F670447 q669277 q669278 p669279 g670430 p669281 g670430 p669283 p669281 (D.2 1000 32) p669286 p669287 p669288 qo669289 qo669290 p669291 f669292 hmq669277 hmq669278 he670451 he670450 bp669279 bg670430 bp669281 bg670430 bp669281 bp669286 bp669287 bp669288 bp669291 bf669292 (by have qa0 : Int32.toInt 0 = 0 := (by decide); omega) (by have qa0 : Int32.toInt 0 = 0 := (by decide); omega) (by first | assumption | exact cLt_of (by assumption) (by omega) (by omega)) x669294 x669295) dr_cX14_next_217 ⟨wr_7_225, wr_1_32, wr_7_228, by decide, rfl, (Nat.le_of_ble_eq_true rfl), (Nat.le_of_ble_eq_true rfl)⟩ wr_7_227 wr_p_76 hmq669277 he670451 rfl (show 0 + ((16 * (p669279.toInt - g670430.toInt)).toNat) ≤ ((16 * (p669279.toInt - p669280.toInt)).toNat) by first | omega | decide) (show 0 + ((160 * (p669279.toInt - g670430.toInt)).toNat) ≤ ((160 * (p669279.toInt - p669280.toInt)).toNat) by first | omega | decide) (Nat.le_of_ble_eq_true rfl) (fun r670529 w670530 dc670526 ds670527 hp670528 => ?_) (fun _ _ _ _ _ z => z.elim)
              obtain ⟨P670541, F670542, o670531, o670532, o670533, q670534, xt670540, rfl, rfl, hsb670543, hfr670544, he670545, he670546, hdc, hds, bo670531, bo670532, x670535, x670536, x670537, x670538, ht670539⟩ := hp670528
              have hm670547 : q669277 ∈ P670541 := hsb670543 q669277 hmq669277
              have hm670548 : q669278 ∈ P670541 := hsb670543 q669278 hmq669278
              have hsb670549 : rSub P669275 P670541 := rSub_tr (rSub_rf (P := P669275)) hsb670543
              have hfr670550 : rFr [q669277] P669275 F669276 F670542 := rFr_call (rSub_rf (P := P669275)) hfr670452 hfr670544 (fun b hb hn => ⟨(nm_c (fun e => hn (e ▸ List.mem_cons_self)) nm_n), (nm_c (fun e => hn (e ▸ List.mem_cons_self)) nm_n)⟩)
              have bo670533 := gB_any o670533
              change G _ _ _ _ _ _ _ _ _ _ _
              refine G_widen (cs' := (16 * (o670531.toInt - g670430.toInt)).toNat) (sl' := (160 * (o670531.toInt - g670430.toInt)).toNat) (by omega) (by omega) ?_
              refine G_goto 247 dr_cX14_next_220 (by decide +kernel) ?_
              exact G_vretA dr_cX14_next_247 rfl (show (16 * (o670531.toInt - g670430.toInt)).toNat ≤ ((16 * (p669279.toInt - p669280.toInt)).toNat) by omega) (show (160 * (o670531.toInt - g670430.toInt)).toNat ≤ ((160 * (p669279.toInt - p669280.toInt)).toNat) by omega) ⟨P670541, F670542, o670531, o670532, g670430, o670533, q670534, xt670540, rfl, rfl, hsb670549, hfr670550, he670545, he670546, (by omega), (by omega), bo670531, (gB_w bo670532 (by decide) (by decide)), bg670430, (by have qa0 : Int32.toInt 0 = 0 := (by decide); omega), (Or.inr (by omega)), (by have qa0 : Int32.toInt 0 = 0 := (by decide); omega), x670537, x670538, (fun R c1 c2 c3 c4 c5 c6 c7 c8 c9 c10 c11 c12 c13 => c3 g670430 z670455 o670463 xt670540 o670531 o670532 o670533 hx670439 r670454 hz670455 bz670455 hJ670457 bo670463 ht670465 r670524 bo670531 bo670532 ht670539)⟩
          refine G_iload_n 0 dr_cX14_next_151 rfl ?_
          refine G_bipush 45 dr_cX14_next_152 (by decide +kernel) ?_
          refine G_icmp_ne 207 dr_cX14_next_154 (by decide +kernel) (fun hc670551 => ?_) (fun hc670551 => ?_)
          · have r670552 : z670455.toInt ≠ 45 := gj_neq hc670551 (show Int32.toInt 45 = 45 by decide)
            refine G_iconst 0 dr_cX14_next_207 (by decide +kernel) ?_
            refine G_istore_n (L' := [(2, .int 0), (1, .int z670455), (0, .ref q669277)]) dr_cX14_next_208 (Nat.le_of_ble_eq_true rfl) rfl ?_
            refine G_lv (L' := [(2, .int 0), (1, .int z670455), (0, .ref q669277)]) [0, 1, 2] rfl ?_
            exact jn670456 (Or.inl r670552)
          · have r670553 : z670455.toInt = 45 := gj_eq hc670551 (show Int32.toInt 45 = 45 by decide)
            have bz670455' : gB z670455 45 45 := ⟨by omega, by omega⟩
            refine G_aload_n 1 dr_cX14_next_157 rfl ?_
            refine Gp_get 2 hmq669277 he670451 dr_cX14_next_158 (gk_X14 D I) (Nat.le_of_ble_eq_true rfl) wr_9_38 rfl ?_
            refine G_iconst 1 dr_cX14_next_161 (by decide +kernel) ?_
            refine G_iadd dr_cX14_next_162 (G_nam fun z670554 hz670554 => ?_)
            have ez670554 : z670554.toInt = g670430.toInt + 1 := by rw [gI_add hz670554 bg670430 (gBl (show Int32.toInt 1 = 1 by decide)) (by decide) (by decide), show Int32.toInt 1 = 1 from by decide]
            have bz670554 : gB z670554 1 8193 := gB_add (gI_add hz670554 bg670430 (gBl (show Int32.toInt 1 = 1 by decide)) (by decide) (by decide)) bg670430 (gBl (show Int32.toInt 1 = 1 by decide)) (by decide) (by decide)
            refine G_aload_n 1 dr_cX14_next_163 rfl ?_
            refine Gp_get 1 hmq669277 he670451 dr_cX14_next_164 (gk_X14 D I) (Nat.le_of_ble_eq_true rfl) wr_9_37 rfl ?_
            refine G_icmp_ge 207 dr_cX14_next_167 (by decide +kernel) (fun hc670555 => ?_) (fun hc670555 => ?_)
            · have r670556 : p669279.toInt ≤ z670554.toInt := gC_le hc670555
              refine G_iconst 0 dr_cX14_next_207 (by decide +kernel) ?_
              refine G_istore_n (L' := [(2, .int 0), (1, .int z670455), (0, .ref q669277)]) dr_cX14_next_208 (Nat.le_of_ble_eq_true rfl) rfl ?_
              refine G_lv (L' := [(2, .int 0), (1, .int z670455), (0, .ref q669277)]) [0, 1, 2] rfl ?_
              exact jn670456 (Or.inr (Or.inl ⟨z670554, r670553, ez670554, r670556⟩))
            · have r670557 : z670554.toInt < p669279.toInt := gC_nle hc670555
              have bz670554' : gB z670554 1 8191 := ⟨by omega, by omega⟩
              have bp669279' : gB p669279 2 8192 := ⟨by omega, by omega⟩
              refine G_aload_n 1 dr_cX14_next_170 rfl ?_
              refine Gp_get 0 hmq669277 he670451 dr_cX14_next_171 (gk_X14 D I) (Nat.le_of_ble_eq_true rfl) wr_9_36 rfl ?_
              refine G_aload_n 1 dr_cX14_next_174 rfl ?_
              refine Gp_get 2 hmq669277 he670451 dr_cX14_next_175 (gk_X14 D I) (Nat.le_of_ble_eq_true rfl) wr_9_38 rfl ?_
              refine G_iconst 1 dr_cX14_next_178 (by decide +kernel) ?_
              refine G_iadd dr_cX14_next_179 (G_eqi (y := z670554) hz670554.symm ?_)
              refine Gp_bald 1 hmq669278 he670450 dr_cX14_next_180 rfl (gB_in bz670554' (by decide) (by decide)) (G_nam fun z670558 hz670558 => ?_)
              have bz670558 : gB z670558 (-128) 127 := by rw [hz670558]; exact bf669292 _
              refine Gw_callS (As := [.int z670558]) (gV_ok D I) (cp_665041_Reader_isDigit l hl0 D I P669275 F670447 z670558 ) dr_cX14_next_181 ⟨wr_7_219, wr_1_32, wr_7_221, by decide, rfl, (Nat.le_of_ble_eq_true rfl), (Nat.le_of_ble_eq_true rfl)⟩ wr_7_220 (show 0 + 0 ≤ ((16 * (p669279.toInt - p669280.toInt)).toNat) by first | omega | decide) (show 0 + 0 ≤ ((160 * (p669279.toInt - p669280.toInt)).toNat) by first | omega | decide) (Nat.le_of_ble_eq_true rfl) (fun r670562 w670563 dc670559 ds670560 hp670561 => ?_) (fun _ _ _ _ _ z => z.elim)
              obtain ⟨o670564, rfl, rfl, hdc, hds, bo670564, x670565, ht670566⟩ := hp670561
              change G _ _ _ _ _ _ _ (.int o670564 :: _) _ _ _
              refine G_widen (cs' := 0) (sl' := 0) (by omega) (by omega) ?_
              refine G_if_eq 207 dr_cX14_next_184 (by decide +kernel) (fun hc670567 => ?_) (fun hc670567 => ?_)
              · have r670568 : o670564.toInt = 0 := gj_eq hc670567 (show Int32.toInt 0 = 0 by decide)
                have bo670564' : gB o670564 0 0 := ⟨by omega, by omega⟩
                refine G_iconst 0 dr_cX14_next_207 (by decide +kernel) ?_
                refine G_istore_n (L' := [(2, .int 0), (1, .int z670455), (0, .ref q669277)]) dr_cX14_next_208 (Nat.le_of_ble_eq_true rfl) rfl ?_
                refine G_lv (L' := [(2, .int 0), (1, .int z670455), (0, .ref q669277)]) [0, 1, 2] rfl ?_
                exact jn670456 (Or.inr (Or.inr (Or.inl ⟨z670554, z670558, o670564, r670553, ez670554, r670557, hz670558, bz670558, bo670564, ht670566, r670568⟩)))
              · have r670569 : o670564.toInt ≠ 0 := gj_neq hc670567 (show Int32.toInt 0 = 0 by decide)
                have bo670564' : gB o670564 1 1 := ⟨by omega, by omega⟩
                have bi670570 : gB z670558 48 57 := isP_1 x670565 (by omega)
                refine G_aload_n 1 dr_cX14_next_187 rfl ?_
                refine Gp_get 6 hmq669277 he670451 dr_cX14_next_188 (gk_X14 D I) (Nat.le_of_ble_eq_true rfl) wr_9_42 rfl ?_
                refine G_iconst 2 dr_cX14_next_191 (by decide +kernel) ?_
                refine G_icmp_eq 207 dr_cX14_next_192 (by decide +kernel) (fun hc670571 => ?_) (fun hc670571 => ?_)
                · have r670572 : p669281.toInt = 2 := gj_eq hc670571 (show Int32.toInt 2 = 2 by decide)
                  have bp669281' : gB p669281 2 2 := ⟨by omega, by omega⟩
                  refine G_iconst 0 dr_cX14_next_207 (by decide +kernel) ?_
                  refine G_istore_n (L' := [(2, .int 0), (1, .int z670455), (0, .ref q669277)]) dr_cX14_next_208 (Nat.le_of_ble_eq_true rfl) rfl ?_
                  refine G_lv (L' := [(2, .int 0), (1, .int z670455), (0, .ref q669277)]) [0, 1, 2] rfl ?_
                  exact jn670456 (Or.inr (Or.inr (Or.inr (Or.inl ⟨z670554, z670558, o670564, r670553, ez670554, r670557, hz670558, bz670558, bo670564, ht670566, r670569, r670572⟩))))
                · have r670573 : p669281.toInt ≠ 2 := gj_neq hc670571 (show Int32.toInt 2 = 2 by decide)
                  refine G_aload_n 1 dr_cX14_next_195 rfl ?_
                  refine Gp_get 6 hmq669277 he670451 dr_cX14_next_196 (gk_X14 D I) (Nat.le_of_ble_eq_true rfl) wr_9_42 rfl ?_
                  refine G_iconst 4 dr_cX14_next_199 (by decide +kernel) ?_
                  refine G_icmp_eq 207 dr_cX14_next_200 (by decide +kernel) (fun hc670574 => ?_) (fun hc670574 => ?_)
                  · have r670575 : p669281.toInt = 4 := gj_eq hc670574 (show Int32.toInt 4 = 4 by decide)
                    have bp669281' : gB p669281 4 4 := ⟨by omega, by omega⟩
                    refine G_iconst 0 dr_cX14_next_207 (by decide +kernel) ?_
                    refine G_istore_n (L' := [(2, .int 0), (1, .int z670455), (0, .ref q669277)]) dr_cX14_next_208 (Nat.le_of_ble_eq_true rfl) rfl ?_
                    refine G_lv (L' := [(2, .int 0), (1, .int z670455), (0, .ref q669277)]) [0, 1, 2] rfl ?_
                    exact jn670456 (Or.inr (Or.inr (Or.inr (Or.inr (⟨z670554, z670558, o670564, r670553, ez670554, r670557, hz670558, bz670558, bo670564, ht670566, r670569, r670573, r670575⟩)))))
                  · have r670576 : p669281.toInt ≠ 4 := gj_neq hc670574 (show Int32.toInt 4 = 4 by decide)
                    refine G_iconst 1 dr_cX14_next_203 (by decide +kernel) ?_
                    refine G_goto 208 dr_cX14_next_204 (by decide +kernel) ?_
                    refine G_istore_n (L' := [(2, .int 1), (1, .int z670455), (0, .ref q669277)]) dr_cX14_next_208 (Nat.le_of_ble_eq_true rfl) rfl ?_
                    clear jn670456 bz670554 bo670564'; try clear r670562; try clear w670563; try clear dc670559; try clear ds670560; try clear hp670561; try clear x670565
                    refine G_iload_n 1 dr_cX14_next_209 rfl ?_
                    refine Gw_callS (As := [.int z670455]) (gV_ok D I) (cp_666991_Reader_isLetter l hl0 D I P669275 F670447 z670455 ) dr_cX14_next_210 ⟨wr_7_222, wr_1_32, wr_7_224, by decide, rfl, (Nat.le_of_ble_eq_true rfl), (Nat.le_of_ble_eq_true rfl)⟩ wr_7_223 (show 0 + 0 ≤ ((16 * (p669279.toInt - p669280.toInt)).toNat) by first | omega | decide) (show 0 + 0 ≤ ((160 * (p669279.toInt - p669280.toInt)).toNat) by first | omega | decide) (Nat.le_of_ble_eq_true rfl) (fun r670580 w670581 dc670577 ds670578 hp670579 => ?_) (fun _ _ _ _ _ z => z.elim)
                    obtain ⟨o670582, rfl, rfl, hdc, hds, bo670582, x670583, ht670584⟩ := hp670579
                    change G _ _ _ _ _ _ _ (.int o670582 :: _) _ _ _
                    refine G_widen (cs' := 0) (sl' := 0) (by omega) (by omega) ?_
                    refine G_if_eq 223 dr_cX14_next_213 (by decide +kernel) (fun hc670585 => ?_) (fun hc670585 => ?_)
                    · have r670586 : o670582.toInt = 0 := gj_eq hc670585 (show Int32.toInt 0 = 0 by decide)
                      have bo670582' : gB o670582 0 0 := ⟨by omega, by omega⟩
                      clear bo670582'; try clear r670580; try clear w670581; try clear dc670577; try clear ds670578; try clear hp670579; try clear x670583
                      refine G_iload_n 1 dr_cX14_next_223 rfl ?_
                      refine Gw_callS (As := [.int z670455]) (gV_ok D I) (cp_665041_Reader_isDigit l hl0 D I P669275 F670447 z670455 ) dr_cX14_next_224 ⟨wr_7_219, wr_1_32, wr_7_221, by decide, rfl, (Nat.le_of_ble_eq_true rfl), (Nat.le_of_ble_eq_true rfl)⟩ wr_7_220 (show 0 + 0 ≤ ((16 * (p669279.toInt - p669280.toInt)).toNat) by first | omega | decide) (show 0 + 0 ≤ ((160 * (p669279.toInt - p669280.toInt)).toNat) by first | omega | decide) (Nat.le_of_ble_eq_true rfl) (fun r670590 w670591 dc670587 ds670588 hp670589 => ?_) (fun _ _ _ _ _ z => z.elim)
                      obtain ⟨o670592, rfl, rfl, hdc, hds, bo670592, x670593, ht670594⟩ := hp670589
                      change G _ _ _ _ _ _ _ (.int o670592 :: _) _ _ _
                      refine G_widen (cs' := 0) (sl' := 0) (by omega) (by omega) ?_
                      refine G_if_ne 234 dr_cX14_next_227 (by decide +kernel) (fun hc670595 => ?_) (fun hc670595 => ?_)
                      · have r670596 : o670592.toInt ≠ 0 := gj_neq hc670595 (show Int32.toInt 0 = 0 by decide)
                        have bo670592' : gB o670592 1 1 := ⟨by omega, by omega⟩
                        have bi670597 : gB z670455 48 57 := isP_1 x670593 (by omega)
                        refine G_aload_n 2 dr_cX14_next_234 rfl ?_
                        refine G_iload_n 0 dr_cX14_next_235 rfl ?_
                        refine Gw_callV (As := [.int 1]) (gV_ok D I) (cp_665005_Reader_number l hl0 D I P669275 F670447 q669277 q669278 1 p669279 g670430 p669281 g670430 p669283 p669281 (D.2 1000 32) p669286 p669287 p669288 qo669289 qo669290 p669291 f669292 hmq669277 hmq669278 he670451 he670450 (gB_w (gBl (show Int32.toInt 1 = 1 by decide)) (by decide) (by decide)) (gB_w bp669279' (by decide) (by decide)) bg670430 bp669281 bg670430 bp669281 bp669286 bp669287 bp669288 bp669291 bf669292 (by have qa0 : Int32.toInt 1 = 1 := (by decide); omega) (by have qa0 : Int32.toInt 1 = 1 := (by decide); omega) (by first | assumption | exact cDg_no (by omega) | exact cDg_no (by decide) | exact cDg_of (by assumption) (by omega) (by omega)) x669294 x669295) dr_cX14_next_236 ⟨wr_8_218, wr_1_32, wr_8_221, by decide, rfl, (Nat.le_of_ble_eq_true rfl), (Nat.le_of_ble_eq_true rfl)⟩ wr_8_220 wr_p_77 hmq669277 he670451 rfl (show 0 + ((16 * (p669279.toInt - g670430.toInt)).toNat) ≤ ((16 * (p669279.toInt - p669280.toInt)).toNat) by first | omega | decide) (show 0 + ((160 * (p669279.toInt - g670430.toInt)).toNat) ≤ ((160 * (p669279.toInt - p669280.toInt)).toNat) by first | omega | decide) (Nat.le_of_ble_eq_true rfl) (fun r670601 w670602 dc670598 ds670599 hp670600 => ?_) (fun _ _ _ _ _ z => z.elim)
                        obtain ⟨F670612, o670603, o670604, o670605, xt670611, rfl, rfl, hfr670614, he670615, he670616, hdc, hds, bo670603, bo670604, x670606, x670607, x670608, x670609, ht670610⟩ := hp670600
                        have hfr670617 : rFr [q669277] P669275 F669276 F670612 := rFr_call (rSub_rf (P := P669275)) hfr670452 hfr670614 (fun b hb hn => ⟨(nm_c (fun e => hn (e ▸ List.mem_cons_self)) nm_n), (nm_c (fun e => hn (e ▸ List.mem_cons_self)) nm_n)⟩)
                        have bo670605 := gB_any o670605
                        change G _ _ _ _ _ _ _ _ _ _ _
                        refine G_widen (cs' := (16 * (o670603.toInt - g670430.toInt)).toNat) (sl' := (160 * (o670603.toInt - g670430.toInt)).toNat) (by omega) (by omega) ?_
                        refine G_goto 247 dr_cX14_next_239 (by decide +kernel) ?_
                        exact G_vretA dr_cX14_next_247 rfl (show (16 * (o670603.toInt - g670430.toInt)).toNat ≤ ((16 * (p669279.toInt - p669280.toInt)).toNat) by omega) (show (160 * (o670603.toInt - g670430.toInt)).toNat ≤ ((160 * (p669279.toInt - p669280.toInt)).toNat) by omega) ⟨P669275, F670612, o670603, o670604, g670430, o670605, (D.2 1000 32), xt670611, rfl, rfl, (rSub_rf (P := P669275)), hfr670617, he670615, he670616, (by omega), (by omega), bo670603, (gB_w bo670604 (by decide) (by decide)), bg670430, (by have qa0 : Int32.toInt 1 = 1 := (by decide); omega), (Or.inr (by omega)), (by have qa0 : Int32.toInt 1 = 1 := (by decide); omega), (by first | exact tP_no (by omega) (by omega) | assumption), x670609, (fun R c1 c2 c3 c4 c5 c6 c7 c8 c9 c10 c11 c12 c13 => c4 g670430 z670455 z670554 z670558 o670564 o670582 o670592 xt670611 o670603 o670604 o670605 hx670439 r670454 hz670455 bz670455 r670553 ez670554 r670557 hz670558 bz670558 bo670564 ht670566 r670569 r670573 r670576 bo670582 ht670584 r670586 bo670592 ht670594 r670596 bo670603 bo670604 ht670610)⟩
                      · have r670618 : o670592.toInt = 0 := gj_eq hc670595 (show Int32.toInt 0 = 0 by decide)
                        have bo670592' : gB o670592 0 0 := ⟨by omega, by omega⟩
                        refine G_iload_n 0 dr_cX14_next_230 rfl ?_
                        refine G_if_eq 242 dr_cX14_next_231 (by decide +kernel) (fun hc => absurd hc (by decide)) (fun _ => ?_)
                        refine G_aload_n 2 dr_cX14_next_234 rfl ?_
                        refine G_iload_n 0 dr_cX14_next_235 rfl ?_
                        refine Gw_callV (As := [.int 1]) (gV_ok D I) (cp_665005_Reader_number l hl0 D I P669275 F670447 q669277 q669278 1 p669279 g670430 p669281 g670430 p669283 p669281 (D.2 1000 32) p669286 p669287 p669288 qo669289 qo669290 p669291 f669292 hmq669277 hmq669278 he670451 he670450 (gB_w (gBl (show Int32.toInt 1 = 1 by decide)) (by decide) (by decide)) (gB_w bp669279' (by decide) (by decide)) bg670430 bp669281 bg670430 bp669281 bp669286 bp669287 bp669288 bp669291 bf669292 (by have qa0 : Int32.toInt 1 = 1 := (by decide); omega) (by have qa0 : Int32.toInt 1 = 1 := (by decide); omega) (by first | assumption | exact cDg_no (by omega) | exact cDg_no (by decide) | exact cDg_of (by assumption) (by omega) (by omega)) x669294 x669295) dr_cX14_next_236 ⟨wr_8_218, wr_1_32, wr_8_221, by decide, rfl, (Nat.le_of_ble_eq_true rfl), (Nat.le_of_ble_eq_true rfl)⟩ wr_8_220 wr_p_77 hmq669277 he670451 rfl (show 0 + ((16 * (p669279.toInt - g670430.toInt)).toNat) ≤ ((16 * (p669279.toInt - p669280.toInt)).toNat) by first | omega | decide) (show 0 + ((160 * (p669279.toInt - g670430.toInt)).toNat) ≤ ((160 * (p669279.toInt - p669280.toInt)).toNat) by first | omega | decide) (Nat.le_of_ble_eq_true rfl) (fun r670622 w670623 dc670619 ds670620 hp670621 => ?_) (fun _ _ _ _ _ z => z.elim)
                        obtain ⟨F670633, o670624, o670625, o670626, xt670632, rfl, rfl, hfr670635, he670636, he670637, hdc, hds, bo670624, bo670625, x670627, x670628, x670629, x670630, ht670631⟩ := hp670621
                        have hfr670638 : rFr [q669277] P669275 F669276 F670633 := rFr_call (rSub_rf (P := P669275)) hfr670452 hfr670635 (fun b hb hn => ⟨(nm_c (fun e => hn (e ▸ List.mem_cons_self)) nm_n), (nm_c (fun e => hn (e ▸ List.mem_cons_self)) nm_n)⟩)
                        have bo670626 := gB_any o670626
                        change G _ _ _ _ _ _ _ _ _ _ _
                        refine G_widen (cs' := (16 * (o670624.toInt - g670430.toInt)).toNat) (sl' := (160 * (o670624.toInt - g670430.toInt)).toNat) (by omega) (by omega) ?_
                        refine G_goto 247 dr_cX14_next_239 (by decide +kernel) ?_
                        exact G_vretA dr_cX14_next_247 rfl (show (16 * (o670624.toInt - g670430.toInt)).toNat ≤ ((16 * (p669279.toInt - p669280.toInt)).toNat) by omega) (show (160 * (o670624.toInt - g670430.toInt)).toNat ≤ ((160 * (p669279.toInt - p669280.toInt)).toNat) by omega) ⟨P669275, F670633, o670624, o670625, g670430, o670626, (D.2 1000 32), xt670632, rfl, rfl, (rSub_rf (P := P669275)), hfr670638, he670636, he670637, (by omega), (by omega), bo670624, (gB_w bo670625 (by decide) (by decide)), bg670430, (by have qa0 : Int32.toInt 1 = 1 := (by decide); omega), (Or.inr (by omega)), (by have qa0 : Int32.toInt 1 = 1 := (by decide); omega), (by first | exact tP_no (by omega) (by omega) | assumption), x670630, (fun R c1 c2 c3 c4 c5 c6 c7 c8 c9 c10 c11 c12 c13 => c5 g670430 z670455 z670554 z670558 o670564 o670582 o670592 xt670632 o670624 o670625 o670626 hx670439 r670454 hz670455 bz670455 r670553 ez670554 r670557 hz670558 bz670558 bo670564 ht670566 r670569 r670573 r670576 bo670582 ht670584 r670586 bo670592 ht670594 r670618 bo670624 bo670625 ht670631)⟩
                    · have r670639 : o670582.toInt ≠ 0 := gj_neq hc670585 (show Int32.toInt 0 = 0 by decide)
                      have bo670582' : gB o670582 1 1 := ⟨by omega, by omega⟩
                      have bi670640 : gB z670455 97 122 := isP_1 x670583 (by omega)
                      refine G_aload_n 2 dr_cX14_next_216 rfl ?_
                      refine Gw_callV (As := []) (gV_ok D I) (cp_666647_Reader_word l hl0 D I P669275 F670447 q669277 q669278 p669279 g670430 p669281 g670430 p669283 p669281 (D.2 1000 32) p669286 p669287 p669288 qo669289 qo669290 p669291 f669292 hmq669277 hmq669278 he670451 he670450 (gB_w bp669279' (by decide) (by decide)) bg670430 bp669281 bg670430 bp669281 bp669286 bp669287 bp669288 bp669291 bf669292 (by have qa0 : Int32.toInt 1 = 1 := (by decide); omega) (by have qa0 : Int32.toInt 1 = 1 := (by decide); omega) (by first | assumption | exact cLt_of (by assumption) (by omega) (by omega)) x669294 x669295) dr_cX14_next_217 ⟨wr_7_225, wr_1_32, wr_7_228, by decide, rfl, (Nat.le_of_ble_eq_true rfl), (Nat.le_of_ble_eq_true rfl)⟩ wr_7_227 wr_p_76 hmq669277 he670451 rfl (show 0 + ((16 * (p669279.toInt - g670430.toInt)).toNat) ≤ ((16 * (p669279.toInt - p669280.toInt)).toNat) by first | omega | decide) (show 0 + ((160 * (p669279.toInt - g670430.toInt)).toNat) ≤ ((160 * (p669279.toInt - p669280.toInt)).toNat) by first | omega | decide) (Nat.le_of_ble_eq_true rfl) (fun r670644 w670645 dc670641 ds670642 hp670643 => ?_) (fun _ _ _ _ _ z => z.elim)
                      obtain ⟨P670656, F670657, o670646, o670647, o670648, q670649, xt670655, rfl, rfl, hsb670658, hfr670659, he670660, he670661, hdc, hds, bo670646, bo670647, x670650, x670651, x670652, x670653, ht670654⟩ := hp670643
                      have hm670662 : q669277 ∈ P670656 := hsb670658 q669277 hmq669277
                      have hm670663 : q669278 ∈ P670656 := hsb670658 q669278 hmq669278
                      have hsb670664 : rSub P669275 P670656 := rSub_tr (rSub_rf (P := P669275)) hsb670658
                      have hfr670665 : rFr [q669277] P669275 F669276 F670657 := rFr_call (rSub_rf (P := P669275)) hfr670452 hfr670659 (fun b hb hn => ⟨(nm_c (fun e => hn (e ▸ List.mem_cons_self)) nm_n), (nm_c (fun e => hn (e ▸ List.mem_cons_self)) nm_n)⟩)
                      have bo670648 := gB_any o670648
                      change G _ _ _ _ _ _ _ _ _ _ _
                      refine G_widen (cs' := (16 * (o670646.toInt - g670430.toInt)).toNat) (sl' := (160 * (o670646.toInt - g670430.toInt)).toNat) (by omega) (by omega) ?_
                      refine G_goto 247 dr_cX14_next_220 (by decide +kernel) ?_
                      exact G_vretA dr_cX14_next_247 rfl (show (16 * (o670646.toInt - g670430.toInt)).toNat ≤ ((16 * (p669279.toInt - p669280.toInt)).toNat) by omega) (show (160 * (o670646.toInt - g670430.toInt)).toNat ≤ ((160 * (p669279.toInt - p669280.toInt)).toNat) by omega) ⟨P670656, F670657, o670646, o670647, g670430, o670648, q670649, xt670655, rfl, rfl, hsb670664, hfr670665, he670660, he670661, (by omega), (by omega), bo670646, (gB_w bo670647 (by decide) (by decide)), bg670430, (by have qa0 : Int32.toInt 1 = 1 := (by decide); omega), (Or.inr (by omega)), (by have qa0 : Int32.toInt 1 = 1 := (by decide); omega), x670652, x670653, (fun R c1 c2 c3 c4 c5 c6 c7 c8 c9 c10 c11 c12 c13 => c6 g670430 z670455 z670554 z670558 o670564 o670582 xt670655 o670646 o670647 o670648 hx670439 r670454 hz670455 bz670455 r670553 ez670554 r670557 hz670558 bz670558 bo670564 ht670566 r670569 r670573 r670576 bo670582 ht670584 r670639 bo670646 bo670647 ht670654)⟩
        · have r670666 : g670430.toInt = p669279.toInt := gC_eq hc670453
          refine G_aload_n 0 dr_cX14_next_135 rfl ?_
          refine G_iconst 0 dr_cX14_next_136 (by decide +kernel) ?_
          refine Gp_put 3 hmq669277 he670451 dr_cX14_next_137 (gk_X14 D I) (Nat.le_of_ble_eq_true rfl) wr_9_39 rfl rfl rfl (Nat.le_of_ble_eq_true rfl) (fun F670667 e670668 n670669 => ?_)
          have he670670 : F670667 q669278 = .inl (I .byte, 8192, .inl f669292) := (n670669 q669278 (rn_ao he670450 he670451)).trans he670450
          have he670671 : F670667 q669277 = .inr (19, [.ref q669278, .int p669279, .int g670430, .int 0, .int g670430, .int p669283, .int p669281, .ref (D.2 1000 32), .int p669286, .int p669287, .int p669288, .ref qo669289, .ref qo669290, .int p669291]) := e670668
          have hfr670672 : rFr [q669277] P669275 F669276 F670667 := rFr_put' List.mem_cons_self hfr670452 n670669
          exact G_vretA dr_cX14_next_140 rfl (show 0 ≤ ((16 * (p669279.toInt - p669280.toInt)).toNat) by omega) (show 0 ≤ ((160 * (p669279.toInt - p669280.toInt)).toNat) by omega) ⟨P669275, F670667, g670430, 0, g670430, p669283, (D.2 1000 32), (0, fun _ => 0), rfl, rfl, (rSub_rf (P := P669275)), hfr670672, he670671, he670670, (by omega), (by omega), bg670430, (gB_w (gBl (show Int32.toInt 0 = 0 by decide)) (by decide) (by decide)), bg670430, (by have qa0 : Int32.toInt 0 = 0 := (by decide); omega), (Or.inl (by decide)), (by have qa0 : Int32.toInt 0 = 0 := (by decide); omega), (tP_no (by decide) (by decide)), (vP_no (by decide) (by decide)), (fun R c1 c2 c3 c4 c5 c6 c7 c8 c9 c10 c11 c12 c13 => c7 g670430 hx670439 r670666)⟩
      · have r670673 : g670430.toInt < p669279.toInt := gC_nle hc670437
        have bg670430' : gB g670430 0 8191 := ⟨by omega, by omega⟩
        have bp669279' : gB p669279 1 8192 := ⟨by omega, by omega⟩
        refine G_aload_n 0 dr_cX14_next_19 rfl ?_
        refine Gp_get 0 hmq669277 he670432 dr_cX14_next_20 (gk_X14 D I) (Nat.le_of_ble_eq_true rfl) wr_9_36 rfl ?_
        refine G_aload_n 0 dr_cX14_next_23 rfl ?_
        refine Gp_get 2 hmq669277 he670432 dr_cX14_next_24 (gk_X14 D I) (Nat.le_of_ble_eq_true rfl) wr_9_38 rfl ?_
        refine Gp_bald 1 hmq669278 he670433 dr_cX14_next_27 rfl (gB_in bg670430' (by decide) (by decide)) (G_nam fun z670674 hz670674 => ?_)
        have bz670674 : gB z670674 (-128) 127 := by rw [hz670674]; exact bf669292 _
        refine G_istore_n (L' := [(1, .int z670674), (0, .ref q669277)]) dr_cX14_next_28 (Nat.le_of_ble_eq_true rfl) rfl ?_
        refine G_iload_n 0 dr_cX14_next_29 rfl ?_
        refine G_bipush 59 dr_cX14_next_30 (by decide +kernel) ?_
        refine G_icmp_ne 73 dr_cX14_next_32 (by decide +kernel) (fun hc670675 => ?_) (fun hc670675 => ?_)
        · have r670676 : z670674.toInt ≠ 59 := gj_neq hc670675 (show Int32.toInt 59 = 59 by decide)
          refine G_iload_n 0 dr_cX14_next_73 rfl ?_
          refine G_bipush 9 dr_cX14_next_74 (by decide +kernel) ?_
          refine G_icmp_eq 97 dr_cX14_next_76 (by decide +kernel) (fun hc670677 => ?_) (fun hc670677 => ?_)
          · have r670678 : z670674.toInt = 9 := gj_eq hc670677 (show Int32.toInt 9 = 9 by decide)
            have bz670674' : gB z670674 9 9 := ⟨by omega, by omega⟩
            refine G_aload_n 1 dr_cX14_next_97 rfl ?_
            refine G_dup dr_cX14_next_98 rfl ?_
            refine Gp_get 2 hmq669277 he670432 dr_cX14_next_99 (gk_X14 D I) (Nat.le_of_ble_eq_true rfl) wr_9_38 rfl ?_
            refine G_iconst 1 dr_cX14_next_102 (by decide +kernel) ?_
            refine G_iadd dr_cX14_next_103 (G_nam fun z670679 hz670679 => ?_)
            have ez670679 : z670679.toInt = g670430.toInt + 1 := by rw [gI_add hz670679 bg670430' (gBl (show Int32.toInt 1 = 1 by decide)) (by decide) (by decide), show Int32.toInt 1 = 1 from by decide]
            have bz670679 : gB z670679 1 8192 := gB_add (gI_add hz670679 bg670430' (gBl (show Int32.toInt 1 = 1 by decide)) (by decide) (by decide)) bg670430' (gBl (show Int32.toInt 1 = 1 by decide)) (by decide) (by decide)
            refine Gp_put 2 hmq669277 he670432 dr_cX14_next_104 (gk_X14 D I) (Nat.le_of_ble_eq_true rfl) wr_9_38 rfl rfl rfl (Nat.le_of_ble_eq_true rfl) (fun F670680 e670681 n670682 => ?_)
            have he670683 : F670680 q669278 = .inl (I .byte, 8192, .inl f669292) := (n670682 q669278 (rn_ao he670433 he670432)).trans he670433
            have he670684 : F670680 q669277 = .inr (19, [.ref q669278, .int p669279, .int z670679, .int p669281, .int p669282, .int p669283, .int p669281, .ref qo669285, .int p669286, .int p669287, .int p669288, .ref qo669289, .ref qo669290, .int p669291]) := e670681
            have hfr670685 : rFr [q669277] P669275 F669276 F670680 := rFr_put' List.mem_cons_self hfr670434 n670682
            have x670686 : g670430.toInt < z670679.toInt := by first | omega | exact chNe (a := g670430) (b := z670679) (by assumption) (by assumption) (by omega) (by omega)
            refine G_goto 8 dr_cX14_next_107 (by decide +kernel) ?_
            refine G_lv (L' := [(0, .ref q669277)]) [1] rfl ?_
            exact ih8_670436 F670680 z670679 (gB_w bz670679 (by decide) (by decide)) hfr670685 he670684 he670683 (by omega) (by omega) (fun k e1 ht => kt8_670436 k e1 (fun R c1 c2 c3 c4 c5 c6 c7 => c2 g670430 z670674 z670679 k e1 bg670430 r670673 hz670674 bz670674 r670676 r670678 ez670679 (ht R c1 c2 c3 c4 c5 c6 c7))) (by omega)
          · have r670687 : z670674.toInt ≠ 9 := gj_neq hc670677 (show Int32.toInt 9 = 9 by decide)
            refine G_iload_n 0 dr_cX14_next_79 rfl ?_
            refine G_bipush 10 dr_cX14_next_80 (by decide +kernel) ?_
            refine G_icmp_eq 97 dr_cX14_next_82 (by decide +kernel) (fun hc670688 => ?_) (fun hc670688 => ?_)
            · have r670689 : z670674.toInt = 10 := gj_eq hc670688 (show Int32.toInt 10 = 10 by decide)
              have bz670674' : gB z670674 10 10 := ⟨by omega, by omega⟩
              refine G_aload_n 1 dr_cX14_next_97 rfl ?_
              refine G_dup dr_cX14_next_98 rfl ?_
              refine Gp_get 2 hmq669277 he670432 dr_cX14_next_99 (gk_X14 D I) (Nat.le_of_ble_eq_true rfl) wr_9_38 rfl ?_
              refine G_iconst 1 dr_cX14_next_102 (by decide +kernel) ?_
              refine G_iadd dr_cX14_next_103 (G_nam fun z670690 hz670690 => ?_)
              have ez670690 : z670690.toInt = g670430.toInt + 1 := by rw [gI_add hz670690 bg670430' (gBl (show Int32.toInt 1 = 1 by decide)) (by decide) (by decide), show Int32.toInt 1 = 1 from by decide]
              have bz670690 : gB z670690 1 8192 := gB_add (gI_add hz670690 bg670430' (gBl (show Int32.toInt 1 = 1 by decide)) (by decide) (by decide)) bg670430' (gBl (show Int32.toInt 1 = 1 by decide)) (by decide) (by decide)
              refine Gp_put 2 hmq669277 he670432 dr_cX14_next_104 (gk_X14 D I) (Nat.le_of_ble_eq_true rfl) wr_9_38 rfl rfl rfl (Nat.le_of_ble_eq_true rfl) (fun F670691 e670692 n670693 => ?_)
              have he670694 : F670691 q669278 = .inl (I .byte, 8192, .inl f669292) := (n670693 q669278 (rn_ao he670433 he670432)).trans he670433
              have he670695 : F670691 q669277 = .inr (19, [.ref q669278, .int p669279, .int z670690, .int p669281, .int p669282, .int p669283, .int p669281, .ref qo669285, .int p669286, .int p669287, .int p669288, .ref qo669289, .ref qo669290, .int p669291]) := e670692
              have hfr670696 : rFr [q669277] P669275 F669276 F670691 := rFr_put' List.mem_cons_self hfr670434 n670693
              have x670697 : g670430.toInt < z670690.toInt := by first | omega | exact chNe (a := g670430) (b := z670690) (by assumption) (by assumption) (by omega) (by omega)
              refine G_goto 8 dr_cX14_next_107 (by decide +kernel) ?_
              refine G_lv (L' := [(0, .ref q669277)]) [1] rfl ?_
              exact ih8_670436 F670691 z670690 (gB_w bz670690 (by decide) (by decide)) hfr670696 he670695 he670694 (by omega) (by omega) (fun k e1 ht => kt8_670436 k e1 (fun R c1 c2 c3 c4 c5 c6 c7 => c3 g670430 z670674 z670690 k e1 bg670430 r670673 hz670674 bz670674 r670676 r670687 r670689 ez670690 (ht R c1 c2 c3 c4 c5 c6 c7))) (by omega)
            · have r670698 : z670674.toInt ≠ 10 := gj_neq hc670688 (show Int32.toInt 10 = 10 by decide)
              refine G_iload_n 0 dr_cX14_next_85 rfl ?_
              refine G_bipush 13 dr_cX14_next_86 (by decide +kernel) ?_
              refine G_icmp_eq 97 dr_cX14_next_88 (by decide +kernel) (fun hc670699 => ?_) (fun hc670699 => ?_)
              · have r670700 : z670674.toInt = 13 := gj_eq hc670699 (show Int32.toInt 13 = 13 by decide)
                have bz670674' : gB z670674 13 13 := ⟨by omega, by omega⟩
                refine G_aload_n 1 dr_cX14_next_97 rfl ?_
                refine G_dup dr_cX14_next_98 rfl ?_
                refine Gp_get 2 hmq669277 he670432 dr_cX14_next_99 (gk_X14 D I) (Nat.le_of_ble_eq_true rfl) wr_9_38 rfl ?_
                refine G_iconst 1 dr_cX14_next_102 (by decide +kernel) ?_
                refine G_iadd dr_cX14_next_103 (G_nam fun z670701 hz670701 => ?_)
                have ez670701 : z670701.toInt = g670430.toInt + 1 := by rw [gI_add hz670701 bg670430' (gBl (show Int32.toInt 1 = 1 by decide)) (by decide) (by decide), show Int32.toInt 1 = 1 from by decide]
                have bz670701 : gB z670701 1 8192 := gB_add (gI_add hz670701 bg670430' (gBl (show Int32.toInt 1 = 1 by decide)) (by decide) (by decide)) bg670430' (gBl (show Int32.toInt 1 = 1 by decide)) (by decide) (by decide)
                refine Gp_put 2 hmq669277 he670432 dr_cX14_next_104 (gk_X14 D I) (Nat.le_of_ble_eq_true rfl) wr_9_38 rfl rfl rfl (Nat.le_of_ble_eq_true rfl) (fun F670702 e670703 n670704 => ?_)
                have he670705 : F670702 q669278 = .inl (I .byte, 8192, .inl f669292) := (n670704 q669278 (rn_ao he670433 he670432)).trans he670433
                have he670706 : F670702 q669277 = .inr (19, [.ref q669278, .int p669279, .int z670701, .int p669281, .int p669282, .int p669283, .int p669281, .ref qo669285, .int p669286, .int p669287, .int p669288, .ref qo669289, .ref qo669290, .int p669291]) := e670703
                have hfr670707 : rFr [q669277] P669275 F669276 F670702 := rFr_put' List.mem_cons_self hfr670434 n670704
                have x670708 : g670430.toInt < z670701.toInt := by first | omega | exact chNe (a := g670430) (b := z670701) (by assumption) (by assumption) (by omega) (by omega)
                refine G_goto 8 dr_cX14_next_107 (by decide +kernel) ?_
                refine G_lv (L' := [(0, .ref q669277)]) [1] rfl ?_
                exact ih8_670436 F670702 z670701 (gB_w bz670701 (by decide) (by decide)) hfr670707 he670706 he670705 (by omega) (by omega) (fun k e1 ht => kt8_670436 k e1 (fun R c1 c2 c3 c4 c5 c6 c7 => c4 g670430 z670674 z670701 k e1 bg670430 r670673 hz670674 bz670674 r670676 r670687 r670698 r670700 ez670701 (ht R c1 c2 c3 c4 c5 c6 c7))) (by omega)
              · have r670709 : z670674.toInt ≠ 13 := gj_neq hc670699 (show Int32.toInt 13 = 13 by decide)
                refine G_iload_n 0 dr_cX14_next_91 rfl ?_
                refine G_bipush 32 dr_cX14_next_92 (by decide +kernel) ?_
                refine G_icmp_ne 110 dr_cX14_next_94 (by decide +kernel) (fun hc670710 => ?_) (fun hc670710 => ?_)
                · have r670711 : z670674.toInt ≠ 32 := gj_neq hc670710 (show Int32.toInt 32 = 32 by decide)
                  have hx670712 : tl_RReader_next_8 p669279 f669292 p669280 110 g670430 := kt8_670436 110 g670430 (fun R c1 c2 c3 c4 c5 c6 c7 => c5 g670430 z670674 bg670430 r670673 hz670674 bz670674 r670676 r670687 r670698 r670709 r670711)
                  clear he669300 he669301 hfr669302
                  refine G_aload_n 1 dr_cX14_next_110 rfl ?_
                  refine G_aload_n 1 dr_cX14_next_111 rfl ?_
                  refine Gp_get 2 hmq669277 he670432 dr_cX14_next_112 (gk_X14 D I) (Nat.le_of_ble_eq_true rfl) wr_9_38 rfl ?_
                  refine Gp_put 4 hmq669277 he670432 dr_cX14_next_115 (gk_X14 D I) (Nat.le_of_ble_eq_true rfl) wr_9_40 rfl rfl rfl (Nat.le_of_ble_eq_true rfl) (fun F670713 e670714 n670715 => ?_)
                  have he670716 : F670713 q669278 = .inl (I .byte, 8192, .inl f669292) := (n670715 q669278 (rn_ao he670433 he670432)).trans he670433
                  have he670717 : F670713 q669277 = .inr (19, [.ref q669278, .int p669279, .int g670430, .int p669281, .int g670430, .int p669283, .int p669281, .ref qo669285, .int p669286, .int p669287, .int p669288, .ref qo669289, .ref qo669290, .int p669291]) := e670714
                  have hfr670718 : rFr [q669277] P669275 F669276 F670713 := rFr_put' List.mem_cons_self hfr670434 n670715
                  refine G_aload_n 1 dr_cX14_next_118 rfl ?_
                  refine G_ldcK (a := D.2 1000 32) dr_cX14_next_119 (fun _ _ _ h => gx_vk 32 rfl rfl h) ?_
                  have hl32_670718 : (sb_32.length : Int) = 0 := rfl
                  refine Gp_put 7 hmq669277 he670717 dr_cX14_next_121 (gk_X14 D I) (Nat.le_of_ble_eq_true rfl) wr_9_43 rfl rfl rfl (Nat.le_of_ble_eq_true rfl) (fun F670720 e670721 n670722 => ?_)
                  have he670723 : F670720 q669278 = .inl (I .byte, 8192, .inl f669292) := (n670722 q669278 (rn_ao he670716 he670717)).trans he670716
                  have he670724 : F670720 q669277 = .inr (19, [.ref q669278, .int p669279, .int g670430, .int p669281, .int g670430, .int p669283, .int p669281, .ref (D.2 1000 32), .int p669286, .int p669287, .int p669288, .ref qo669289, .ref qo669290, .int p669291]) := e670721
                  have hfr670725 : rFr [q669277] P669275 F669276 F670720 := rFr_put' List.mem_cons_self hfr670718 n670722
                  clear he670716 he670717 hfr670718
                  refine G_aload_n 1 dr_cX14_next_124 rfl ?_
                  refine Gp_get 2 hmq669277 he670724 dr_cX14_next_125 (gk_X14 D I) (Nat.le_of_ble_eq_true rfl) wr_9_38 rfl ?_
                  refine G_aload_n 1 dr_cX14_next_128 rfl ?_
                  refine Gp_get 1 hmq669277 he670724 dr_cX14_next_129 (gk_X14 D I) (Nat.le_of_ble_eq_true rfl) wr_9_37 rfl ?_
                  refine G_icmp_ne 141 dr_cX14_next_132 (by decide +kernel) (fun hc670726 => ?_) (fun hc670726 => ?_)
                  · have r670727 : g670430.toInt ≠ p669279.toInt := gC_ne hc670726
                    refine G_aload_n 1 dr_cX14_next_141 rfl ?_
                    refine Gp_get 0 hmq669277 he670724 dr_cX14_next_142 (gk_X14 D I) (Nat.le_of_ble_eq_true rfl) wr_9_36 rfl ?_
                    refine G_aload_n 1 dr_cX14_next_145 rfl ?_
                    refine Gp_get 2 hmq669277 he670724 dr_cX14_next_146 (gk_X14 D I) (Nat.le_of_ble_eq_true rfl) wr_9_38 rfl ?_
                    refine Gp_bald 1 hmq669278 he670723 dr_cX14_next_149 rfl (gB_in bg670430' (by decide) (by decide)) (G_eqi (y := z670674) hz670674.symm ?_)
                    refine G_istore_n (L' := [(1, .int z670674), (0, .ref q669277)]) dr_cX14_next_150 (Nat.le_of_ble_eq_true rfl) rfl ?_
                    have jn670728 : ((z670674.toInt ≠ 45) ∨ (∃ (y1 : Int32), z670674.toInt = 45 ∧ y1.toInt = g670430.toInt + 1 ∧ p669279.toInt ≤ y1.toInt) ∨ (∃ (y1 : Int32) (y2 : Int32) (y3 : Int32), z670674.toInt = 45 ∧ y1.toInt = g670430.toInt + 1 ∧ y1.toInt < p669279.toInt ∧ y2 = f669292 y1.toNatClampNeg ∧ gB y2 (-128) 127 ∧ gB y3 0 1 ∧ tr_RReader_isDigit2 y2 y3 ∧ y3.toInt = 0) ∨ (∃ (y1 : Int32) (y2 : Int32) (y3 : Int32), z670674.toInt = 45 ∧ y1.toInt = g670430.toInt + 1 ∧ y1.toInt < p669279.toInt ∧ y2 = f669292 y1.toNatClampNeg ∧ gB y2 (-128) 127 ∧ gB y3 0 1 ∧ tr_RReader_isDigit2 y2 y3 ∧ y3.toInt ≠ 0 ∧ p669281.toInt = 2) ∨ (∃ (y1 : Int32) (y2 : Int32) (y3 : Int32), z670674.toInt = 45 ∧ y1.toInt = g670430.toInt + 1 ∧ y1.toInt < p669279.toInt ∧ y2 = f669292 y1.toNatClampNeg ∧ gB y2 (-128) 127 ∧ gB y3 0 1 ∧ tr_RReader_isDigit2 y2 y3 ∧ y3.toInt ≠ 0 ∧ p669281.toInt ≠ 2 ∧ p669281.toInt = 4)) → G (gV D I) l (gRm 7 155 ((16 * (p669279.toInt - p669280.toInt)).toNat) ((160 * (p669279.toInt - p669280.toInt)).toNat)) (gMA (gV D I) (pp_669296_Reader_next D I P669275 F669276 q669277 q669278 p669279 p669280 p669281 p669282 p669283 p669284 qo669285 p669286 p669287 p669288 qo669289 qo669290 p669291 f669292) gNA ((16 * (p669279.toInt - p669280.toInt)).toNat) ((160 * (p669279.toInt - p669280.toInt)).toNat)) ky_669296_Reader_next 209 [(2, .int 0), (1, .int z670674), (0, .ref q669277)] [] (va_pl P669275 F670720) 0 0 := by
                      intro hJ670729
                      refine G_iload_n 1 dr_cX14_next_209 rfl ?_
                      refine Gw_callS (As := [.int z670674]) (gV_ok D I) (cp_666991_Reader_isLetter l hl0 D I P669275 F670720 z670674 ) dr_cX14_next_210 ⟨wr_7_222, wr_1_32, wr_7_224, by decide, rfl, (Nat.le_of_ble_eq_true rfl), (Nat.le_of_ble_eq_true rfl)⟩ wr_7_223 (show 0 + 0 ≤ ((16 * (p669279.toInt - p669280.toInt)).toNat) by first | omega | decide) (show 0 + 0 ≤ ((160 * (p669279.toInt - p669280.toInt)).toNat) by first | omega | decide) (Nat.le_of_ble_eq_true rfl) (fun r670733 w670734 dc670730 ds670731 hp670732 => ?_) (fun _ _ _ _ _ z => z.elim)
                      obtain ⟨o670735, rfl, rfl, hdc, hds, bo670735, x670736, ht670737⟩ := hp670732
                      change G _ _ _ _ _ _ _ (.int o670735 :: _) _ _ _
                      refine G_widen (cs' := 0) (sl' := 0) (by omega) (by omega) ?_
                      refine G_if_eq 223 dr_cX14_next_213 (by decide +kernel) (fun hc670738 => ?_) (fun hc670738 => ?_)
                      · have r670739 : o670735.toInt = 0 := gj_eq hc670738 (show Int32.toInt 0 = 0 by decide)
                        have bo670735' : gB o670735 0 0 := ⟨by omega, by omega⟩
                        clear bo670735'; try clear r670733; try clear w670734; try clear dc670730; try clear ds670731; try clear hp670732; try clear x670736
                        refine G_iload_n 1 dr_cX14_next_223 rfl ?_
                        refine Gw_callS (As := [.int z670674]) (gV_ok D I) (cp_665041_Reader_isDigit l hl0 D I P669275 F670720 z670674 ) dr_cX14_next_224 ⟨wr_7_219, wr_1_32, wr_7_221, by decide, rfl, (Nat.le_of_ble_eq_true rfl), (Nat.le_of_ble_eq_true rfl)⟩ wr_7_220 (show 0 + 0 ≤ ((16 * (p669279.toInt - p669280.toInt)).toNat) by first | omega | decide) (show 0 + 0 ≤ ((160 * (p669279.toInt - p669280.toInt)).toNat) by first | omega | decide) (Nat.le_of_ble_eq_true rfl) (fun r670743 w670744 dc670740 ds670741 hp670742 => ?_) (fun _ _ _ _ _ z => z.elim)
                        obtain ⟨o670745, rfl, rfl, hdc, hds, bo670745, x670746, ht670747⟩ := hp670742
                        change G _ _ _ _ _ _ _ (.int o670745 :: _) _ _ _
                        refine G_widen (cs' := 0) (sl' := 0) (by omega) (by omega) ?_
                        refine G_if_ne 234 dr_cX14_next_227 (by decide +kernel) (fun hc670748 => ?_) (fun hc670748 => ?_)
                        · have r670749 : o670745.toInt ≠ 0 := gj_neq hc670748 (show Int32.toInt 0 = 0 by decide)
                          have bo670745' : gB o670745 1 1 := ⟨by omega, by omega⟩
                          have bi670750 : gB z670674 48 57 := isP_1 x670746 (by omega)
                          refine G_aload_n 2 dr_cX14_next_234 rfl ?_
                          refine G_iload_n 0 dr_cX14_next_235 rfl ?_
                          refine Gw_callV (As := [.int 0]) (gV_ok D I) (cp_665005_Reader_number l hl0 D I P669275 F670720 q669277 q669278 0 p669279 g670430 p669281 g670430 p669283 p669281 (D.2 1000 32) p669286 p669287 p669288 qo669289 qo669290 p669291 f669292 hmq669277 hmq669278 he670724 he670723 (gB_w (gBl (show Int32.toInt 0 = 0 by decide)) (by decide) (by decide)) (gB_w bp669279' (by decide) (by decide)) (gB_w bg670430' (by decide) (by decide)) bp669281 (gB_w bg670430' (by decide) (by decide)) bp669281 bp669286 bp669287 bp669288 bp669291 bf669292 (by have qa0 : Int32.toInt 0 = 0 := (by decide); omega) (by have qa0 : Int32.toInt 0 = 0 := (by decide); omega) (by first | assumption | exact cDg_no (by omega) | exact cDg_no (by decide) | exact cDg_of (by assumption) (by omega) (by omega)) x669294 x669295) dr_cX14_next_236 ⟨wr_8_218, wr_1_32, wr_8_221, by decide, rfl, (Nat.le_of_ble_eq_true rfl), (Nat.le_of_ble_eq_true rfl)⟩ wr_8_220 wr_p_77 hmq669277 he670724 rfl (show 0 + ((16 * (p669279.toInt - g670430.toInt)).toNat) ≤ ((16 * (p669279.toInt - p669280.toInt)).toNat) by first | omega | decide) (show 0 + ((160 * (p669279.toInt - g670430.toInt)).toNat) ≤ ((160 * (p669279.toInt - p669280.toInt)).toNat) by first | omega | decide) (Nat.le_of_ble_eq_true rfl) (fun r670754 w670755 dc670751 ds670752 hp670753 => ?_) (fun _ _ _ _ _ z => z.elim)
                          obtain ⟨F670765, o670756, o670757, o670758, xt670764, rfl, rfl, hfr670767, he670768, he670769, hdc, hds, bo670756, bo670757, x670759, x670760, x670761, x670762, ht670763⟩ := hp670753
                          have hfr670770 : rFr [q669277] P669275 F669276 F670765 := rFr_call (rSub_rf (P := P669275)) hfr670725 hfr670767 (fun b hb hn => ⟨(nm_c (fun e => hn (e ▸ List.mem_cons_self)) nm_n), (nm_c (fun e => hn (e ▸ List.mem_cons_self)) nm_n)⟩)
                          have bo670758 := gB_any o670758
                          change G _ _ _ _ _ _ _ _ _ _ _
                          refine G_widen (cs' := (16 * (o670756.toInt - g670430.toInt)).toNat) (sl' := (160 * (o670756.toInt - g670430.toInt)).toNat) (by omega) (by omega) ?_
                          refine G_goto 247 dr_cX14_next_239 (by decide +kernel) ?_
                          exact G_vretA dr_cX14_next_247 rfl (show (16 * (o670756.toInt - g670430.toInt)).toNat ≤ ((16 * (p669279.toInt - p669280.toInt)).toNat) by omega) (show (160 * (o670756.toInt - g670430.toInt)).toNat ≤ ((160 * (p669279.toInt - p669280.toInt)).toNat) by omega) ⟨P669275, F670765, o670756, o670757, g670430, o670758, (D.2 1000 32), xt670764, rfl, rfl, (rSub_rf (P := P669275)), hfr670770, he670768, he670769, (by omega), (by omega), bo670756, (gB_w bo670757 (by decide) (by decide)), (gB_w bg670430' (by decide) (by decide)), (by have qa0 : Int32.toInt 0 = 0 := (by decide); omega), (Or.inr (by omega)), (by have qa0 : Int32.toInt 0 = 0 := (by decide); omega), (by first | exact tP_no (by omega) (by omega) | assumption), x670762, (fun R c1 c2 c3 c4 c5 c6 c7 c8 c9 c10 c11 c12 c13 => c8 g670430 z670674 o670735 o670745 xt670764 o670756 o670757 o670758 hx670712 r670727 hz670674 hJ670729 bo670735 ht670737 r670739 bo670745 ht670747 r670749 bo670756 bo670757 ht670763)⟩
                        · have r670771 : o670745.toInt = 0 := gj_eq hc670748 (show Int32.toInt 0 = 0 by decide)
                          have bo670745' : gB o670745 0 0 := ⟨by omega, by omega⟩
                          refine G_iload_n 0 dr_cX14_next_230 rfl ?_
                          refine G_if_eq 242 dr_cX14_next_231 (by decide +kernel) (fun _ => ?_) (fun hc => absurd hc (by decide))
                          refine G_aload_n 2 dr_cX14_next_242 rfl ?_
                          refine G_iload_n 1 dr_cX14_next_243 rfl ?_
                          refine Gw_callV (As := [.int z670674]) (gV_ok D I) (cp_665628_Reader_symbol l hl0 D I P669275 F670720 q669277 q669278 z670674 p669279 g670430 p669281 g670430 p669283 p669281 (D.2 1000 32) p669286 p669287 p669288 qo669289 qo669290 p669291 f669292 hmq669277 hmq669278 he670724 he670723 bz670674 (gB_w bp669279' (by decide) (by decide)) (gB_w bg670430' (by decide) (by decide)) bp669281 (gB_w bg670430' (by decide) (by decide)) bp669281 bp669286 bp669287 bp669288 bp669291 bf669292 (by have qa0 : Int32.toInt 0 = 0 := (by decide); omega) (by have qa0 : Int32.toInt 0 = 0 := (by decide); omega) x669294 x669295) dr_cX14_next_244 ⟨wr_8_223, wr_1_32, wr_8_226, by decide, rfl, (Nat.le_of_ble_eq_true rfl), (Nat.le_of_ble_eq_true rfl)⟩ wr_8_225 wr_p_78 hmq669277 he670724 rfl (show 0 + ((16 * (p669279.toInt - g670430.toInt)).toNat) ≤ ((16 * (p669279.toInt - p669280.toInt)).toNat) by first | omega | decide) (show 0 + ((160 * (p669279.toInt - g670430.toInt)).toNat) ≤ ((160 * (p669279.toInt - p669280.toInt)).toNat) by first | omega | decide) (Nat.le_of_ble_eq_true rfl) (fun r670775 w670776 dc670772 ds670773 hp670774 => ?_) (fun _ _ _ _ _ z => z.elim)
                          obtain ⟨P670786, F670787, o670777, o670778, q670779, xt670785, rfl, rfl, hsb670788, hfr670789, he670790, he670791, hdc, hds, bo670777, bo670778, x670780, x670781, x670782, x670783, ht670784⟩ := hp670774
                          have hm670792 : q669277 ∈ P670786 := hsb670788 q669277 hmq669277
                          have hm670793 : q669278 ∈ P670786 := hsb670788 q669278 hmq669278
                          have hsb670794 : rSub P669275 P670786 := rSub_tr (rSub_rf (P := P669275)) hsb670788
                          have hfr670795 : rFr [q669277] P669275 F669276 F670787 := rFr_call (rSub_rf (P := P669275)) hfr670725 hfr670789 (fun b hb hn => ⟨(nm_c (fun e => hn (e ▸ List.mem_cons_self)) nm_n), (nm_c (fun e => hn (e ▸ List.mem_cons_self)) nm_n)⟩)
                          change G _ _ _ _ _ _ _ _ _ _ _
                          refine G_widen (cs' := (16 * (o670777.toInt - g670430.toInt)).toNat) (sl' := (160 * (o670777.toInt - g670430.toInt)).toNat) (by omega) (by omega) ?_
                          exact G_vretA dr_cX14_next_247 rfl (show (16 * (o670777.toInt - g670430.toInt)).toNat ≤ ((16 * (p669279.toInt - p669280.toInt)).toNat) by omega) (show (160 * (o670777.toInt - g670430.toInt)).toNat ≤ ((160 * (p669279.toInt - p669280.toInt)).toNat) by omega) ⟨P670786, F670787, o670777, o670778, g670430, p669283, q670779, xt670785, rfl, rfl, hsb670794, hfr670795, he670790, he670791, (by omega), (by omega), (gB_w bo670777 (by decide) (by decide)), (gB_w bo670778 (by decide) (by decide)), (gB_w bg670430' (by decide) (by decide)), (by have qa0 : Int32.toInt 0 = 0 := (by decide); omega), (Or.inr (by omega)), (by have qa0 : Int32.toInt 0 = 0 := (by decide); omega), x670782, x670783, (fun R c1 c2 c3 c4 c5 c6 c7 c8 c9 c10 c11 c12 c13 => c9 g670430 z670674 o670735 o670745 xt670785 o670777 o670778 hx670712 r670727 hz670674 hJ670729 bo670735 ht670737 r670739 bo670745 ht670747 r670771 bo670777 bo670778 ht670784)⟩
                      · have r670796 : o670735.toInt ≠ 0 := gj_neq hc670738 (show Int32.toInt 0 = 0 by decide)
                        have bo670735' : gB o670735 1 1 := ⟨by omega, by omega⟩
                        have bi670797 : gB z670674 97 122 := isP_1 x670736 (by omega)
                        refine G_aload_n 2 dr_cX14_next_216 rfl ?_
                        refine Gw_callV (As := []) (gV_ok D I) (cp_666647_Reader_word l hl0 D I P669275 F670720 q669277 q669278 p669279 g670430 p669281 g670430 p669283 p669281 (D.2 1000 32) p669286 p669287 p669288 qo669289 qo669290 p669291 f669292 hmq669277 hmq669278 he670724 he670723 (gB_w bp669279' (by decide) (by decide)) (gB_w bg670430' (by decide) (by decide)) bp669281 (gB_w bg670430' (by decide) (by decide)) bp669281 bp669286 bp669287 bp669288 bp669291 bf669292 (by have qa0 : Int32.toInt 0 = 0 := (by decide); omega) (by have qa0 : Int32.toInt 0 = 0 := (by decide); omega) (by first | assumption | exact cLt_of (by assumption) (by omega) (by omega)) x669294 x669295) dr_cX14_next_217 ⟨wr_7_225, wr_1_32, wr_7_228, by decide, rfl, (Nat.le_of_ble_eq_true rfl), (Nat.le_of_ble_eq_true rfl)⟩ wr_7_227 wr_p_76 hmq669277 he670724 rfl (show 0 + ((16 * (p669279.toInt - g670430.toInt)).toNat) ≤ ((16 * (p669279.toInt - p669280.toInt)).toNat) by first | omega | decide) (show 0 + ((160 * (p669279.toInt - g670430.toInt)).toNat) ≤ ((160 * (p669279.toInt - p669280.toInt)).toNat) by first | omega | decide) (Nat.le_of_ble_eq_true rfl) (fun r670801 w670802 dc670798 ds670799 hp670800 => ?_) (fun _ _ _ _ _ z => z.elim)
                        obtain ⟨P670813, F670814, o670803, o670804, o670805, q670806, xt670812, rfl, rfl, hsb670815, hfr670816, he670817, he670818, hdc, hds, bo670803, bo670804, x670807, x670808, x670809, x670810, ht670811⟩ := hp670800
                        have hm670819 : q669277 ∈ P670813 := hsb670815 q669277 hmq669277
                        have hm670820 : q669278 ∈ P670813 := hsb670815 q669278 hmq669278
                        have hsb670821 : rSub P669275 P670813 := rSub_tr (rSub_rf (P := P669275)) hsb670815
                        have hfr670822 : rFr [q669277] P669275 F669276 F670814 := rFr_call (rSub_rf (P := P669275)) hfr670725 hfr670816 (fun b hb hn => ⟨(nm_c (fun e => hn (e ▸ List.mem_cons_self)) nm_n), (nm_c (fun e => hn (e ▸ List.mem_cons_self)) nm_n)⟩)
                        have bo670805 := gB_any o670805
                        change G _ _ _ _ _ _ _ _ _ _ _
                        refine G_widen (cs' := (16 * (o670803.toInt - g670430.toInt)).toNat) (sl' := (160 * (o670803.toInt - g670430.toInt)).toNat) (by omega) (by omega) ?_
                        refine G_goto 247 dr_cX14_next_220 (by decide +kernel) ?_
                        exact G_vretA dr_cX14_next_247 rfl (show (16 * (o670803.toInt - g670430.toInt)).toNat ≤ ((16 * (p669279.toInt - p669280.toInt)).toNat) by omega) (show (160 * (o670803.toInt - g670430.toInt)).toNat ≤ ((160 * (p669279.toInt - p669280.toInt)).toNat) by omega) ⟨P670813, F670814, o670803, o670804, g670430, o670805, q670806, xt670812, rfl, rfl, hsb670821, hfr670822, he670817, he670818, (by omega), (by omega), bo670803, (gB_w bo670804 (by decide) (by decide)), (gB_w bg670430' (by decide) (by decide)), (by have qa0 : Int32.toInt 0 = 0 := (by decide); omega), (Or.inr (by omega)), (by have qa0 : Int32.toInt 0 = 0 := (by decide); omega), x670809, x670810, (fun R c1 c2 c3 c4 c5 c6 c7 c8 c9 c10 c11 c12 c13 => c10 g670430 z670674 o670735 xt670812 o670803 o670804 o670805 hx670712 r670727 hz670674 hJ670729 bo670735 ht670737 r670796 bo670803 bo670804 ht670811)⟩
                    refine G_iload_n 0 dr_cX14_next_151 rfl ?_
                    refine G_bipush 45 dr_cX14_next_152 (by decide +kernel) ?_
                    refine G_icmp_ne 207 dr_cX14_next_154 (by decide +kernel) (fun hc670823 => ?_) (fun hc670823 => ?_)
                    · have r670824 : z670674.toInt ≠ 45 := gj_neq hc670823 (show Int32.toInt 45 = 45 by decide)
                      refine G_iconst 0 dr_cX14_next_207 (by decide +kernel) ?_
                      refine G_istore_n (L' := [(2, .int 0), (1, .int z670674), (0, .ref q669277)]) dr_cX14_next_208 (Nat.le_of_ble_eq_true rfl) rfl ?_
                      refine G_lv (L' := [(2, .int 0), (1, .int z670674), (0, .ref q669277)]) [0, 1, 2] rfl ?_
                      exact jn670728 (Or.inl r670824)
                    · have r670825 : z670674.toInt = 45 := gj_eq hc670823 (show Int32.toInt 45 = 45 by decide)
                      have bz670674' : gB z670674 45 45 := ⟨by omega, by omega⟩
                      refine G_aload_n 1 dr_cX14_next_157 rfl ?_
                      refine Gp_get 2 hmq669277 he670724 dr_cX14_next_158 (gk_X14 D I) (Nat.le_of_ble_eq_true rfl) wr_9_38 rfl ?_
                      refine G_iconst 1 dr_cX14_next_161 (by decide +kernel) ?_
                      refine G_iadd dr_cX14_next_162 (G_nam fun z670826 hz670826 => ?_)
                      have ez670826 : z670826.toInt = g670430.toInt + 1 := by rw [gI_add hz670826 bg670430' (gBl (show Int32.toInt 1 = 1 by decide)) (by decide) (by decide), show Int32.toInt 1 = 1 from by decide]
                      have bz670826 : gB z670826 1 8192 := gB_add (gI_add hz670826 bg670430' (gBl (show Int32.toInt 1 = 1 by decide)) (by decide) (by decide)) bg670430' (gBl (show Int32.toInt 1 = 1 by decide)) (by decide) (by decide)
                      refine G_aload_n 1 dr_cX14_next_163 rfl ?_
                      refine Gp_get 1 hmq669277 he670724 dr_cX14_next_164 (gk_X14 D I) (Nat.le_of_ble_eq_true rfl) wr_9_37 rfl ?_
                      refine G_icmp_ge 207 dr_cX14_next_167 (by decide +kernel) (fun hc670827 => ?_) (fun hc670827 => ?_)
                      · have r670828 : p669279.toInt ≤ z670826.toInt := gC_le hc670827
                        refine G_iconst 0 dr_cX14_next_207 (by decide +kernel) ?_
                        refine G_istore_n (L' := [(2, .int 0), (1, .int z670674), (0, .ref q669277)]) dr_cX14_next_208 (Nat.le_of_ble_eq_true rfl) rfl ?_
                        refine G_lv (L' := [(2, .int 0), (1, .int z670674), (0, .ref q669277)]) [0, 1, 2] rfl ?_
                        exact jn670728 (Or.inr (Or.inl ⟨z670826, r670825, ez670826, r670828⟩))
                      · have r670829 : z670826.toInt < p669279.toInt := gC_nle hc670827
                        have bz670826' : gB z670826 1 8191 := ⟨by omega, by omega⟩
                        have bp669279'' : gB p669279 2 8192 := ⟨by omega, by omega⟩
                        refine G_aload_n 1 dr_cX14_next_170 rfl ?_
                        refine Gp_get 0 hmq669277 he670724 dr_cX14_next_171 (gk_X14 D I) (Nat.le_of_ble_eq_true rfl) wr_9_36 rfl ?_
                        refine G_aload_n 1 dr_cX14_next_174 rfl ?_
                        refine Gp_get 2 hmq669277 he670724 dr_cX14_next_175 (gk_X14 D I) (Nat.le_of_ble_eq_true rfl) wr_9_38 rfl ?_
                        refine G_iconst 1 dr_cX14_next_178 (by decide +kernel) ?_
                        refine G_iadd dr_cX14_next_179 (G_eqi (y := z670826) hz670826.symm ?_)
                        refine Gp_bald 1 hmq669278 he670723 dr_cX14_next_180 rfl (gB_in bz670826' (by decide) (by decide)) (G_nam fun z670830 hz670830 => ?_)
                        have bz670830 : gB z670830 (-128) 127 := by rw [hz670830]; exact bf669292 _
                        refine Gw_callS (As := [.int z670830]) (gV_ok D I) (cp_665041_Reader_isDigit l hl0 D I P669275 F670720 z670830 ) dr_cX14_next_181 ⟨wr_7_219, wr_1_32, wr_7_221, by decide, rfl, (Nat.le_of_ble_eq_true rfl), (Nat.le_of_ble_eq_true rfl)⟩ wr_7_220 (show 0 + 0 ≤ ((16 * (p669279.toInt - p669280.toInt)).toNat) by first | omega | decide) (show 0 + 0 ≤ ((160 * (p669279.toInt - p669280.toInt)).toNat) by first | omega | decide) (Nat.le_of_ble_eq_true rfl) (fun r670834 w670835 dc670831 ds670832 hp670833 => ?_) (fun _ _ _ _ _ z => z.elim)
                        obtain ⟨o670836, rfl, rfl, hdc, hds, bo670836, x670837, ht670838⟩ := hp670833
                        change G _ _ _ _ _ _ _ (.int o670836 :: _) _ _ _
                        refine G_widen (cs' := 0) (sl' := 0) (by omega) (by omega) ?_
                        refine G_if_eq 207 dr_cX14_next_184 (by decide +kernel) (fun hc670839 => ?_) (fun hc670839 => ?_)
                        · have r670840 : o670836.toInt = 0 := gj_eq hc670839 (show Int32.toInt 0 = 0 by decide)
                          have bo670836' : gB o670836 0 0 := ⟨by omega, by omega⟩
                          refine G_iconst 0 dr_cX14_next_207 (by decide +kernel) ?_
                          refine G_istore_n (L' := [(2, .int 0), (1, .int z670674), (0, .ref q669277)]) dr_cX14_next_208 (Nat.le_of_ble_eq_true rfl) rfl ?_
                          refine G_lv (L' := [(2, .int 0), (1, .int z670674), (0, .ref q669277)]) [0, 1, 2] rfl ?_
                          exact jn670728 (Or.inr (Or.inr (Or.inl ⟨z670826, z670830, o670836, r670825, ez670826, r670829, hz670830, bz670830, bo670836, ht670838, r670840⟩)))
                        · have r670841 : o670836.toInt ≠ 0 := gj_neq hc670839 (show Int32.toInt 0 = 0 by decide)
                          have bo670836' : gB o670836 1 1 := ⟨by omega, by omega⟩
                          have bi670842 : gB z670830 48 57 := isP_1 x670837 (by omega)
                          refine G_aload_n 1 dr_cX14_next_187 rfl ?_
                          refine Gp_get 6 hmq669277 he670724 dr_cX14_next_188 (gk_X14 D I) (Nat.le_of_ble_eq_true rfl) wr_9_42 rfl ?_
                          refine G_iconst 2 dr_cX14_next_191 (by decide +kernel) ?_
                          refine G_icmp_eq 207 dr_cX14_next_192 (by decide +kernel) (fun hc670843 => ?_) (fun hc670843 => ?_)
                          · have r670844 : p669281.toInt = 2 := gj_eq hc670843 (show Int32.toInt 2 = 2 by decide)
                            have bp669281' : gB p669281 2 2 := ⟨by omega, by omega⟩
                            refine G_iconst 0 dr_cX14_next_207 (by decide +kernel) ?_
                            refine G_istore_n (L' := [(2, .int 0), (1, .int z670674), (0, .ref q669277)]) dr_cX14_next_208 (Nat.le_of_ble_eq_true rfl) rfl ?_
                            refine G_lv (L' := [(2, .int 0), (1, .int z670674), (0, .ref q669277)]) [0, 1, 2] rfl ?_
                            exact jn670728 (Or.inr (Or.inr (Or.inr (Or.inl ⟨z670826, z670830, o670836, r670825, ez670826, r670829, hz670830, bz670830, bo670836, ht670838, r670841, r670844⟩))))
                          · have r670845 : p669281.toInt ≠ 2 := gj_neq hc670843 (show Int32.toInt 2 = 2 by decide)
                            refine G_aload_n 1 dr_cX14_next_195 rfl ?_
                            refine Gp_get 6 hmq669277 he670724 dr_cX14_next_196 (gk_X14 D I) (Nat.le_of_ble_eq_true rfl) wr_9_42 rfl ?_
                            refine G_iconst 4 dr_cX14_next_199 (by decide +kernel) ?_
                            refine G_icmp_eq 207 dr_cX14_next_200 (by decide +kernel) (fun hc670846 => ?_) (fun hc670846 => ?_)
                            · have r670847 : p669281.toInt = 4 := gj_eq hc670846 (show Int32.toInt 4 = 4 by decide)
                              have bp669281' : gB p669281 4 4 := ⟨by omega, by omega⟩
                              refine G_iconst 0 dr_cX14_next_207 (by decide +kernel) ?_
                              refine G_istore_n (L' := [(2, .int 0), (1, .int z670674), (0, .ref q669277)]) dr_cX14_next_208 (Nat.le_of_ble_eq_true rfl) rfl ?_
                              refine G_lv (L' := [(2, .int 0), (1, .int z670674), (0, .ref q669277)]) [0, 1, 2] rfl ?_
                              exact jn670728 (Or.inr (Or.inr (Or.inr (Or.inr (⟨z670826, z670830, o670836, r670825, ez670826, r670829, hz670830, bz670830, bo670836, ht670838, r670841, r670845, r670847⟩)))))
                            · have r670848 : p669281.toInt ≠ 4 := gj_neq hc670846 (show Int32.toInt 4 = 4 by decide)
                              refine G_iconst 1 dr_cX14_next_203 (by decide +kernel) ?_
                              refine G_goto 208 dr_cX14_next_204 (by decide +kernel) ?_
                              refine G_istore_n (L' := [(2, .int 1), (1, .int z670674), (0, .ref q669277)]) dr_cX14_next_208 (Nat.le_of_ble_eq_true rfl) rfl ?_
                              clear bp669279' bz670674 jn670728 bz670826 bo670836'; try clear r670834; try clear w670835; try clear dc670831; try clear ds670832; try clear hp670833; try clear x670837
                              refine G_iload_n 1 dr_cX14_next_209 rfl ?_
                              refine Gw_callS (As := [.int z670674]) (gV_ok D I) (cp_666991_Reader_isLetter l hl0 D I P669275 F670720 z670674 ) dr_cX14_next_210 ⟨wr_7_222, wr_1_32, wr_7_224, by decide, rfl, (Nat.le_of_ble_eq_true rfl), (Nat.le_of_ble_eq_true rfl)⟩ wr_7_223 (show 0 + 0 ≤ ((16 * (p669279.toInt - p669280.toInt)).toNat) by first | omega | decide) (show 0 + 0 ≤ ((160 * (p669279.toInt - p669280.toInt)).toNat) by first | omega | decide) (Nat.le_of_ble_eq_true rfl) (fun r670852 w670853 dc670849 ds670850 hp670851 => ?_) (fun _ _ _ _ _ z => z.elim)
                              obtain ⟨o670854, rfl, rfl, hdc, hds, bo670854, x670855, ht670856⟩ := hp670851
                              change G _ _ _ _ _ _ _ (.int o670854 :: _) _ _ _
                              refine G_widen (cs' := 0) (sl' := 0) (by omega) (by omega) ?_
                              refine G_if_eq 223 dr_cX14_next_213 (by decide +kernel) (fun hc670857 => ?_) (fun hc670857 => ?_)
                              · have r670858 : o670854.toInt = 0 := gj_eq hc670857 (show Int32.toInt 0 = 0 by decide)
                                have bo670854' : gB o670854 0 0 := ⟨by omega, by omega⟩
                                clear bo670854'; try clear r670852; try clear w670853; try clear dc670849; try clear ds670850; try clear hp670851; try clear x670855
                                refine G_iload_n 1 dr_cX14_next_223 rfl ?_
                                refine Gw_callS (As := [.int z670674]) (gV_ok D I) (cp_665041_Reader_isDigit l hl0 D I P669275 F670720 z670674 ) dr_cX14_next_224 ⟨wr_7_219, wr_1_32, wr_7_221, by decide, rfl, (Nat.le_of_ble_eq_true rfl), (Nat.le_of_ble_eq_true rfl)⟩ wr_7_220 (show 0 + 0 ≤ ((16 * (p669279.toInt - p669280.toInt)).toNat) by first | omega | decide) (show 0 + 0 ≤ ((160 * (p669279.toInt - p669280.toInt)).toNat) by first | omega | decide) (Nat.le_of_ble_eq_true rfl) (fun r670862 w670863 dc670859 ds670860 hp670861 => ?_) (fun _ _ _ _ _ z => z.elim)
                                obtain ⟨o670864, rfl, rfl, hdc, hds, bo670864, x670865, ht670866⟩ := hp670861
                                change G _ _ _ _ _ _ _ (.int o670864 :: _) _ _ _
                                refine G_widen (cs' := 0) (sl' := 0) (by omega) (by omega) ?_
                                refine G_if_ne 234 dr_cX14_next_227 (by decide +kernel) (fun hc670867 => ?_) (fun hc670867 => ?_)
                                · have r670868 : o670864.toInt ≠ 0 := gj_neq hc670867 (show Int32.toInt 0 = 0 by decide)
                                  have bo670864' : gB o670864 1 1 := ⟨by omega, by omega⟩
                                  have bi670869 : gB z670674 48 57 := isP_1 x670865 (by omega)
                                  refine G_aload_n 2 dr_cX14_next_234 rfl ?_
                                  refine G_iload_n 0 dr_cX14_next_235 rfl ?_
                                  refine Gw_callV (As := [.int 1]) (gV_ok D I) (cp_665005_Reader_number l hl0 D I P669275 F670720 q669277 q669278 1 p669279 g670430 p669281 g670430 p669283 p669281 (D.2 1000 32) p669286 p669287 p669288 qo669289 qo669290 p669291 f669292 hmq669277 hmq669278 he670724 he670723 (gB_w (gBl (show Int32.toInt 1 = 1 by decide)) (by decide) (by decide)) (gB_w bp669279'' (by decide) (by decide)) (gB_w bg670430' (by decide) (by decide)) bp669281 (gB_w bg670430' (by decide) (by decide)) bp669281 bp669286 bp669287 bp669288 bp669291 bf669292 (by have qa0 : Int32.toInt 1 = 1 := (by decide); omega) (by have qa0 : Int32.toInt 1 = 1 := (by decide); omega) (by first | assumption | exact cDg_no (by omega) | exact cDg_no (by decide) | exact cDg_of (by assumption) (by omega) (by omega)) x669294 x669295) dr_cX14_next_236 ⟨wr_8_218, wr_1_32, wr_8_221, by decide, rfl, (Nat.le_of_ble_eq_true rfl), (Nat.le_of_ble_eq_true rfl)⟩ wr_8_220 wr_p_77 hmq669277 he670724 rfl (show 0 + ((16 * (p669279.toInt - g670430.toInt)).toNat) ≤ ((16 * (p669279.toInt - p669280.toInt)).toNat) by first | omega | decide) (show 0 + ((160 * (p669279.toInt - g670430.toInt)).toNat) ≤ ((160 * (p669279.toInt - p669280.toInt)).toNat) by first | omega | decide) (Nat.le_of_ble_eq_true rfl) (fun r670873 w670874 dc670870 ds670871 hp670872 => ?_) (fun _ _ _ _ _ z => z.elim)
                                  obtain ⟨F670884, o670875, o670876, o670877, xt670883, rfl, rfl, hfr670886, he670887, he670888, hdc, hds, bo670875, bo670876, x670878, x670879, x670880, x670881, ht670882⟩ := hp670872
                                  have hfr670889 : rFr [q669277] P669275 F669276 F670884 := rFr_call (rSub_rf (P := P669275)) hfr670725 hfr670886 (fun b hb hn => ⟨(nm_c (fun e => hn (e ▸ List.mem_cons_self)) nm_n), (nm_c (fun e => hn (e ▸ List.mem_cons_self)) nm_n)⟩)
                                  have bo670877 := gB_any o670877
                                  change G _ _ _ _ _ _ _ _ _ _ _
                                  refine G_widen (cs' := (16 * (o670875.toInt - g670430.toInt)).toNat) (sl' := (160 * (o670875.toInt - g670430.toInt)).toNat) (by omega) (by omega) ?_
                                  refine G_goto 247 dr_cX14_next_239 (by decide +kernel) ?_
                                  exact G_vretA dr_cX14_next_247 rfl (show (16 * (o670875.toInt - g670430.toInt)).toNat ≤ ((16 * (p669279.toInt - p669280.toInt)).toNat) by omega) (show (160 * (o670875.toInt - g670430.toInt)).toNat ≤ ((160 * (p669279.toInt - p669280.toInt)).toNat) by omega) ⟨P669275, F670884, o670875, o670876, g670430, o670877, (D.2 1000 32), xt670883, rfl, rfl, (rSub_rf (P := P669275)), hfr670889, he670887, he670888, (by omega), (by omega), bo670875, (gB_w bo670876 (by decide) (by decide)), (gB_w bg670430' (by decide) (by decide)), (by have qa0 : Int32.toInt 1 = 1 := (by decide); omega), (Or.inr (by omega)), (by have qa0 : Int32.toInt 1 = 1 := (by decide); omega), (by first | exact tP_no (by omega) (by omega) | assumption), x670881, (fun R c1 c2 c3 c4 c5 c6 c7 c8 c9 c10 c11 c12 c13 => c11 g670430 z670674 z670826 z670830 o670836 o670854 o670864 xt670883 o670875 o670876 o670877 hx670712 r670727 hz670674 r670825 ez670826 r670829 hz670830 bz670830 bo670836 ht670838 r670841 r670845 r670848 bo670854 ht670856 r670858 bo670864 ht670866 r670868 bo670875 bo670876 ht670882)⟩
                                · have r670890 : o670864.toInt = 0 := gj_eq hc670867 (show Int32.toInt 0 = 0 by decide)
                                  have bo670864' : gB o670864 0 0 := ⟨by omega, by omega⟩
                                  refine G_iload_n 0 dr_cX14_next_230 rfl ?_
                                  refine G_if_eq 242 dr_cX14_next_231 (by decide +kernel) (fun hc => absurd hc (by decide)) (fun _ => ?_)
                                  refine G_aload_n 2 dr_cX14_next_234 rfl ?_
                                  refine G_iload_n 0 dr_cX14_next_235 rfl ?_
                                  refine Gw_callV (As := [.int 1]) (gV_ok D I) (cp_665005_Reader_number l hl0 D I P669275 F670720 q669277 q669278 1 p669279 g670430 p669281 g670430 p669283 p669281 (D.2 1000 32) p669286 p669287 p669288 qo669289 qo669290 p669291 f669292 hmq669277 hmq669278 he670724 he670723 (gB_w (gBl (show Int32.toInt 1 = 1 by decide)) (by decide) (by decide)) (gB_w bp669279'' (by decide) (by decide)) (gB_w bg670430' (by decide) (by decide)) bp669281 (gB_w bg670430' (by decide) (by decide)) bp669281 bp669286 bp669287 bp669288 bp669291 bf669292 (by have qa0 : Int32.toInt 1 = 1 := (by decide); omega) (by have qa0 : Int32.toInt 1 = 1 := (by decide); omega) (by first | assumption | exact cDg_no (by omega) | exact cDg_no (by decide) | exact cDg_of (by assumption) (by omega) (by omega)) x669294 x669295) dr_cX14_next_236 ⟨wr_8_218, wr_1_32, wr_8_221, by decide, rfl, (Nat.le_of_ble_eq_true rfl), (Nat.le_of_ble_eq_true rfl)⟩ wr_8_220 wr_p_77 hmq669277 he670724 rfl (show 0 + ((16 * (p669279.toInt - g670430.toInt)).toNat) ≤ ((16 * (p669279.toInt - p669280.toInt)).toNat) by first | omega | decide) (show 0 + ((160 * (p669279.toInt - g670430.toInt)).toNat) ≤ ((160 * (p669279.toInt - p669280.toInt)).toNat) by first | omega | decide) (Nat.le_of_ble_eq_true rfl) (fun r670894 w670895 dc670891 ds670892 hp670893 => ?_) (fun _ _ _ _ _ z => z.elim)
                                  obtain ⟨F670905, o670896, o670897, o670898, xt670904, rfl, rfl, hfr670907, he670908, he670909, hdc, hds, bo670896, bo670897, x670899, x670900, x670901, x670902, ht670903⟩ := hp670893
                                  have hfr670910 : rFr [q669277] P669275 F669276 F670905 := rFr_call (rSub_rf (P := P669275)) hfr670725 hfr670907 (fun b hb hn => ⟨(nm_c (fun e => hn (e ▸ List.mem_cons_self)) nm_n), (nm_c (fun e => hn (e ▸ List.mem_cons_self)) nm_n)⟩)
                                  have bo670898 := gB_any o670898
                                  change G _ _ _ _ _ _ _ _ _ _ _
                                  refine G_widen (cs' := (16 * (o670896.toInt - g670430.toInt)).toNat) (sl' := (160 * (o670896.toInt - g670430.toInt)).toNat) (by omega) (by omega) ?_
                                  refine G_goto 247 dr_cX14_next_239 (by decide +kernel) ?_
                                  exact G_vretA dr_cX14_next_247 rfl (show (16 * (o670896.toInt - g670430.toInt)).toNat ≤ ((16 * (p669279.toInt - p669280.toInt)).toNat) by omega) (show (160 * (o670896.toInt - g670430.toInt)).toNat ≤ ((160 * (p669279.toInt - p669280.toInt)).toNat) by omega) ⟨P669275, F670905, o670896, o670897, g670430, o670898, (D.2 1000 32), xt670904, rfl, rfl, (rSub_rf (P := P669275)), hfr670910, he670908, he670909, (by omega), (by omega), bo670896, (gB_w bo670897 (by decide) (by decide)), (gB_w bg670430' (by decide) (by decide)), (by have qa0 : Int32.toInt 1 = 1 := (by decide); omega), (Or.inr (by omega)), (by have qa0 : Int32.toInt 1 = 1 := (by decide); omega), (by first | exact tP_no (by omega) (by omega) | assumption), x670902, (fun R c1 c2 c3 c4 c5 c6 c7 c8 c9 c10 c11 c12 c13 => c12 g670430 z670674 z670826 z670830 o670836 o670854 o670864 xt670904 o670896 o670897 o670898 hx670712 r670727 hz670674 r670825 ez670826 r670829 hz670830 bz670830 bo670836 ht670838 r670841 r670845 r670848 bo670854 ht670856 r670858 bo670864 ht670866 r670890 bo670896 bo670897 ht670903)⟩
                              · have r670911 : o670854.toInt ≠ 0 := gj_neq hc670857 (show Int32.toInt 0 = 0 by decide)
                                have bo670854' : gB o670854 1 1 := ⟨by omega, by omega⟩
                                have bi670912 : gB z670674 97 122 := isP_1 x670855 (by omega)
                                refine G_aload_n 2 dr_cX14_next_216 rfl ?_
                                refine Gw_callV (As := []) (gV_ok D I) (cp_666647_Reader_word l hl0 D I P669275 F670720 q669277 q669278 p669279 g670430 p669281 g670430 p669283 p669281 (D.2 1000 32) p669286 p669287 p669288 qo669289 qo669290 p669291 f669292 hmq669277 hmq669278 he670724 he670723 (gB_w bp669279'' (by decide) (by decide)) (gB_w bg670430' (by decide) (by decide)) bp669281 (gB_w bg670430' (by decide) (by decide)) bp669281 bp669286 bp669287 bp669288 bp669291 bf669292 (by have qa0 : Int32.toInt 1 = 1 := (by decide); omega) (by have qa0 : Int32.toInt 1 = 1 := (by decide); omega) (by first | assumption | exact cLt_of (by assumption) (by omega) (by omega)) x669294 x669295) dr_cX14_next_217 ⟨wr_7_225, wr_1_32, wr_7_228, by decide, rfl, (Nat.le_of_ble_eq_true rfl), (Nat.le_of_ble_eq_true rfl)⟩ wr_7_227 wr_p_76 hmq669277 he670724 rfl (show 0 + ((16 * (p669279.toInt - g670430.toInt)).toNat) ≤ ((16 * (p669279.toInt - p669280.toInt)).toNat) by first | omega | decide) (show 0 + ((160 * (p669279.toInt - g670430.toInt)).toNat) ≤ ((160 * (p669279.toInt - p669280.toInt)).toNat) by first | omega | decide) (Nat.le_of_ble_eq_true rfl) (fun r670916 w670917 dc670913 ds670914 hp670915 => ?_) (fun _ _ _ _ _ z => z.elim)
                                obtain ⟨P670928, F670929, o670918, o670919, o670920, q670921, xt670927, rfl, rfl, hsb670930, hfr670931, he670932, he670933, hdc, hds, bo670918, bo670919, x670922, x670923, x670924, x670925, ht670926⟩ := hp670915
                                have hm670934 : q669277 ∈ P670928 := hsb670930 q669277 hmq669277
                                have hm670935 : q669278 ∈ P670928 := hsb670930 q669278 hmq669278
                                have hsb670936 : rSub P669275 P670928 := rSub_tr (rSub_rf (P := P669275)) hsb670930
                                have hfr670937 : rFr [q669277] P669275 F669276 F670929 := rFr_call (rSub_rf (P := P669275)) hfr670725 hfr670931 (fun b hb hn => ⟨(nm_c (fun e => hn (e ▸ List.mem_cons_self)) nm_n), (nm_c (fun e => hn (e ▸ List.mem_cons_self)) nm_n)⟩)
                                have bo670920 := gB_any o670920
                                change G _ _ _ _ _ _ _ _ _ _ _
                                refine G_widen (cs' := (16 * (o670918.toInt - g670430.toInt)).toNat) (sl' := (160 * (o670918.toInt - g670430.toInt)).toNat) (by omega) (by omega) ?_
                                refine G_goto 247 dr_cX14_next_220 (by decide +kernel) ?_
                                exact G_vretA dr_cX14_next_247 rfl (show (16 * (o670918.toInt - g670430.toInt)).toNat ≤ ((16 * (p669279.toInt - p669280.toInt)).toNat) by omega) (show (160 * (o670918.toInt - g670430.toInt)).toNat ≤ ((160 * (p669279.toInt - p669280.toInt)).toNat) by omega) ⟨P670928, F670929, o670918, o670919, g670430, o670920, q670921, xt670927, rfl, rfl, hsb670936, hfr670937, he670932, he670933, (by omega), (by omega), bo670918, (gB_w bo670919 (by decide) (by decide)), (gB_w bg670430' (by decide) (by decide)), (by have qa0 : Int32.toInt 1 = 1 := (by decide); omega), (Or.inr (by omega)), (by have qa0 : Int32.toInt 1 = 1 := (by decide); omega), x670924, x670925, (fun R c1 c2 c3 c4 c5 c6 c7 c8 c9 c10 c11 c12 c13 => c13 g670430 z670674 z670826 z670830 o670836 o670854 xt670927 o670918 o670919 o670920 hx670712 r670727 hz670674 r670825 ez670826 r670829 hz670830 bz670830 bo670836 ht670838 r670841 r670845 r670848 bo670854 ht670856 r670911 bo670918 bo670919 ht670926)⟩
                  · have r670938 : g670430.toInt = p669279.toInt := gC_eq hc670726
                    have bg670430'' : gB g670430 1 8191 := ⟨by omega, by omega⟩
                    have bp669279'' : gB p669279 1 8191 := ⟨by omega, by omega⟩
                    refine G_aload_n 1 dr_cX14_next_135 rfl ?_
                    refine G_iconst 0 dr_cX14_next_136 (by decide +kernel) ?_
                    refine Gp_put 3 hmq669277 he670724 dr_cX14_next_137 (gk_X14 D I) (Nat.le_of_ble_eq_true rfl) wr_9_39 rfl rfl rfl (Nat.le_of_ble_eq_true rfl) (fun F670939 e670940 n670941 => ?_)
                    have he670942 : F670939 q669278 = .inl (I .byte, 8192, .inl f669292) := (n670941 q669278 (rn_ao he670723 he670724)).trans he670723
                    have he670943 : F670939 q669277 = .inr (19, [.ref q669278, .int p669279, .int g670430, .int 0, .int g670430, .int p669283, .int p669281, .ref (D.2 1000 32), .int p669286, .int p669287, .int p669288, .ref qo669289, .ref qo669290, .int p669291]) := e670940
                    have hfr670944 : rFr [q669277] P669275 F669276 F670939 := rFr_put' List.mem_cons_self hfr670725 n670941
                    exact G_vretA dr_cX14_next_140 rfl (show 0 ≤ ((16 * (p669279.toInt - p669280.toInt)).toNat) by omega) (show 0 ≤ ((160 * (p669279.toInt - p669280.toInt)).toNat) by omega) ⟨P669275, F670939, g670430, 0, g670430, p669283, (D.2 1000 32), (0, fun _ => 0), rfl, rfl, (rSub_rf (P := P669275)), hfr670944, he670943, he670942, (by omega), (by omega), (gB_w bg670430'' (by decide) (by decide)), (gB_w (gBl (show Int32.toInt 0 = 0 by decide)) (by decide) (by decide)), (gB_w bg670430'' (by decide) (by decide)), (by have qa0 : Int32.toInt 0 = 0 := (by decide); omega), (Or.inl (by decide)), (by have qa0 : Int32.toInt 0 = 0 := (by decide); omega), (tP_no (by decide) (by decide)), (vP_no (by decide) (by decide)), (fun R c1 c2 c3 c4 c5 c6 c7 c8 c9 c10 c11 c12 c13 => c7 g670430 hx670712 r670938)⟩
                · have r670945 : z670674.toInt = 32 := gj_eq hc670710 (show Int32.toInt 32 = 32 by decide)
                  have bz670674' : gB z670674 32 32 := ⟨by omega, by omega⟩
                  refine G_aload_n 1 dr_cX14_next_97 rfl ?_
                  refine G_dup dr_cX14_next_98 rfl ?_
                  refine Gp_get 2 hmq669277 he670432 dr_cX14_next_99 (gk_X14 D I) (Nat.le_of_ble_eq_true rfl) wr_9_38 rfl ?_
                  refine G_iconst 1 dr_cX14_next_102 (by decide +kernel) ?_
                  refine G_iadd dr_cX14_next_103 (G_nam fun z670946 hz670946 => ?_)
                  have ez670946 : z670946.toInt = g670430.toInt + 1 := by rw [gI_add hz670946 bg670430' (gBl (show Int32.toInt 1 = 1 by decide)) (by decide) (by decide), show Int32.toInt 1 = 1 from by decide]
                  have bz670946 : gB z670946 1 8192 := gB_add (gI_add hz670946 bg670430' (gBl (show Int32.toInt 1 = 1 by decide)) (by decide) (by decide)) bg670430' (gBl (show Int32.toInt 1 = 1 by decide)) (by decide) (by decide)
                  refine Gp_put 2 hmq669277 he670432 dr_cX14_next_104 (gk_X14 D I) (Nat.le_of_ble_eq_true rfl) wr_9_38 rfl rfl rfl (Nat.le_of_ble_eq_true rfl) (fun F670947 e670948 n670949 => ?_)
                  have he670950 : F670947 q669278 = .inl (I .byte, 8192, .inl f669292) := (n670949 q669278 (rn_ao he670433 he670432)).trans he670433
                  have he670951 : F670947 q669277 = .inr (19, [.ref q669278, .int p669279, .int z670946, .int p669281, .int p669282, .int p669283, .int p669281, .ref qo669285, .int p669286, .int p669287, .int p669288, .ref qo669289, .ref qo669290, .int p669291]) := e670948
                  have hfr670952 : rFr [q669277] P669275 F669276 F670947 := rFr_put' List.mem_cons_self hfr670434 n670949
                  have x670953 : g670430.toInt < z670946.toInt := by first | omega | exact chNe (a := g670430) (b := z670946) (by assumption) (by assumption) (by omega) (by omega)
                  refine G_goto 8 dr_cX14_next_107 (by decide +kernel) ?_
                  refine G_lv (L' := [(0, .ref q669277)]) [1] rfl ?_
                  exact ih8_670436 F670947 z670946 (gB_w bz670946 (by decide) (by decide)) hfr670952 he670951 he670950 (by omega) (by omega) (fun k e1 ht => kt8_670436 k e1 (fun R c1 c2 c3 c4 c5 c6 c7 => c6 g670430 z670674 z670946 k e1 bg670430 r670673 hz670674 bz670674 r670676 r670687 r670698 r670709 r670945 ez670946 (ht R c1 c2 c3 c4 c5 c6 c7))) (by omega)
        · have r670954 : z670674.toInt = 59 := gj_eq hc670675 (show Int32.toInt 59 = 59 by decide)
          have bz670674' : gB z670674 59 59 := ⟨by omega, by omega⟩
          have hlp35_670991 : ∀ (n35_670991 : Nat) (F670985 : Nat → va_E) (g670984 : Int32), gB g670984 0 8192 → rFr [q669277] P669275 F669276 F670985 → F670985 q669277 = .inr (19, [.ref q669278, .int p669279, .int g670984, .int p669281, .int p669282, .int p669283, .int p669281, .ref qo669285, .int p669286, .int p669287, .int p669288, .ref qo669289, .ref qo669290, .int p669291]) → F670985 q669278 = .inl (I .byte, 8192, .inl f669292) → p669280.toInt ≤ g670984.toInt → g670984.toInt ≤ p669279.toInt → g670430.toInt ≤ g670984.toInt → (∀ (k : Nat) (e1 : Int32), tl_RReader_next_35 p669279 f669292 g670984 k e1 → tl_RReader_next_35 p669279 f669292 g670430 k e1) → ((p669279.toInt : Int) + 1 - g670984.toInt).toNat < n35_670991 → G (gV D I) l (gRm 7 155 ((16 * (p669279.toInt - p669280.toInt)).toNat) ((160 * (p669279.toInt - p669280.toInt)).toNat)) (gMA (gV D I) (pp_669296_Reader_next D I P669275 F669276 q669277 q669278 p669279 p669280 p669281 p669282 p669283 p669284 qo669285 p669286 p669287 p669288 qo669289 qo669290 p669291 f669292) gNA ((16 * (p669279.toInt - p669280.toInt)).toNat) ((160 * (p669279.toInt - p669280.toInt)).toNat)) ky_669296_Reader_next 35 [(1, .int z670674), (0, .ref q669277)] [] (va_pl P669275 F670985) 0 0 := by
            intro n35_670991
            induction n35_670991 with
            | zero => intro F670985 g670984 bg670984 hfr670988 he670986 he670987 x670989 x670990 x670991 kt35_670991 hm35_670991; exact absurd hm35_670991 (Nat.not_lt_zero _)
            | succ n35_670991 ih35_670991 =>
              intro F670985 g670984 bg670984 hfr670988 he670986 he670987 x670989 x670990 x670991 kt35_670991 hm35_670991
              refine G_aload_n 1 dr_cX14_next_35 rfl ?_
              refine Gp_get 2 hmq669277 he670986 dr_cX14_next_36 (gk_X14 D I) (Nat.le_of_ble_eq_true rfl) wr_9_38 rfl ?_
              refine G_aload_n 1 dr_cX14_next_39 rfl ?_
              refine Gp_get 1 hmq669277 he670986 dr_cX14_next_40 (gk_X14 D I) (Nat.le_of_ble_eq_true rfl) wr_9_37 rfl ?_
              refine G_icmp_ge 107 dr_cX14_next_43 (by decide +kernel) (fun hc670992 => ?_) (fun hc670992 => ?_)
              · have r670993 : p669279.toInt ≤ g670984.toInt := gC_le hc670992
                have bg670984' : gB g670984 1 8192 := ⟨by omega, by omega⟩
                have hx670994 : tl_RReader_next_35 p669279 f669292 g670430 107 g670984 := kt35_670991 107 g670984 (fun R c1 c2 c3 => c1 g670984 bg670984 r670993)
                have x670995 : g670430.toInt < g670984.toInt := by first | omega | exact chNe (a := g670430) (b := g670984) (by assumption) (by assumption) (by omega) (by omega)
                refine G_goto 8 dr_cX14_next_107 (by decide +kernel) ?_
                refine G_lv (L' := [(0, .ref q669277)]) [1] rfl ?_
                exact ih8_670436 F670985 g670984 (gB_w bg670984' (by decide) (by decide)) hfr670988 he670986 he670987 (by omega) (by omega) (fun k e1 ht => kt8_670436 k e1 (fun R c1 c2 c3 c4 c5 c6 c7 => c7 g670430 z670674 g670984 k e1 bg670430 r670673 hz670674 bz670674 r670954 hx670994 (ht R c1 c2 c3 c4 c5 c6 c7))) (by omega)
              · have r670996 : g670984.toInt < p669279.toInt := gC_nle hc670992
                have bg670984' : gB g670984 0 8191 := ⟨by omega, by omega⟩
                refine G_aload_n 1 dr_cX14_next_46 rfl ?_
                refine Gp_get 0 hmq669277 he670986 dr_cX14_next_47 (gk_X14 D I) (Nat.le_of_ble_eq_true rfl) wr_9_36 rfl ?_
                refine G_aload_n 1 dr_cX14_next_50 rfl ?_
                refine Gp_get 2 hmq669277 he670986 dr_cX14_next_51 (gk_X14 D I) (Nat.le_of_ble_eq_true rfl) wr_9_38 rfl ?_
                refine Gp_bald 1 hmq669278 he670987 dr_cX14_next_54 rfl (gB_in bg670984' (by decide) (by decide)) (G_nam fun z670997 hz670997 => ?_)
                have bz670997 : gB z670997 (-128) 127 := by rw [hz670997]; exact bf669292 _
                refine G_bipush 10 dr_cX14_next_55 (by decide +kernel) ?_
                refine G_icmp_eq 107 dr_cX14_next_57 (by decide +kernel) (fun hc670998 => ?_) (fun hc670998 => ?_)
                · have r670999 : z670997.toInt = 10 := gj_eq hc670998 (show Int32.toInt 10 = 10 by decide)
                  have bz670997' : gB z670997 10 10 := ⟨by omega, by omega⟩
                  have hx671000 : tl_RReader_next_35 p669279 f669292 g670430 107 g670984 := kt35_670991 107 g670984 (fun R c1 c2 c3 => c2 g670984 z670997 bg670984 r670996 hz670997 bz670997 r670999)
                  have x671001 : g670430.toInt < g670984.toInt := by first | omega | exact chNe (a := g670430) (b := g670984) (by assumption) (by assumption) (by omega) (by omega)
                  refine G_goto 8 dr_cX14_next_107 (by decide +kernel) ?_
                  refine G_lv (L' := [(0, .ref q669277)]) [1] rfl ?_
                  exact ih8_670436 F670985 g670984 (gB_w bg670984' (by decide) (by decide)) hfr670988 he670986 he670987 (by omega) (by omega) (fun k e1 ht => kt8_670436 k e1 (fun R c1 c2 c3 c4 c5 c6 c7 => c7 g670430 z670674 g670984 k e1 bg670430 r670673 hz670674 bz670674 r670954 hx671000 (ht R c1 c2 c3 c4 c5 c6 c7))) (by omega)
                · have r671002 : z670997.toInt ≠ 10 := gj_neq hc670998 (show Int32.toInt 10 = 10 by decide)
                  refine G_aload_n 1 dr_cX14_next_60 rfl ?_
                  refine G_dup dr_cX14_next_61 rfl ?_
                  refine Gp_get 2 hmq669277 he670986 dr_cX14_next_62 (gk_X14 D I) (Nat.le_of_ble_eq_true rfl) wr_9_38 rfl ?_
                  refine G_iconst 1 dr_cX14_next_65 (by decide +kernel) ?_
                  refine G_iadd dr_cX14_next_66 (G_nam fun z671003 hz671003 => ?_)
                  have ez671003 : z671003.toInt = g670984.toInt + 1 := by rw [gI_add hz671003 bg670984' (gBl (show Int32.toInt 1 = 1 by decide)) (by decide) (by decide), show Int32.toInt 1 = 1 from by decide]
                  have bz671003 : gB z671003 1 8192 := gB_add (gI_add hz671003 bg670984' (gBl (show Int32.toInt 1 = 1 by decide)) (by decide) (by decide)) bg670984' (gBl (show Int32.toInt 1 = 1 by decide)) (by decide) (by decide)
                  refine Gp_put 2 hmq669277 he670986 dr_cX14_next_67 (gk_X14 D I) (Nat.le_of_ble_eq_true rfl) wr_9_38 rfl rfl rfl (Nat.le_of_ble_eq_true rfl) (fun F671004 e671005 n671006 => ?_)
                  have he671007 : F671004 q669278 = .inl (I .byte, 8192, .inl f669292) := (n671006 q669278 (rn_ao he670987 he670986)).trans he670987
                  have he671008 : F671004 q669277 = .inr (19, [.ref q669278, .int p669279, .int z671003, .int p669281, .int p669282, .int p669283, .int p669281, .ref qo669285, .int p669286, .int p669287, .int p669288, .ref qo669289, .ref qo669290, .int p669291]) := e671005
                  have hfr671009 : rFr [q669277] P669275 F669276 F671004 := rFr_put' List.mem_cons_self hfr670988 n671006
                  refine G_goto 35 dr_cX14_next_70 (by decide +kernel) ?_
                  exact ih35_670991 F671004 z671003 (gB_w bz671003 (by decide) (by decide)) hfr671009 he671008 he671007 (by omega) (by omega) (by omega) (fun k e1 ht => kt35_670991 k e1 (fun R c1 c2 c3 => c3 g670984 z670997 z671003 k e1 bg670984 r670996 hz670997 bz670997 r671002 ez671003 (ht R c1 c2 c3))) (by omega)
          exact hlp35_670991 (((p669279.toInt : Int) + 1 - g670430.toInt).toNat + 1) F670431 g670430 (gB_w bg670430' (by decide) (by decide)) hfr670434 he670432 he670433 (by omega) (by omega) (by omega) (fun k e1 ht => ht) (Nat.lt_succ_self _)
  exact hlp8_670436 (((p669279.toInt : Int) + 1 - p669280.toInt).toNat + 1) F669297 p669280 bp669280 hfr669302 he669301 he669300 (by omega) (by omega) (fun k e1 ht => ht) (Nat.lt_succ_self _)
