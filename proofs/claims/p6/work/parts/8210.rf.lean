theorem dr_cX14_next_0 : decode cX14_next 0 = .ok (.aload_n 0, 1) := by decide +kernel
theorem dr_cX14_next_1 : decode cX14_next 1 = .ok (.aload_n 0, 1) := by decide +kernel
theorem dr_cX14_next_2 : decode cX14_next 2 = .ok (.getfield 38, 3) := by decide +kernel
theorem dr_cX14_next_5 : decode cX14_next 5 = .ok (.putfield 41, 3) := by decide +kernel
theorem wr_9_42 : (Jvm.Cond.fieldLink "SpillForgeModel$Reader" (41 : Nat) "SpillForgeModel$Reader" "before" "I") ∈ gw := gw_9 42 rfl rfl
theorem dr_cX14_next_8 : decode cX14_next 8 = .ok (.aload_n 0, 1) := by decide +kernel
theorem dr_cX14_next_9 : decode cX14_next 9 = .ok (.getfield 44, 3) := by decide +kernel
theorem dr_cX14_next_12 : decode cX14_next 12 = .ok (.aload_n 0, 1) := by decide +kernel
theorem dr_cX14_next_13 : decode cX14_next 13 = .ok (.getfield 32, 3) := by decide +kernel
theorem dr_cX14_next_16 : decode cX14_next 16 = .ok (.if_icmp .ge 94, 3) := by decide +kernel
theorem dr_cX14_next_110 : decode cX14_next 110 = .ok (.aload_n 0, 1) := by decide +kernel
theorem dr_cX14_next_111 : decode cX14_next 111 = .ok (.aload_n 0, 1) := by decide +kernel
theorem dr_cX14_next_112 : decode cX14_next 112 = .ok (.getfield 44, 3) := by decide +kernel
theorem dr_cX14_next_115 : decode cX14_next 115 = .ok (.putfield 47, 3) := by decide +kernel
theorem wr_9_40 : (Jvm.Cond.fieldLink "SpillForgeModel$Reader" (47 : Nat) "SpillForgeModel$Reader" "place" "I") ∈ gw := gw_9 40 rfl rfl
theorem dr_cX14_next_118 : decode cX14_next 118 = .ok (.aload_n 0, 1) := by decide +kernel
theorem dr_cX14_next_119 : decode cX14_next 119 = .ok (.ldc 9, 2) := by decide +kernel
theorem dr_cX14_next_121 : decode cX14_next 121 = .ok (.putfield 11, 3) := by decide +kernel
theorem dr_cX14_next_124 : decode cX14_next 124 = .ok (.aload_n 0, 1) := by decide +kernel
theorem dr_cX14_next_125 : decode cX14_next 125 = .ok (.getfield 44, 3) := by decide +kernel
theorem dr_cX14_next_128 : decode cX14_next 128 = .ok (.aload_n 0, 1) := by decide +kernel
theorem dr_cX14_next_129 : decode cX14_next 129 = .ok (.getfield 32, 3) := by decide +kernel
theorem dr_cX14_next_132 : decode cX14_next 132 = .ok (.if_icmp .ne 9, 3) := by decide +kernel
theorem dr_cX14_next_141 : decode cX14_next 141 = .ok (.aload_n 0, 1) := by decide +kernel
theorem dr_cX14_next_142 : decode cX14_next 142 = .ok (.getfield 28, 3) := by decide +kernel
theorem dr_cX14_next_145 : decode cX14_next 145 = .ok (.aload_n 0, 1) := by decide +kernel
theorem dr_cX14_next_146 : decode cX14_next 146 = .ok (.getfield 44, 3) := by decide +kernel
theorem dr_cX14_next_149 : decode cX14_next 149 = .ok (.baload, 1) := by decide +kernel
theorem dr_cX14_next_150 : decode cX14_next 150 = .ok (.istore_n 1, 1) := by decide +kernel
theorem dr_cX14_next_209 : decode cX14_next 209 = .ok (.iload_n 1, 1) := by decide +kernel
theorem dr_cX14_next_210 : decode cX14_next 210 = .ok (.invokestatic 54, 3) := by decide +kernel
theorem dr_cX14_next_213 : decode cX14_next 213 = .ok (.ifCond .eq 10, 3) := by decide +kernel
theorem dr_cX14_next_223 : decode cX14_next 223 = .ok (.iload_n 1, 1) := by decide +kernel
theorem dr_cX14_next_224 : decode cX14_next 224 = .ok (.invokestatic 50, 3) := by decide +kernel
theorem dr_cX14_next_227 : decode cX14_next 227 = .ok (.ifCond .ne 7, 3) := by decide +kernel
theorem dr_cX14_next_234 : decode cX14_next 234 = .ok (.aload_n 0, 1) := by decide +kernel
theorem dr_cX14_next_235 : decode cX14_next 235 = .ok (.iload_n 2, 1) := by decide +kernel
theorem dr_cX14_next_236 : decode cX14_next 236 = .ok (.invokevirtual 60, 3) := by decide +kernel
theorem wr_8_218 : (Jvm.Cond.methodLink "SpillForgeModel$Reader" (60 : Nat) ({ cls := "SpillForgeModel$Reader", name := "number", desc := "(Z)V" } : Jvm.MethodName)) ∈ gw := gw_8 218 rfl rfl
theorem wr_8_221 : (Jvm.Cond.code ({ cls := "SpillForgeModel$Reader", name := "number", desc := "(Z)V" } : Jvm.MethodName) prog_17_method_6_code (4 : Nat) (Option.none : Option Jvm.ClassFile.FieldType)) ∈ gw := gw_8 221 rfl rfl
theorem wr_8_220 : (Jvm.Cond.instanceMethod ({ cls := "SpillForgeModel$Reader", name := "number", desc := "(Z)V" } : Jvm.MethodName)) ∈ gw := gw_8 220 rfl rfl
theorem wr_p_77 : Cond.selects "SpillForgeModel$Reader" ⟨"SpillForgeModel$Reader", "number", "(Z)V"⟩ ⟨"SpillForgeModel$Reader", "number", "(Z)V"⟩ ∈ gw := gw_p _ 77 rfl rfl rfl
theorem dr_cX14_next_239 : decode cX14_next 239 = .ok (.goto 8, 3) := by decide +kernel
theorem dr_cX14_next_247 : decode cX14_next 247 = .ok (.return_, 1) := by decide +kernel
theorem dr_cX14_next_230 : decode cX14_next 230 = .ok (.iload_n 2, 1) := by decide +kernel
theorem dr_cX14_next_231 : decode cX14_next 231 = .ok (.ifCond .eq 11, 3) := by decide +kernel
theorem dr_cX14_next_242 : decode cX14_next 242 = .ok (.aload_n 0, 1) := by decide +kernel
theorem dr_cX14_next_243 : decode cX14_next 243 = .ok (.iload_n 1, 1) := by decide +kernel
theorem dr_cX14_next_244 : decode cX14_next 244 = .ok (.invokevirtual 64, 3) := by decide +kernel
theorem wr_8_223 : (Jvm.Cond.methodLink "SpillForgeModel$Reader" (64 : Nat) ({ cls := "SpillForgeModel$Reader", name := "symbol", desc := "(I)V" } : Jvm.MethodName)) ∈ gw := gw_8 223 rfl rfl
theorem wr_8_226 : (Jvm.Cond.code ({ cls := "SpillForgeModel$Reader", name := "symbol", desc := "(I)V" } : Jvm.MethodName) prog_17_method_7_code (4 : Nat) (Option.none : Option Jvm.ClassFile.FieldType)) ∈ gw := gw_8 226 rfl rfl
theorem wr_8_225 : (Jvm.Cond.instanceMethod ({ cls := "SpillForgeModel$Reader", name := "symbol", desc := "(I)V" } : Jvm.MethodName)) ∈ gw := gw_8 225 rfl rfl
theorem wr_p_78 : Cond.selects "SpillForgeModel$Reader" ⟨"SpillForgeModel$Reader", "symbol", "(I)V"⟩ ⟨"SpillForgeModel$Reader", "symbol", "(I)V"⟩ ∈ gw := gw_p _ 78 rfl rfl rfl
theorem dr_cX14_next_216 : decode cX14_next 216 = .ok (.aload_n 0, 1) := by decide +kernel
theorem dr_cX14_next_217 : decode cX14_next 217 = .ok (.invokevirtual 57, 3) := by decide +kernel
theorem wr_7_225 : (Jvm.Cond.methodLink "SpillForgeModel$Reader" (57 : Nat) ({ cls := "SpillForgeModel$Reader", name := "word", desc := "()V" } : Jvm.MethodName)) ∈ gw := gw_7 225 rfl rfl
theorem wr_7_228 : (Jvm.Cond.code ({ cls := "SpillForgeModel$Reader", name := "word", desc := "()V" } : Jvm.MethodName) prog_17_method_5_code (4 : Nat) (Option.none : Option Jvm.ClassFile.FieldType)) ∈ gw := gw_7 228 rfl rfl
theorem wr_7_227 : (Jvm.Cond.instanceMethod ({ cls := "SpillForgeModel$Reader", name := "word", desc := "()V" } : Jvm.MethodName)) ∈ gw := gw_7 227 rfl rfl
theorem wr_p_76 : Cond.selects "SpillForgeModel$Reader" ⟨"SpillForgeModel$Reader", "word", "()V"⟩ ⟨"SpillForgeModel$Reader", "word", "()V"⟩ ∈ gw := gw_p _ 76 rfl rfl rfl
theorem dr_cX14_next_220 : decode cX14_next 220 = .ok (.goto 27, 3) := by decide +kernel
theorem dr_cX14_next_151 : decode cX14_next 151 = .ok (.iload_n 1, 1) := by decide +kernel
theorem dr_cX14_next_152 : decode cX14_next 152 = .ok (.bipush 45, 2) := by decide +kernel
theorem dr_cX14_next_154 : decode cX14_next 154 = .ok (.if_icmp .ne 53, 3) := by decide +kernel
theorem dr_cX14_next_207 : decode cX14_next 207 = .ok (.iconst 0, 1) := by decide +kernel
theorem dr_cX14_next_208 : decode cX14_next 208 = .ok (.istore_n 2, 1) := by decide +kernel
theorem dr_cX14_next_157 : decode cX14_next 157 = .ok (.aload_n 0, 1) := by decide +kernel
theorem dr_cX14_next_158 : decode cX14_next 158 = .ok (.getfield 44, 3) := by decide +kernel
theorem dr_cX14_next_161 : decode cX14_next 161 = .ok (.iconst 1, 1) := by decide +kernel
theorem dr_cX14_next_162 : decode cX14_next 162 = .ok (.iadd, 1) := by decide +kernel
theorem dr_cX14_next_163 : decode cX14_next 163 = .ok (.aload_n 0, 1) := by decide +kernel
theorem dr_cX14_next_164 : decode cX14_next 164 = .ok (.getfield 32, 3) := by decide +kernel
theorem dr_cX14_next_167 : decode cX14_next 167 = .ok (.if_icmp .ge 40, 3) := by decide +kernel
theorem dr_cX14_next_170 : decode cX14_next 170 = .ok (.aload_n 0, 1) := by decide +kernel
theorem dr_cX14_next_171 : decode cX14_next 171 = .ok (.getfield 28, 3) := by decide +kernel
theorem dr_cX14_next_174 : decode cX14_next 174 = .ok (.aload_n 0, 1) := by decide +kernel
theorem dr_cX14_next_175 : decode cX14_next 175 = .ok (.getfield 44, 3) := by decide +kernel
theorem dr_cX14_next_178 : decode cX14_next 178 = .ok (.iconst 1, 1) := by decide +kernel
theorem dr_cX14_next_179 : decode cX14_next 179 = .ok (.iadd, 1) := by decide +kernel
theorem dr_cX14_next_180 : decode cX14_next 180 = .ok (.baload, 1) := by decide +kernel
theorem dr_cX14_next_181 : decode cX14_next 181 = .ok (.invokestatic 50, 3) := by decide +kernel
theorem dr_cX14_next_184 : decode cX14_next 184 = .ok (.ifCond .eq 23, 3) := by decide +kernel
theorem dr_cX14_next_187 : decode cX14_next 187 = .ok (.aload_n 0, 1) := by decide +kernel
theorem dr_cX14_next_188 : decode cX14_next 188 = .ok (.getfield 41, 3) := by decide +kernel
theorem dr_cX14_next_191 : decode cX14_next 191 = .ok (.iconst 2, 1) := by decide +kernel
theorem dr_cX14_next_192 : decode cX14_next 192 = .ok (.if_icmp .eq 15, 3) := by decide +kernel
theorem dr_cX14_next_195 : decode cX14_next 195 = .ok (.aload_n 0, 1) := by decide +kernel
theorem dr_cX14_next_196 : decode cX14_next 196 = .ok (.getfield 41, 3) := by decide +kernel
theorem dr_cX14_next_199 : decode cX14_next 199 = .ok (.iconst 4, 1) := by decide +kernel
theorem dr_cX14_next_200 : decode cX14_next 200 = .ok (.if_icmp .eq 7, 3) := by decide +kernel
theorem dr_cX14_next_203 : decode cX14_next 203 = .ok (.iconst 1, 1) := by decide +kernel
theorem dr_cX14_next_204 : decode cX14_next 204 = .ok (.goto 4, 3) := by decide +kernel
theorem dr_cX14_next_135 : decode cX14_next 135 = .ok (.aload_n 0, 1) := by decide +kernel
theorem dr_cX14_next_136 : decode cX14_next 136 = .ok (.iconst 0, 1) := by decide +kernel
theorem dr_cX14_next_137 : decode cX14_next 137 = .ok (.putfield 38, 3) := by decide +kernel
theorem dr_cX14_next_140 : decode cX14_next 140 = .ok (.return_, 1) := by decide +kernel
theorem dr_cX14_next_19 : decode cX14_next 19 = .ok (.aload_n 0, 1) := by decide +kernel
theorem dr_cX14_next_20 : decode cX14_next 20 = .ok (.getfield 28, 3) := by decide +kernel
theorem dr_cX14_next_23 : decode cX14_next 23 = .ok (.aload_n 0, 1) := by decide +kernel
theorem dr_cX14_next_24 : decode cX14_next 24 = .ok (.getfield 44, 3) := by decide +kernel
theorem dr_cX14_next_27 : decode cX14_next 27 = .ok (.baload, 1) := by decide +kernel
theorem dr_cX14_next_28 : decode cX14_next 28 = .ok (.istore_n 1, 1) := by decide +kernel
theorem dr_cX14_next_29 : decode cX14_next 29 = .ok (.iload_n 1, 1) := by decide +kernel
theorem dr_cX14_next_30 : decode cX14_next 30 = .ok (.bipush 59, 2) := by decide +kernel
theorem dr_cX14_next_32 : decode cX14_next 32 = .ok (.if_icmp .ne 41, 3) := by decide +kernel
theorem dr_cX14_next_73 : decode cX14_next 73 = .ok (.iload_n 1, 1) := by decide +kernel
theorem dr_cX14_next_74 : decode cX14_next 74 = .ok (.bipush 9, 2) := by decide +kernel
theorem dr_cX14_next_76 : decode cX14_next 76 = .ok (.if_icmp .eq 21, 3) := by decide +kernel
theorem dr_cX14_next_97 : decode cX14_next 97 = .ok (.aload_n 0, 1) := by decide +kernel
theorem dr_cX14_next_98 : decode cX14_next 98 = .ok (.dup, 1) := by decide +kernel
theorem dr_cX14_next_99 : decode cX14_next 99 = .ok (.getfield 44, 3) := by decide +kernel
theorem dr_cX14_next_102 : decode cX14_next 102 = .ok (.iconst 1, 1) := by decide +kernel
theorem dr_cX14_next_103 : decode cX14_next 103 = .ok (.iadd, 1) := by decide +kernel
theorem dr_cX14_next_104 : decode cX14_next 104 = .ok (.putfield 44, 3) := by decide +kernel
theorem dr_cX14_next_107 : decode cX14_next 107 = .ok (.goto (-99), 3) := by decide +kernel
theorem dr_cX14_next_79 : decode cX14_next 79 = .ok (.iload_n 1, 1) := by decide +kernel
theorem dr_cX14_next_80 : decode cX14_next 80 = .ok (.bipush 10, 2) := by decide +kernel
theorem dr_cX14_next_82 : decode cX14_next 82 = .ok (.if_icmp .eq 15, 3) := by decide +kernel
theorem dr_cX14_next_85 : decode cX14_next 85 = .ok (.iload_n 1, 1) := by decide +kernel
theorem dr_cX14_next_86 : decode cX14_next 86 = .ok (.bipush 13, 2) := by decide +kernel
theorem dr_cX14_next_88 : decode cX14_next 88 = .ok (.if_icmp .eq 9, 3) := by decide +kernel
theorem dr_cX14_next_91 : decode cX14_next 91 = .ok (.iload_n 1, 1) := by decide +kernel
theorem dr_cX14_next_92 : decode cX14_next 92 = .ok (.bipush 32, 2) := by decide +kernel
theorem dr_cX14_next_94 : decode cX14_next 94 = .ok (.if_icmp .ne 16, 3) := by decide +kernel
theorem dr_cX14_next_35 : decode cX14_next 35 = .ok (.aload_n 0, 1) := by decide +kernel
theorem dr_cX14_next_36 : decode cX14_next 36 = .ok (.getfield 44, 3) := by decide +kernel
theorem dr_cX14_next_39 : decode cX14_next 39 = .ok (.aload_n 0, 1) := by decide +kernel
theorem dr_cX14_next_40 : decode cX14_next 40 = .ok (.getfield 32, 3) := by decide +kernel
theorem dr_cX14_next_43 : decode cX14_next 43 = .ok (.if_icmp .ge 64, 3) := by decide +kernel
theorem dr_cX14_next_46 : decode cX14_next 46 = .ok (.aload_n 0, 1) := by decide +kernel
theorem dr_cX14_next_47 : decode cX14_next 47 = .ok (.getfield 28, 3) := by decide +kernel
theorem dr_cX14_next_50 : decode cX14_next 50 = .ok (.aload_n 0, 1) := by decide +kernel
theorem dr_cX14_next_51 : decode cX14_next 51 = .ok (.getfield 44, 3) := by decide +kernel
theorem dr_cX14_next_54 : decode cX14_next 54 = .ok (.baload, 1) := by decide +kernel
theorem dr_cX14_next_55 : decode cX14_next 55 = .ok (.bipush 10, 2) := by decide +kernel
theorem dr_cX14_next_57 : decode cX14_next 57 = .ok (.if_icmp .eq 50, 3) := by decide +kernel
theorem dr_cX14_next_60 : decode cX14_next 60 = .ok (.aload_n 0, 1) := by decide +kernel
theorem dr_cX14_next_61 : decode cX14_next 61 = .ok (.dup, 1) := by decide +kernel
theorem dr_cX14_next_62 : decode cX14_next 62 = .ok (.getfield 44, 3) := by decide +kernel
theorem dr_cX14_next_65 : decode cX14_next 65 = .ok (.iconst 1, 1) := by decide +kernel
theorem dr_cX14_next_66 : decode cX14_next 66 = .ok (.iadd, 1) := by decide +kernel
theorem dr_cX14_next_67 : decode cX14_next 67 = .ok (.putfield 44, 3) := by decide +kernel
theorem dr_cX14_next_70 : decode cX14_next 70 = .ok (.goto (-35), 3) := by decide +kernel
abbrev ky_672367_Reader_next : gKey := (cX14_next, 3, "SpillForgeModel$Reader", none, [], "next", fun _ _ => True)
def pp_672367_Reader_next (D : va_G) (I : FieldType → ClassId) (P672346 : List Nat) (F672347 : Nat → va_E) (q672348 : Nat) (q672349 : Nat) (p672350 : Int32) (p672351 : Int32) (p672352 : Int32) (p672353 : Int32) (p672354 : Int32) (p672355 : Int32) (qo672356 : Nat) (p672357 : Int32) (p672358 : Int32) (p672359 : Int32) (qo672360 : Nat) (qo672361 : Nat) (p672362 : Int32) (f672363 : Nat → Int32) : Option Value → va_W → Nat → Nat → Prop := fun r w dc ds => ∃ (P674086 : List Nat) (F674087 : Nat → va_E) (o674081 : Int32) (o674082 : Int32) (o674083 : Int32) (o674084 : Int32) (q674085 : Nat) (xt674088 : gTx), r = none ∧ w = va_pl P674086 F674087 ∧ rSub P672346 P674086 ∧ rFr [q672348] P672346 F672347 F674087 ∧ F674087 q672348 = .inr (19, [.ref q672349, .int p672350, .int o674081, .int o674082, .int o674083, .int o674084, .int p672352, .ref q674085, .int p672357, .int p672358, .int p672359, .ref qo672360, .ref qo672361, .int p672362]) ∧ F674087 q672349 = .inl (I .byte, 8192, .inl f672363) ∧ dc ≤ (16 * (o674081.toInt - p672351.toInt)).toNat ∧ ds ≤ (160 * (o674081.toInt - p672351.toInt)).toNat ∧ gB o674081 0 8192 ∧ gB o674082 0 6 ∧ gB o674083 0 8192 ∧ p672351.toInt ≤ o674081.toInt ∧ prP o674082 p672351 o674081 ∧ o674081.toInt ≤ p672350.toInt ∧ tP I P674086 F674087 o674082 q674085 qo672361 qo672360 xt674088 ∧ vP o674082 o674084 ∧ tr_RReader_next p672350 p672351 p672352 p672354 f672363 o674081 o674082 o674083 o674084 xt674088
set_option maxRecDepth 100000 in
set_option maxHeartbeats 4000000 in
theorem cp_672367_Reader_next (l : Launch) (hl0 : l.stackTraces = false) (D : va_G) (I : FieldType → ClassId) (P672346 : List Nat) (F672347 : Nat → va_E) (q672348 : Nat) (q672349 : Nat) (p672350 : Int32) (p672351 : Int32) (p672352 : Int32) (p672353 : Int32) (p672354 : Int32) (p672355 : Int32) (qo672356 : Nat) (p672357 : Int32) (p672358 : Int32) (p672359 : Int32) (qo672360 : Nat) (qo672361 : Nat) (p672362 : Int32) (f672363 : Nat → Int32) (hmq672348 : q672348 ∈ P672346) (hmq672349 : q672349 ∈ P672346) (heq672348 : F672347 q672348 = .inr (19, [.ref q672349, .int p672350, .int p672351, .int p672352, .int p672353, .int p672354, .int p672355, .ref qo672356, .int p672357, .int p672358, .int p672359, .ref qo672360, .ref qo672361, .int p672362])) (heq672349 : F672347 q672349 = .inl (I .byte, 8192, .inl f672363)) (bp672350 : gB p672350 0 8192) (bp672351 : gB p672351 0 8192) (bp672352 : gB p672352 0 6) (bp672353 : gB p672353 0 8192) (bp672355 : gB p672355 0 6) (bp672357 : gB p672357 (-1) 8192) (bp672358 : gB p672358 0 4) (bp672359 : gB p672359 0 1000000) (bp672362 : gB p672362 0 1000000) (bf672363 : gF f672363 (-128) 127) (x672364 : p672351.toInt ≤ p672350.toInt) (x672365 : qo672361 ∈ P672346) (x672366 : qo672360 ∈ P672346) : CtA (gV D I) l yX14_next cX14_next 3 none 7 155 ((16 * (p672350.toInt - p672351.toInt)).toNat) ((160 * (p672350.toInt - p672351.toInt)).toNat) [.ref q672348] (va_pl P672346 F672347) (pp_672367_Reader_next D I P672346 F672347 q672348 q672349 p672350 p672351 p672352 p672353 p672354 p672355 qo672356 p672357 p672358 p672359 qo672360 qo672361 p672362 f672363) gNA := by
  refine CtA_of hl0 (by decide) (Nat.le_of_ble_eq_true rfl) ?_
  have bp672354 := gB_any p672354
  refine G_aload_n 0 dr_cX14_next_0 rfl ?_
  refine G_aload_n 0 dr_cX14_next_1 rfl ?_
  refine Gp_get 3 hmq672348 heq672348 dr_cX14_next_2 (gk_X14 D I) (Nat.le_of_ble_eq_true rfl) wr_9_39 rfl ?_
  refine Gp_put 6 hmq672348 heq672348 dr_cX14_next_5 (gk_X14 D I) (Nat.le_of_ble_eq_true rfl) wr_9_42 rfl rfl rfl (Nat.le_of_ble_eq_true rfl) (fun F672368 e672369 n672370 => ?_)
  have he672371 : F672368 q672349 = .inl (I .byte, 8192, .inl f672363) := (n672370 q672349 (rn_ao heq672349 heq672348)).trans heq672349
  have he672372 : F672368 q672348 = .inr (19, [.ref q672349, .int p672350, .int p672351, .int p672352, .int p672353, .int p672354, .int p672352, .ref qo672356, .int p672357, .int p672358, .int p672359, .ref qo672360, .ref qo672361, .int p672362]) := e672369
  have hfr672373 : rFr [q672348] P672346 F672347 F672368 := rFr_put (rFr_rf (W := []) (P := P672346) (F := F672347)) n672370
  have hlp8_673507 : ∀ (n8_673507 : Nat) (F673502 : Nat → va_E) (g673501 : Int32), gB g673501 0 8192 → rFr [q672348] P672346 F672347 F673502 → F673502 q672348 = .inr (19, [.ref q672349, .int p672350, .int g673501, .int p672352, .int p672353, .int p672354, .int p672352, .ref qo672356, .int p672357, .int p672358, .int p672359, .ref qo672360, .ref qo672361, .int p672362]) → F673502 q672349 = .inl (I .byte, 8192, .inl f672363) → p672351.toInt ≤ g673501.toInt → g673501.toInt ≤ p672350.toInt → (∀ (k : Nat) (e1 : Int32), tl_RReader_next_8 p672350 f672363 g673501 k e1 → tl_RReader_next_8 p672350 f672363 p672351 k e1) → ((p672350.toInt : Int) + 1 - g673501.toInt).toNat < n8_673507 → G (gV D I) l (gRm 7 155 ((16 * (p672350.toInt - p672351.toInt)).toNat) ((160 * (p672350.toInt - p672351.toInt)).toNat)) (gMA (gV D I) (pp_672367_Reader_next D I P672346 F672347 q672348 q672349 p672350 p672351 p672352 p672353 p672354 p672355 qo672356 p672357 p672358 p672359 qo672360 qo672361 p672362 f672363) gNA ((16 * (p672350.toInt - p672351.toInt)).toNat) ((160 * (p672350.toInt - p672351.toInt)).toNat)) ky_672367_Reader_next 8 [(0, .ref q672348)] [] (va_pl P672346 F673502) 0 0 := by
    intro n8_673507
    induction n8_673507 with
    | zero => intro F673502 g673501 bg673501 hfr673505 he673503 he673504 x673506 x673507 kt8_673507 hm8_673507; exact absurd hm8_673507 (Nat.not_lt_zero _)
    | succ n8_673507 ih8_673507 =>
      intro F673502 g673501 bg673501 hfr673505 he673503 he673504 x673506 x673507 kt8_673507 hm8_673507
      refine G_aload_n 0 dr_cX14_next_8 rfl ?_
      refine Gp_get 2 hmq672348 he673503 dr_cX14_next_9 (gk_X14 D I) (Nat.le_of_ble_eq_true rfl) wr_9_38 rfl ?_
      refine G_aload_n 0 dr_cX14_next_12 rfl ?_
      refine Gp_get 1 hmq672348 he673503 dr_cX14_next_13 (gk_X14 D I) (Nat.le_of_ble_eq_true rfl) wr_9_37 rfl ?_
      refine G_icmp_ge 110 dr_cX14_next_16 (by decide +kernel) (fun hc673508 => ?_) (fun hc673508 => ?_)
      · have r673509 : p672350.toInt ≤ g673501.toInt := gC_le hc673508
        have hx673510 : tl_RReader_next_8 p672350 f672363 p672351 110 g673501 := kt8_673507 110 g673501 (fun R c1 c2 c3 c4 c5 c6 c7 => c1 g673501 bg673501 r673509)
        clear he672371 he672372 hfr672373
        refine G_aload_n 0 dr_cX14_next_110 rfl ?_
        refine G_aload_n 0 dr_cX14_next_111 rfl ?_
        refine Gp_get 2 hmq672348 he673503 dr_cX14_next_112 (gk_X14 D I) (Nat.le_of_ble_eq_true rfl) wr_9_38 rfl ?_
        refine Gp_put 4 hmq672348 he673503 dr_cX14_next_115 (gk_X14 D I) (Nat.le_of_ble_eq_true rfl) wr_9_40 rfl rfl rfl (Nat.le_of_ble_eq_true rfl) (fun F673511 e673512 n673513 => ?_)
        have he673514 : F673511 q672349 = .inl (I .byte, 8192, .inl f672363) := (n673513 q672349 (rn_ao he673504 he673503)).trans he673504
        have he673515 : F673511 q672348 = .inr (19, [.ref q672349, .int p672350, .int g673501, .int p672352, .int g673501, .int p672354, .int p672352, .ref qo672356, .int p672357, .int p672358, .int p672359, .ref qo672360, .ref qo672361, .int p672362]) := e673512
        have hfr673516 : rFr [q672348] P672346 F672347 F673511 := rFr_put' List.mem_cons_self hfr673505 n673513
        refine G_aload_n 0 dr_cX14_next_118 rfl ?_
        refine G_ldcK (a := D.2 1000 32) dr_cX14_next_119 (fun _ _ _ h => gx_vk 32 rfl rfl h) ?_
        have hl32_673516 : (sb_32.length : Int) = 0 := rfl
        refine Gp_put 7 hmq672348 he673515 dr_cX14_next_121 (gk_X14 D I) (Nat.le_of_ble_eq_true rfl) wr_9_43 rfl rfl rfl (Nat.le_of_ble_eq_true rfl) (fun F673518 e673519 n673520 => ?_)
        have he673521 : F673518 q672349 = .inl (I .byte, 8192, .inl f672363) := (n673520 q672349 (rn_ao he673514 he673515)).trans he673514
        have he673522 : F673518 q672348 = .inr (19, [.ref q672349, .int p672350, .int g673501, .int p672352, .int g673501, .int p672354, .int p672352, .ref (D.2 1000 32), .int p672357, .int p672358, .int p672359, .ref qo672360, .ref qo672361, .int p672362]) := e673519
        have hfr673523 : rFr [q672348] P672346 F672347 F673518 := rFr_put' List.mem_cons_self hfr673516 n673520
        clear he673514 he673515 hfr673516
        refine G_aload_n 0 dr_cX14_next_124 rfl ?_
        refine Gp_get 2 hmq672348 he673522 dr_cX14_next_125 (gk_X14 D I) (Nat.le_of_ble_eq_true rfl) wr_9_38 rfl ?_
        refine G_aload_n 0 dr_cX14_next_128 rfl ?_
        refine Gp_get 1 hmq672348 he673522 dr_cX14_next_129 (gk_X14 D I) (Nat.le_of_ble_eq_true rfl) wr_9_37 rfl ?_
        refine G_icmp_ne 141 dr_cX14_next_132 (by decide +kernel) (fun hc673524 => ?_) (fun hc673524 => ?_)
        · have r673525 : g673501.toInt ≠ p672350.toInt := gC_ne hc673524
          refine G_aload_n 0 dr_cX14_next_141 rfl ?_
          refine Gp_get 0 hmq672348 he673522 dr_cX14_next_142 (gk_X14 D I) (Nat.le_of_ble_eq_true rfl) wr_9_36 rfl ?_
          refine G_aload_n 0 dr_cX14_next_145 rfl ?_
          refine Gp_get 2 hmq672348 he673522 dr_cX14_next_146 (gk_X14 D I) (Nat.le_of_ble_eq_true rfl) wr_9_38 rfl ?_
          refine Gp_bald 1 hmq672349 he673521 dr_cX14_next_149 rfl (gB_inr (by omega) (by omega)) (G_nam fun z673526 hz673526 => ?_)
          have bz673526 : gB z673526 (-128) 127 := by rw [hz673526]; exact bf672363 _
          refine G_istore_n (L' := [(1, .int z673526), (0, .ref q672348)]) dr_cX14_next_150 (Nat.le_of_ble_eq_true rfl) rfl ?_
          have jn673527 : ((z673526.toInt ≠ 45) ∨ (∃ (y1 : Int32), z673526.toInt = 45 ∧ y1.toInt = g673501.toInt + 1 ∧ p672350.toInt ≤ y1.toInt) ∨ (∃ (y1 : Int32) (y2 : Int32) (y3 : Int32), z673526.toInt = 45 ∧ y1.toInt = g673501.toInt + 1 ∧ y1.toInt < p672350.toInt ∧ y2 = f672363 y1.toNatClampNeg ∧ gB y2 (-128) 127 ∧ gB y3 0 1 ∧ tr_RReader_isDigit2 y2 y3 ∧ y3.toInt = 0) ∨ (∃ (y1 : Int32) (y2 : Int32) (y3 : Int32), z673526.toInt = 45 ∧ y1.toInt = g673501.toInt + 1 ∧ y1.toInt < p672350.toInt ∧ y2 = f672363 y1.toNatClampNeg ∧ gB y2 (-128) 127 ∧ gB y3 0 1 ∧ tr_RReader_isDigit2 y2 y3 ∧ y3.toInt ≠ 0 ∧ p672352.toInt = 2) ∨ (∃ (y1 : Int32) (y2 : Int32) (y3 : Int32), z673526.toInt = 45 ∧ y1.toInt = g673501.toInt + 1 ∧ y1.toInt < p672350.toInt ∧ y2 = f672363 y1.toNatClampNeg ∧ gB y2 (-128) 127 ∧ gB y3 0 1 ∧ tr_RReader_isDigit2 y2 y3 ∧ y3.toInt ≠ 0 ∧ p672352.toInt ≠ 2 ∧ p672352.toInt = 4)) → G (gV D I) l (gRm 7 155 ((16 * (p672350.toInt - p672351.toInt)).toNat) ((160 * (p672350.toInt - p672351.toInt)).toNat)) (gMA (gV D I) (pp_672367_Reader_next D I P672346 F672347 q672348 q672349 p672350 p672351 p672352 p672353 p672354 p672355 qo672356 p672357 p672358 p672359 qo672360 qo672361 p672362 f672363) gNA ((16 * (p672350.toInt - p672351.toInt)).toNat) ((160 * (p672350.toInt - p672351.toInt)).toNat)) ky_672367_Reader_next 209 [(2, .int 0), (1, .int z673526), (0, .ref q672348)] [] (va_pl P672346 F673518) 0 0 := by
            intro hJ673528
            refine G_iload_n 1 dr_cX14_next_209 rfl ?_
            refine Gw_callS (As := [.int z673526]) (gV_ok D I) (cp_670062_Reader_isLetter l hl0 D I P672346 F673518 z673526 ) dr_cX14_next_210 ⟨wr_7_222, wr_1_32, wr_7_224, by decide, rfl, (Nat.le_of_ble_eq_true rfl), (Nat.le_of_ble_eq_true rfl)⟩ wr_7_223 (show 0 + 0 ≤ ((16 * (p672350.toInt - p672351.toInt)).toNat) by first | omega | decide) (show 0 + 0 ≤ ((160 * (p672350.toInt - p672351.toInt)).toNat) by first | omega | decide) (Nat.le_of_ble_eq_true rfl) (fun r673532 w673533 dc673529 ds673530 hp673531 => ?_) (fun _ _ _ _ _ z => z.elim)
            obtain ⟨o673534, rfl, rfl, hdc, hds, bo673534, x673535, ht673536⟩ := hp673531
            change G _ _ _ _ _ _ _ (.int o673534 :: _) _ _ _
            refine G_widen (cs' := 0) (sl' := 0) (by omega) (by omega) ?_
            refine G_if_eq 223 dr_cX14_next_213 (by decide +kernel) (fun hc673537 => ?_) (fun hc673537 => ?_)
            · have r673538 : o673534.toInt = 0 := gj_eq hc673537 (show Int32.toInt 0 = 0 by decide)
              have bo673534' : gB o673534 0 0 := ⟨by omega, by omega⟩
              clear bo673534'; try clear r673532; try clear w673533; try clear dc673529; try clear ds673530; try clear hp673531; try clear x673535
              refine G_iload_n 1 dr_cX14_next_223 rfl ?_
              refine Gw_callS (As := [.int z673526]) (gV_ok D I) (cp_668112_Reader_isDigit l hl0 D I P672346 F673518 z673526 ) dr_cX14_next_224 ⟨wr_7_219, wr_1_32, wr_7_221, by decide, rfl, (Nat.le_of_ble_eq_true rfl), (Nat.le_of_ble_eq_true rfl)⟩ wr_7_220 (show 0 + 0 ≤ ((16 * (p672350.toInt - p672351.toInt)).toNat) by first | omega | decide) (show 0 + 0 ≤ ((160 * (p672350.toInt - p672351.toInt)).toNat) by first | omega | decide) (Nat.le_of_ble_eq_true rfl) (fun r673542 w673543 dc673539 ds673540 hp673541 => ?_) (fun _ _ _ _ _ z => z.elim)
              obtain ⟨o673544, rfl, rfl, hdc, hds, bo673544, x673545, ht673546⟩ := hp673541
              change G _ _ _ _ _ _ _ (.int o673544 :: _) _ _ _
              refine G_widen (cs' := 0) (sl' := 0) (by omega) (by omega) ?_
              refine G_if_ne 234 dr_cX14_next_227 (by decide +kernel) (fun hc673547 => ?_) (fun hc673547 => ?_)
              · have r673548 : o673544.toInt ≠ 0 := gj_neq hc673547 (show Int32.toInt 0 = 0 by decide)
                have bo673544' : gB o673544 1 1 := ⟨by omega, by omega⟩
                have bi673549 : gB z673526 48 57 := isP_1 x673545 (by omega)
                refine G_aload_n 2 dr_cX14_next_234 rfl ?_
                refine G_iload_n 0 dr_cX14_next_235 rfl ?_
                refine Gw_callV (As := [.int 0]) (gV_ok D I) (cp_668076_Reader_number l hl0 D I P672346 F673518 q672348 q672349 0 p672350 g673501 p672352 g673501 p672354 p672352 (D.2 1000 32) p672357 p672358 p672359 qo672360 qo672361 p672362 f672363 hmq672348 hmq672349 he673522 he673521 (gB_w (gBl (show Int32.toInt 0 = 0 by decide)) (by decide) (by decide)) bp672350 bg673501 bp672352 bg673501 bp672352 bp672357 bp672358 bp672359 bp672362 bf672363 (by have qa0 : Int32.toInt 0 = 0 := (by decide); omega) (by have qa0 : Int32.toInt 0 = 0 := (by decide); omega) (by first | assumption | exact cDg_no (by omega) | exact cDg_no (by decide) | exact cDg_of (by assumption) (by omega) (by omega)) x672365 x672366) dr_cX14_next_236 ⟨wr_8_218, wr_1_32, wr_8_221, by decide, rfl, (Nat.le_of_ble_eq_true rfl), (Nat.le_of_ble_eq_true rfl)⟩ wr_8_220 wr_p_77 hmq672348 he673522 rfl (show 0 + ((16 * (p672350.toInt - g673501.toInt)).toNat) ≤ ((16 * (p672350.toInt - p672351.toInt)).toNat) by first | omega | decide) (show 0 + ((160 * (p672350.toInt - g673501.toInt)).toNat) ≤ ((160 * (p672350.toInt - p672351.toInt)).toNat) by first | omega | decide) (Nat.le_of_ble_eq_true rfl) (fun r673553 w673554 dc673550 ds673551 hp673552 => ?_) (fun _ _ _ _ _ z => z.elim)
                obtain ⟨F673564, o673555, o673556, o673557, xt673563, rfl, rfl, hfr673566, he673567, he673568, hdc, hds, bo673555, bo673556, x673558, x673559, x673560, x673561, ht673562⟩ := hp673552
                have hfr673569 : rFr [q672348] P672346 F672347 F673564 := rFr_call (rSub_rf (P := P672346)) hfr673523 hfr673566 (fun b hb hn => ⟨(nm_c (fun e => hn (e ▸ List.mem_cons_self)) nm_n), (nm_c (fun e => hn (e ▸ List.mem_cons_self)) nm_n)⟩)
                have bo673557 := gB_any o673557
                change G _ _ _ _ _ _ _ _ _ _ _
                refine G_widen (cs' := (16 * (o673555.toInt - g673501.toInt)).toNat) (sl' := (160 * (o673555.toInt - g673501.toInt)).toNat) (by omega) (by omega) ?_
                refine G_goto 247 dr_cX14_next_239 (by decide +kernel) ?_
                exact G_vretA dr_cX14_next_247 rfl (show (16 * (o673555.toInt - g673501.toInt)).toNat ≤ ((16 * (p672350.toInt - p672351.toInt)).toNat) by omega) (show (160 * (o673555.toInt - g673501.toInt)).toNat ≤ ((160 * (p672350.toInt - p672351.toInt)).toNat) by omega) ⟨P672346, F673564, o673555, o673556, g673501, o673557, (D.2 1000 32), xt673563, rfl, rfl, (rSub_rf (P := P672346)), hfr673569, he673567, he673568, (by omega), (by omega), bo673555, (gB_w bo673556 (by decide) (by decide)), bg673501, (by have qa0 : Int32.toInt 0 = 0 := (by decide); omega), (Or.inr (by omega)), (by have qa0 : Int32.toInt 0 = 0 := (by decide); omega), (by first | exact tP_no (by omega) (by omega) | assumption), x673561, (fun R c1 c2 c3 c4 c5 c6 c7 c8 c9 c10 c11 c12 c13 => c1 g673501 z673526 o673534 o673544 xt673563 o673555 o673556 o673557 hx673510 r673525 hz673526 bz673526 hJ673528 bo673534 ht673536 r673538 bo673544 ht673546 r673548 bo673555 bo673556 ht673562)⟩
              · have r673570 : o673544.toInt = 0 := gj_eq hc673547 (show Int32.toInt 0 = 0 by decide)
                have bo673544' : gB o673544 0 0 := ⟨by omega, by omega⟩
                refine G_iload_n 0 dr_cX14_next_230 rfl ?_
                refine G_if_eq 242 dr_cX14_next_231 (by decide +kernel) (fun _ => ?_) (fun hc => absurd hc (by decide))
                refine G_aload_n 2 dr_cX14_next_242 rfl ?_
                refine G_iload_n 1 dr_cX14_next_243 rfl ?_
                refine Gw_callV (As := [.int z673526]) (gV_ok D I) (cp_668699_Reader_symbol l hl0 D I P672346 F673518 q672348 q672349 z673526 p672350 g673501 p672352 g673501 p672354 p672352 (D.2 1000 32) p672357 p672358 p672359 qo672360 qo672361 p672362 f672363 hmq672348 hmq672349 he673522 he673521 bz673526 bp672350 bg673501 bp672352 bg673501 bp672352 bp672357 bp672358 bp672359 bp672362 bf672363 (by have qa0 : Int32.toInt 0 = 0 := (by decide); omega) (by have qa0 : Int32.toInt 0 = 0 := (by decide); omega) x672365 x672366) dr_cX14_next_244 ⟨wr_8_223, wr_1_32, wr_8_226, by decide, rfl, (Nat.le_of_ble_eq_true rfl), (Nat.le_of_ble_eq_true rfl)⟩ wr_8_225 wr_p_78 hmq672348 he673522 rfl (show 0 + ((16 * (p672350.toInt - g673501.toInt)).toNat) ≤ ((16 * (p672350.toInt - p672351.toInt)).toNat) by first | omega | decide) (show 0 + ((160 * (p672350.toInt - g673501.toInt)).toNat) ≤ ((160 * (p672350.toInt - p672351.toInt)).toNat) by first | omega | decide) (Nat.le_of_ble_eq_true rfl) (fun r673574 w673575 dc673571 ds673572 hp673573 => ?_) (fun _ _ _ _ _ z => z.elim)
                obtain ⟨P673585, F673586, o673576, o673577, q673578, xt673584, rfl, rfl, hsb673587, hfr673588, he673589, he673590, hdc, hds, bo673576, bo673577, x673579, x673580, x673581, x673582, ht673583⟩ := hp673573
                have hm673591 : q672348 ∈ P673585 := hsb673587 q672348 hmq672348
                have hm673592 : q672349 ∈ P673585 := hsb673587 q672349 hmq672349
                have hsb673593 : rSub P672346 P673585 := rSub_tr (rSub_rf (P := P672346)) hsb673587
                have hfr673594 : rFr [q672348] P672346 F672347 F673586 := rFr_call (rSub_rf (P := P672346)) hfr673523 hfr673588 (fun b hb hn => ⟨(nm_c (fun e => hn (e ▸ List.mem_cons_self)) nm_n), (nm_c (fun e => hn (e ▸ List.mem_cons_self)) nm_n)⟩)
                change G _ _ _ _ _ _ _ _ _ _ _
                refine G_widen (cs' := (16 * (o673576.toInt - g673501.toInt)).toNat) (sl' := (160 * (o673576.toInt - g673501.toInt)).toNat) (by omega) (by omega) ?_
                exact G_vretA dr_cX14_next_247 rfl (show (16 * (o673576.toInt - g673501.toInt)).toNat ≤ ((16 * (p672350.toInt - p672351.toInt)).toNat) by omega) (show (160 * (o673576.toInt - g673501.toInt)).toNat ≤ ((160 * (p672350.toInt - p672351.toInt)).toNat) by omega) ⟨P673585, F673586, o673576, o673577, g673501, p672354, q673578, xt673584, rfl, rfl, hsb673593, hfr673594, he673589, he673590, (by omega), (by omega), (gB_w bo673576 (by decide) (by decide)), (gB_w bo673577 (by decide) (by decide)), bg673501, (by have qa0 : Int32.toInt 0 = 0 := (by decide); omega), (Or.inr (by omega)), (by have qa0 : Int32.toInt 0 = 0 := (by decide); omega), x673581, x673582, (fun R c1 c2 c3 c4 c5 c6 c7 c8 c9 c10 c11 c12 c13 => c2 g673501 z673526 o673534 o673544 xt673584 o673576 o673577 hx673510 r673525 hz673526 bz673526 hJ673528 bo673534 ht673536 r673538 bo673544 ht673546 r673570 bo673576 bo673577 ht673583)⟩
            · have r673595 : o673534.toInt ≠ 0 := gj_neq hc673537 (show Int32.toInt 0 = 0 by decide)
              have bo673534' : gB o673534 1 1 := ⟨by omega, by omega⟩
              have bi673596 : gB z673526 97 122 := isP_1 x673535 (by omega)
              refine G_aload_n 2 dr_cX14_next_216 rfl ?_
              refine Gw_callV (As := []) (gV_ok D I) (cp_669718_Reader_word l hl0 D I P672346 F673518 q672348 q672349 p672350 g673501 p672352 g673501 p672354 p672352 (D.2 1000 32) p672357 p672358 p672359 qo672360 qo672361 p672362 f672363 hmq672348 hmq672349 he673522 he673521 bp672350 bg673501 bp672352 bg673501 bp672352 bp672357 bp672358 bp672359 bp672362 bf672363 (by have qa0 : Int32.toInt 0 = 0 := (by decide); omega) (by have qa0 : Int32.toInt 0 = 0 := (by decide); omega) (by first | assumption | exact cLt_of (by assumption) (by omega) (by omega)) x672365 x672366) dr_cX14_next_217 ⟨wr_7_225, wr_1_32, wr_7_228, by decide, rfl, (Nat.le_of_ble_eq_true rfl), (Nat.le_of_ble_eq_true rfl)⟩ wr_7_227 wr_p_76 hmq672348 he673522 rfl (show 0 + ((16 * (p672350.toInt - g673501.toInt)).toNat) ≤ ((16 * (p672350.toInt - p672351.toInt)).toNat) by first | omega | decide) (show 0 + ((160 * (p672350.toInt - g673501.toInt)).toNat) ≤ ((160 * (p672350.toInt - p672351.toInt)).toNat) by first | omega | decide) (Nat.le_of_ble_eq_true rfl) (fun r673600 w673601 dc673597 ds673598 hp673599 => ?_) (fun _ _ _ _ _ z => z.elim)
              obtain ⟨P673612, F673613, o673602, o673603, o673604, q673605, xt673611, rfl, rfl, hsb673614, hfr673615, he673616, he673617, hdc, hds, bo673602, bo673603, x673606, x673607, x673608, x673609, ht673610⟩ := hp673599
              have hm673618 : q672348 ∈ P673612 := hsb673614 q672348 hmq672348
              have hm673619 : q672349 ∈ P673612 := hsb673614 q672349 hmq672349
              have hsb673620 : rSub P672346 P673612 := rSub_tr (rSub_rf (P := P672346)) hsb673614
              have hfr673621 : rFr [q672348] P672346 F672347 F673613 := rFr_call (rSub_rf (P := P672346)) hfr673523 hfr673615 (fun b hb hn => ⟨(nm_c (fun e => hn (e ▸ List.mem_cons_self)) nm_n), (nm_c (fun e => hn (e ▸ List.mem_cons_self)) nm_n)⟩)
              have bo673604 := gB_any o673604
              change G _ _ _ _ _ _ _ _ _ _ _
              refine G_widen (cs' := (16 * (o673602.toInt - g673501.toInt)).toNat) (sl' := (160 * (o673602.toInt - g673501.toInt)).toNat) (by omega) (by omega) ?_
              refine G_goto 247 dr_cX14_next_220 (by decide +kernel) ?_
              exact G_vretA dr_cX14_next_247 rfl (show (16 * (o673602.toInt - g673501.toInt)).toNat ≤ ((16 * (p672350.toInt - p672351.toInt)).toNat) by omega) (show (160 * (o673602.toInt - g673501.toInt)).toNat ≤ ((160 * (p672350.toInt - p672351.toInt)).toNat) by omega) ⟨P673612, F673613, o673602, o673603, g673501, o673604, q673605, xt673611, rfl, rfl, hsb673620, hfr673621, he673616, he673617, (by omega), (by omega), bo673602, (gB_w bo673603 (by decide) (by decide)), bg673501, (by have qa0 : Int32.toInt 0 = 0 := (by decide); omega), (Or.inr (by omega)), (by have qa0 : Int32.toInt 0 = 0 := (by decide); omega), x673608, x673609, (fun R c1 c2 c3 c4 c5 c6 c7 c8 c9 c10 c11 c12 c13 => c3 g673501 z673526 o673534 xt673611 o673602 o673603 o673604 hx673510 r673525 hz673526 bz673526 hJ673528 bo673534 ht673536 r673595 bo673602 bo673603 ht673610)⟩
          refine G_iload_n 0 dr_cX14_next_151 rfl ?_
          refine G_bipush 45 dr_cX14_next_152 (by decide +kernel) ?_
          refine G_icmp_ne 207 dr_cX14_next_154 (by decide +kernel) (fun hc673622 => ?_) (fun hc673622 => ?_)
          · have r673623 : z673526.toInt ≠ 45 := gj_neq hc673622 (show Int32.toInt 45 = 45 by decide)
            refine G_iconst 0 dr_cX14_next_207 (by decide +kernel) ?_
            refine G_istore_n (L' := [(2, .int 0), (1, .int z673526), (0, .ref q672348)]) dr_cX14_next_208 (Nat.le_of_ble_eq_true rfl) rfl ?_
            refine G_lv (L' := [(2, .int 0), (1, .int z673526), (0, .ref q672348)]) [0, 1, 2] rfl ?_
            exact jn673527 (Or.inl r673623)
          · have r673624 : z673526.toInt = 45 := gj_eq hc673622 (show Int32.toInt 45 = 45 by decide)
            have bz673526' : gB z673526 45 45 := ⟨by omega, by omega⟩
            refine G_aload_n 1 dr_cX14_next_157 rfl ?_
            refine Gp_get 2 hmq672348 he673522 dr_cX14_next_158 (gk_X14 D I) (Nat.le_of_ble_eq_true rfl) wr_9_38 rfl ?_
            refine G_iconst 1 dr_cX14_next_161 (by decide +kernel) ?_
            refine G_iadd dr_cX14_next_162 (G_nam fun z673625 hz673625 => ?_)
            have ez673625 : z673625.toInt = g673501.toInt + 1 := by rw [gI_add hz673625 bg673501 (gBl (show Int32.toInt 1 = 1 by decide)) (by decide) (by decide), show Int32.toInt 1 = 1 from by decide]
            have bz673625 : gB z673625 1 8193 := gB_add (gI_add hz673625 bg673501 (gBl (show Int32.toInt 1 = 1 by decide)) (by decide) (by decide)) bg673501 (gBl (show Int32.toInt 1 = 1 by decide)) (by decide) (by decide)
            refine G_aload_n 1 dr_cX14_next_163 rfl ?_
            refine Gp_get 1 hmq672348 he673522 dr_cX14_next_164 (gk_X14 D I) (Nat.le_of_ble_eq_true rfl) wr_9_37 rfl ?_
            refine G_icmp_ge 207 dr_cX14_next_167 (by decide +kernel) (fun hc673626 => ?_) (fun hc673626 => ?_)
            · have r673627 : p672350.toInt ≤ z673625.toInt := gC_le hc673626
              refine G_iconst 0 dr_cX14_next_207 (by decide +kernel) ?_
              refine G_istore_n (L' := [(2, .int 0), (1, .int z673526), (0, .ref q672348)]) dr_cX14_next_208 (Nat.le_of_ble_eq_true rfl) rfl ?_
              refine G_lv (L' := [(2, .int 0), (1, .int z673526), (0, .ref q672348)]) [0, 1, 2] rfl ?_
              exact jn673527 (Or.inr (Or.inl ⟨z673625, r673624, ez673625, r673627⟩))
            · have r673628 : z673625.toInt < p672350.toInt := gC_nle hc673626
              have bz673625' : gB z673625 1 8191 := ⟨by omega, by omega⟩
              have bp672350' : gB p672350 2 8192 := ⟨by omega, by omega⟩
              refine G_aload_n 1 dr_cX14_next_170 rfl ?_
              refine Gp_get 0 hmq672348 he673522 dr_cX14_next_171 (gk_X14 D I) (Nat.le_of_ble_eq_true rfl) wr_9_36 rfl ?_
              refine G_aload_n 1 dr_cX14_next_174 rfl ?_
              refine Gp_get 2 hmq672348 he673522 dr_cX14_next_175 (gk_X14 D I) (Nat.le_of_ble_eq_true rfl) wr_9_38 rfl ?_
              refine G_iconst 1 dr_cX14_next_178 (by decide +kernel) ?_
              refine G_iadd dr_cX14_next_179 (G_eqi (y := z673625) hz673625.symm ?_)
              refine Gp_bald 1 hmq672349 he673521 dr_cX14_next_180 rfl (gB_in bz673625' (by decide) (by decide)) (G_nam fun z673629 hz673629 => ?_)
              have bz673629 : gB z673629 (-128) 127 := by rw [hz673629]; exact bf672363 _
              refine Gw_callS (As := [.int z673629]) (gV_ok D I) (cp_668112_Reader_isDigit l hl0 D I P672346 F673518 z673629 ) dr_cX14_next_181 ⟨wr_7_219, wr_1_32, wr_7_221, by decide, rfl, (Nat.le_of_ble_eq_true rfl), (Nat.le_of_ble_eq_true rfl)⟩ wr_7_220 (show 0 + 0 ≤ ((16 * (p672350.toInt - p672351.toInt)).toNat) by first | omega | decide) (show 0 + 0 ≤ ((160 * (p672350.toInt - p672351.toInt)).toNat) by first | omega | decide) (Nat.le_of_ble_eq_true rfl) (fun r673633 w673634 dc673630 ds673631 hp673632 => ?_) (fun _ _ _ _ _ z => z.elim)
              obtain ⟨o673635, rfl, rfl, hdc, hds, bo673635, x673636, ht673637⟩ := hp673632
              change G _ _ _ _ _ _ _ (.int o673635 :: _) _ _ _
              refine G_widen (cs' := 0) (sl' := 0) (by omega) (by omega) ?_
              refine G_if_eq 207 dr_cX14_next_184 (by decide +kernel) (fun hc673638 => ?_) (fun hc673638 => ?_)
              · have r673639 : o673635.toInt = 0 := gj_eq hc673638 (show Int32.toInt 0 = 0 by decide)
                have bo673635' : gB o673635 0 0 := ⟨by omega, by omega⟩
                refine G_iconst 0 dr_cX14_next_207 (by decide +kernel) ?_
                refine G_istore_n (L' := [(2, .int 0), (1, .int z673526), (0, .ref q672348)]) dr_cX14_next_208 (Nat.le_of_ble_eq_true rfl) rfl ?_
                refine G_lv (L' := [(2, .int 0), (1, .int z673526), (0, .ref q672348)]) [0, 1, 2] rfl ?_
                exact jn673527 (Or.inr (Or.inr (Or.inl ⟨z673625, z673629, o673635, r673624, ez673625, r673628, hz673629, bz673629, bo673635, ht673637, r673639⟩)))
              · have r673640 : o673635.toInt ≠ 0 := gj_neq hc673638 (show Int32.toInt 0 = 0 by decide)
                have bo673635' : gB o673635 1 1 := ⟨by omega, by omega⟩
                have bi673641 : gB z673629 48 57 := isP_1 x673636 (by omega)
                refine G_aload_n 1 dr_cX14_next_187 rfl ?_
                refine Gp_get 6 hmq672348 he673522 dr_cX14_next_188 (gk_X14 D I) (Nat.le_of_ble_eq_true rfl) wr_9_42 rfl ?_
                refine G_iconst 2 dr_cX14_next_191 (by decide +kernel) ?_
                refine G_icmp_eq 207 dr_cX14_next_192 (by decide +kernel) (fun hc673642 => ?_) (fun hc673642 => ?_)
                · have r673643 : p672352.toInt = 2 := gj_eq hc673642 (show Int32.toInt 2 = 2 by decide)
                  have bp672352' : gB p672352 2 2 := ⟨by omega, by omega⟩
                  refine G_iconst 0 dr_cX14_next_207 (by decide +kernel) ?_
                  refine G_istore_n (L' := [(2, .int 0), (1, .int z673526), (0, .ref q672348)]) dr_cX14_next_208 (Nat.le_of_ble_eq_true rfl) rfl ?_
                  refine G_lv (L' := [(2, .int 0), (1, .int z673526), (0, .ref q672348)]) [0, 1, 2] rfl ?_
                  exact jn673527 (Or.inr (Or.inr (Or.inr (Or.inl ⟨z673625, z673629, o673635, r673624, ez673625, r673628, hz673629, bz673629, bo673635, ht673637, r673640, r673643⟩))))
                · have r673644 : p672352.toInt ≠ 2 := gj_neq hc673642 (show Int32.toInt 2 = 2 by decide)
                  refine G_aload_n 1 dr_cX14_next_195 rfl ?_
                  refine Gp_get 6 hmq672348 he673522 dr_cX14_next_196 (gk_X14 D I) (Nat.le_of_ble_eq_true rfl) wr_9_42 rfl ?_
                  refine G_iconst 4 dr_cX14_next_199 (by decide +kernel) ?_
                  refine G_icmp_eq 207 dr_cX14_next_200 (by decide +kernel) (fun hc673645 => ?_) (fun hc673645 => ?_)
                  · have r673646 : p672352.toInt = 4 := gj_eq hc673645 (show Int32.toInt 4 = 4 by decide)
                    have bp672352' : gB p672352 4 4 := ⟨by omega, by omega⟩
                    refine G_iconst 0 dr_cX14_next_207 (by decide +kernel) ?_
                    refine G_istore_n (L' := [(2, .int 0), (1, .int z673526), (0, .ref q672348)]) dr_cX14_next_208 (Nat.le_of_ble_eq_true rfl) rfl ?_
                    refine G_lv (L' := [(2, .int 0), (1, .int z673526), (0, .ref q672348)]) [0, 1, 2] rfl ?_
                    exact jn673527 (Or.inr (Or.inr (Or.inr (Or.inr (⟨z673625, z673629, o673635, r673624, ez673625, r673628, hz673629, bz673629, bo673635, ht673637, r673640, r673644, r673646⟩)))))
                  · have r673647 : p672352.toInt ≠ 4 := gj_neq hc673645 (show Int32.toInt 4 = 4 by decide)
                    refine G_iconst 1 dr_cX14_next_203 (by decide +kernel) ?_
                    refine G_goto 208 dr_cX14_next_204 (by decide +kernel) ?_
                    refine G_istore_n (L' := [(2, .int 1), (1, .int z673526), (0, .ref q672348)]) dr_cX14_next_208 (Nat.le_of_ble_eq_true rfl) rfl ?_
                    clear jn673527 bz673625 bo673635'; try clear r673633; try clear w673634; try clear dc673630; try clear ds673631; try clear hp673632; try clear x673636
                    refine G_iload_n 1 dr_cX14_next_209 rfl ?_
                    refine Gw_callS (As := [.int z673526]) (gV_ok D I) (cp_670062_Reader_isLetter l hl0 D I P672346 F673518 z673526 ) dr_cX14_next_210 ⟨wr_7_222, wr_1_32, wr_7_224, by decide, rfl, (Nat.le_of_ble_eq_true rfl), (Nat.le_of_ble_eq_true rfl)⟩ wr_7_223 (show 0 + 0 ≤ ((16 * (p672350.toInt - p672351.toInt)).toNat) by first | omega | decide) (show 0 + 0 ≤ ((160 * (p672350.toInt - p672351.toInt)).toNat) by first | omega | decide) (Nat.le_of_ble_eq_true rfl) (fun r673651 w673652 dc673648 ds673649 hp673650 => ?_) (fun _ _ _ _ _ z => z.elim)
                    obtain ⟨o673653, rfl, rfl, hdc, hds, bo673653, x673654, ht673655⟩ := hp673650
                    change G _ _ _ _ _ _ _ (.int o673653 :: _) _ _ _
                    refine G_widen (cs' := 0) (sl' := 0) (by omega) (by omega) ?_
                    refine G_if_eq 223 dr_cX14_next_213 (by decide +kernel) (fun hc673656 => ?_) (fun hc673656 => ?_)
                    · have r673657 : o673653.toInt = 0 := gj_eq hc673656 (show Int32.toInt 0 = 0 by decide)
                      have bo673653' : gB o673653 0 0 := ⟨by omega, by omega⟩
                      clear bo673653'; try clear r673651; try clear w673652; try clear dc673648; try clear ds673649; try clear hp673650; try clear x673654
                      refine G_iload_n 1 dr_cX14_next_223 rfl ?_
                      refine Gw_callS (As := [.int z673526]) (gV_ok D I) (cp_668112_Reader_isDigit l hl0 D I P672346 F673518 z673526 ) dr_cX14_next_224 ⟨wr_7_219, wr_1_32, wr_7_221, by decide, rfl, (Nat.le_of_ble_eq_true rfl), (Nat.le_of_ble_eq_true rfl)⟩ wr_7_220 (show 0 + 0 ≤ ((16 * (p672350.toInt - p672351.toInt)).toNat) by first | omega | decide) (show 0 + 0 ≤ ((160 * (p672350.toInt - p672351.toInt)).toNat) by first | omega | decide) (Nat.le_of_ble_eq_true rfl) (fun r673661 w673662 dc673658 ds673659 hp673660 => ?_) (fun _ _ _ _ _ z => z.elim)
                      obtain ⟨o673663, rfl, rfl, hdc, hds, bo673663, x673664, ht673665⟩ := hp673660
                      change G _ _ _ _ _ _ _ (.int o673663 :: _) _ _ _
                      refine G_widen (cs' := 0) (sl' := 0) (by omega) (by omega) ?_
                      refine G_if_ne 234 dr_cX14_next_227 (by decide +kernel) (fun hc673666 => ?_) (fun hc673666 => ?_)
                      · have r673667 : o673663.toInt ≠ 0 := gj_neq hc673666 (show Int32.toInt 0 = 0 by decide)
                        have bo673663' : gB o673663 1 1 := ⟨by omega, by omega⟩
                        have bi673668 : gB z673526 48 57 := isP_1 x673664 (by omega)
                        refine G_aload_n 2 dr_cX14_next_234 rfl ?_
                        refine G_iload_n 0 dr_cX14_next_235 rfl ?_
                        refine Gw_callV (As := [.int 1]) (gV_ok D I) (cp_668076_Reader_number l hl0 D I P672346 F673518 q672348 q672349 1 p672350 g673501 p672352 g673501 p672354 p672352 (D.2 1000 32) p672357 p672358 p672359 qo672360 qo672361 p672362 f672363 hmq672348 hmq672349 he673522 he673521 (gB_w (gBl (show Int32.toInt 1 = 1 by decide)) (by decide) (by decide)) (gB_w bp672350' (by decide) (by decide)) bg673501 bp672352 bg673501 bp672352 bp672357 bp672358 bp672359 bp672362 bf672363 (by have qa0 : Int32.toInt 1 = 1 := (by decide); omega) (by have qa0 : Int32.toInt 1 = 1 := (by decide); omega) (by first | assumption | exact cDg_no (by omega) | exact cDg_no (by decide) | exact cDg_of (by assumption) (by omega) (by omega)) x672365 x672366) dr_cX14_next_236 ⟨wr_8_218, wr_1_32, wr_8_221, by decide, rfl, (Nat.le_of_ble_eq_true rfl), (Nat.le_of_ble_eq_true rfl)⟩ wr_8_220 wr_p_77 hmq672348 he673522 rfl (show 0 + ((16 * (p672350.toInt - g673501.toInt)).toNat) ≤ ((16 * (p672350.toInt - p672351.toInt)).toNat) by first | omega | decide) (show 0 + ((160 * (p672350.toInt - g673501.toInt)).toNat) ≤ ((160 * (p672350.toInt - p672351.toInt)).toNat) by first | omega | decide) (Nat.le_of_ble_eq_true rfl) (fun r673672 w673673 dc673669 ds673670 hp673671 => ?_) (fun _ _ _ _ _ z => z.elim)
                        obtain ⟨F673683, o673674, o673675, o673676, xt673682, rfl, rfl, hfr673685, he673686, he673687, hdc, hds, bo673674, bo673675, x673677, x673678, x673679, x673680, ht673681⟩ := hp673671
                        have hfr673688 : rFr [q672348] P672346 F672347 F673683 := rFr_call (rSub_rf (P := P672346)) hfr673523 hfr673685 (fun b hb hn => ⟨(nm_c (fun e => hn (e ▸ List.mem_cons_self)) nm_n), (nm_c (fun e => hn (e ▸ List.mem_cons_self)) nm_n)⟩)
                        have bo673676 := gB_any o673676
                        change G _ _ _ _ _ _ _ _ _ _ _
                        refine G_widen (cs' := (16 * (o673674.toInt - g673501.toInt)).toNat) (sl' := (160 * (o673674.toInt - g673501.toInt)).toNat) (by omega) (by omega) ?_
                        refine G_goto 247 dr_cX14_next_239 (by decide +kernel) ?_
                        exact G_vretA dr_cX14_next_247 rfl (show (16 * (o673674.toInt - g673501.toInt)).toNat ≤ ((16 * (p672350.toInt - p672351.toInt)).toNat) by omega) (show (160 * (o673674.toInt - g673501.toInt)).toNat ≤ ((160 * (p672350.toInt - p672351.toInt)).toNat) by omega) ⟨P672346, F673683, o673674, o673675, g673501, o673676, (D.2 1000 32), xt673682, rfl, rfl, (rSub_rf (P := P672346)), hfr673688, he673686, he673687, (by omega), (by omega), bo673674, (gB_w bo673675 (by decide) (by decide)), bg673501, (by have qa0 : Int32.toInt 1 = 1 := (by decide); omega), (Or.inr (by omega)), (by have qa0 : Int32.toInt 1 = 1 := (by decide); omega), (by first | exact tP_no (by omega) (by omega) | assumption), x673680, (fun R c1 c2 c3 c4 c5 c6 c7 c8 c9 c10 c11 c12 c13 => c4 g673501 z673526 z673625 z673629 o673635 o673653 o673663 xt673682 o673674 o673675 o673676 hx673510 r673525 hz673526 bz673526 r673624 ez673625 r673628 hz673629 bz673629 bo673635 ht673637 r673640 r673644 r673647 bo673653 ht673655 r673657 bo673663 ht673665 r673667 bo673674 bo673675 ht673681)⟩
                      · have r673689 : o673663.toInt = 0 := gj_eq hc673666 (show Int32.toInt 0 = 0 by decide)
                        have bo673663' : gB o673663 0 0 := ⟨by omega, by omega⟩
                        refine G_iload_n 0 dr_cX14_next_230 rfl ?_
                        refine G_if_eq 242 dr_cX14_next_231 (by decide +kernel) (fun hc => absurd hc (by decide)) (fun _ => ?_)
                        refine G_aload_n 2 dr_cX14_next_234 rfl ?_
                        refine G_iload_n 0 dr_cX14_next_235 rfl ?_
                        refine Gw_callV (As := [.int 1]) (gV_ok D I) (cp_668076_Reader_number l hl0 D I P672346 F673518 q672348 q672349 1 p672350 g673501 p672352 g673501 p672354 p672352 (D.2 1000 32) p672357 p672358 p672359 qo672360 qo672361 p672362 f672363 hmq672348 hmq672349 he673522 he673521 (gB_w (gBl (show Int32.toInt 1 = 1 by decide)) (by decide) (by decide)) (gB_w bp672350' (by decide) (by decide)) bg673501 bp672352 bg673501 bp672352 bp672357 bp672358 bp672359 bp672362 bf672363 (by have qa0 : Int32.toInt 1 = 1 := (by decide); omega) (by have qa0 : Int32.toInt 1 = 1 := (by decide); omega) (by first | assumption | exact cDg_no (by omega) | exact cDg_no (by decide) | exact cDg_of (by assumption) (by omega) (by omega)) x672365 x672366) dr_cX14_next_236 ⟨wr_8_218, wr_1_32, wr_8_221, by decide, rfl, (Nat.le_of_ble_eq_true rfl), (Nat.le_of_ble_eq_true rfl)⟩ wr_8_220 wr_p_77 hmq672348 he673522 rfl (show 0 + ((16 * (p672350.toInt - g673501.toInt)).toNat) ≤ ((16 * (p672350.toInt - p672351.toInt)).toNat) by first | omega | decide) (show 0 + ((160 * (p672350.toInt - g673501.toInt)).toNat) ≤ ((160 * (p672350.toInt - p672351.toInt)).toNat) by first | omega | decide) (Nat.le_of_ble_eq_true rfl) (fun r673693 w673694 dc673690 ds673691 hp673692 => ?_) (fun _ _ _ _ _ z => z.elim)
                        obtain ⟨F673704, o673695, o673696, o673697, xt673703, rfl, rfl, hfr673706, he673707, he673708, hdc, hds, bo673695, bo673696, x673698, x673699, x673700, x673701, ht673702⟩ := hp673692
                        have hfr673709 : rFr [q672348] P672346 F672347 F673704 := rFr_call (rSub_rf (P := P672346)) hfr673523 hfr673706 (fun b hb hn => ⟨(nm_c (fun e => hn (e ▸ List.mem_cons_self)) nm_n), (nm_c (fun e => hn (e ▸ List.mem_cons_self)) nm_n)⟩)
                        have bo673697 := gB_any o673697
                        change G _ _ _ _ _ _ _ _ _ _ _
                        refine G_widen (cs' := (16 * (o673695.toInt - g673501.toInt)).toNat) (sl' := (160 * (o673695.toInt - g673501.toInt)).toNat) (by omega) (by omega) ?_
                        refine G_goto 247 dr_cX14_next_239 (by decide +kernel) ?_
                        exact G_vretA dr_cX14_next_247 rfl (show (16 * (o673695.toInt - g673501.toInt)).toNat ≤ ((16 * (p672350.toInt - p672351.toInt)).toNat) by omega) (show (160 * (o673695.toInt - g673501.toInt)).toNat ≤ ((160 * (p672350.toInt - p672351.toInt)).toNat) by omega) ⟨P672346, F673704, o673695, o673696, g673501, o673697, (D.2 1000 32), xt673703, rfl, rfl, (rSub_rf (P := P672346)), hfr673709, he673707, he673708, (by omega), (by omega), bo673695, (gB_w bo673696 (by decide) (by decide)), bg673501, (by have qa0 : Int32.toInt 1 = 1 := (by decide); omega), (Or.inr (by omega)), (by have qa0 : Int32.toInt 1 = 1 := (by decide); omega), (by first | exact tP_no (by omega) (by omega) | assumption), x673701, (fun R c1 c2 c3 c4 c5 c6 c7 c8 c9 c10 c11 c12 c13 => c5 g673501 z673526 z673625 z673629 o673635 o673653 o673663 xt673703 o673695 o673696 o673697 hx673510 r673525 hz673526 bz673526 r673624 ez673625 r673628 hz673629 bz673629 bo673635 ht673637 r673640 r673644 r673647 bo673653 ht673655 r673657 bo673663 ht673665 r673689 bo673695 bo673696 ht673702)⟩
                    · have r673710 : o673653.toInt ≠ 0 := gj_neq hc673656 (show Int32.toInt 0 = 0 by decide)
                      have bo673653' : gB o673653 1 1 := ⟨by omega, by omega⟩
                      have bi673711 : gB z673526 97 122 := isP_1 x673654 (by omega)
                      refine G_aload_n 2 dr_cX14_next_216 rfl ?_
                      refine Gw_callV (As := []) (gV_ok D I) (cp_669718_Reader_word l hl0 D I P672346 F673518 q672348 q672349 p672350 g673501 p672352 g673501 p672354 p672352 (D.2 1000 32) p672357 p672358 p672359 qo672360 qo672361 p672362 f672363 hmq672348 hmq672349 he673522 he673521 (gB_w bp672350' (by decide) (by decide)) bg673501 bp672352 bg673501 bp672352 bp672357 bp672358 bp672359 bp672362 bf672363 (by have qa0 : Int32.toInt 1 = 1 := (by decide); omega) (by have qa0 : Int32.toInt 1 = 1 := (by decide); omega) (by first | assumption | exact cLt_of (by assumption) (by omega) (by omega)) x672365 x672366) dr_cX14_next_217 ⟨wr_7_225, wr_1_32, wr_7_228, by decide, rfl, (Nat.le_of_ble_eq_true rfl), (Nat.le_of_ble_eq_true rfl)⟩ wr_7_227 wr_p_76 hmq672348 he673522 rfl (show 0 + ((16 * (p672350.toInt - g673501.toInt)).toNat) ≤ ((16 * (p672350.toInt - p672351.toInt)).toNat) by first | omega | decide) (show 0 + ((160 * (p672350.toInt - g673501.toInt)).toNat) ≤ ((160 * (p672350.toInt - p672351.toInt)).toNat) by first | omega | decide) (Nat.le_of_ble_eq_true rfl) (fun r673715 w673716 dc673712 ds673713 hp673714 => ?_) (fun _ _ _ _ _ z => z.elim)
                      obtain ⟨P673727, F673728, o673717, o673718, o673719, q673720, xt673726, rfl, rfl, hsb673729, hfr673730, he673731, he673732, hdc, hds, bo673717, bo673718, x673721, x673722, x673723, x673724, ht673725⟩ := hp673714
                      have hm673733 : q672348 ∈ P673727 := hsb673729 q672348 hmq672348
                      have hm673734 : q672349 ∈ P673727 := hsb673729 q672349 hmq672349
                      have hsb673735 : rSub P672346 P673727 := rSub_tr (rSub_rf (P := P672346)) hsb673729
                      have hfr673736 : rFr [q672348] P672346 F672347 F673728 := rFr_call (rSub_rf (P := P672346)) hfr673523 hfr673730 (fun b hb hn => ⟨(nm_c (fun e => hn (e ▸ List.mem_cons_self)) nm_n), (nm_c (fun e => hn (e ▸ List.mem_cons_self)) nm_n)⟩)
                      have bo673719 := gB_any o673719
                      change G _ _ _ _ _ _ _ _ _ _ _
                      refine G_widen (cs' := (16 * (o673717.toInt - g673501.toInt)).toNat) (sl' := (160 * (o673717.toInt - g673501.toInt)).toNat) (by omega) (by omega) ?_
                      refine G_goto 247 dr_cX14_next_220 (by decide +kernel) ?_
                      exact G_vretA dr_cX14_next_247 rfl (show (16 * (o673717.toInt - g673501.toInt)).toNat ≤ ((16 * (p672350.toInt - p672351.toInt)).toNat) by omega) (show (160 * (o673717.toInt - g673501.toInt)).toNat ≤ ((160 * (p672350.toInt - p672351.toInt)).toNat) by omega) ⟨P673727, F673728, o673717, o673718, g673501, o673719, q673720, xt673726, rfl, rfl, hsb673735, hfr673736, he673731, he673732, (by omega), (by omega), bo673717, (gB_w bo673718 (by decide) (by decide)), bg673501, (by have qa0 : Int32.toInt 1 = 1 := (by decide); omega), (Or.inr (by omega)), (by have qa0 : Int32.toInt 1 = 1 := (by decide); omega), x673723, x673724, (fun R c1 c2 c3 c4 c5 c6 c7 c8 c9 c10 c11 c12 c13 => c6 g673501 z673526 z673625 z673629 o673635 o673653 xt673726 o673717 o673718 o673719 hx673510 r673525 hz673526 bz673526 r673624 ez673625 r673628 hz673629 bz673629 bo673635 ht673637 r673640 r673644 r673647 bo673653 ht673655 r673710 bo673717 bo673718 ht673725)⟩
        · have r673737 : g673501.toInt = p672350.toInt := gC_eq hc673524
          refine G_aload_n 0 dr_cX14_next_135 rfl ?_
          refine G_iconst 0 dr_cX14_next_136 (by decide +kernel) ?_
          refine Gp_put 3 hmq672348 he673522 dr_cX14_next_137 (gk_X14 D I) (Nat.le_of_ble_eq_true rfl) wr_9_39 rfl rfl rfl (Nat.le_of_ble_eq_true rfl) (fun F673738 e673739 n673740 => ?_)
          have he673741 : F673738 q672349 = .inl (I .byte, 8192, .inl f672363) := (n673740 q672349 (rn_ao he673521 he673522)).trans he673521
          have he673742 : F673738 q672348 = .inr (19, [.ref q672349, .int p672350, .int g673501, .int 0, .int g673501, .int p672354, .int p672352, .ref (D.2 1000 32), .int p672357, .int p672358, .int p672359, .ref qo672360, .ref qo672361, .int p672362]) := e673739
          have hfr673743 : rFr [q672348] P672346 F672347 F673738 := rFr_put' List.mem_cons_self hfr673523 n673740
          exact G_vretA dr_cX14_next_140 rfl (show 0 ≤ ((16 * (p672350.toInt - p672351.toInt)).toNat) by omega) (show 0 ≤ ((160 * (p672350.toInt - p672351.toInt)).toNat) by omega) ⟨P672346, F673738, g673501, 0, g673501, p672354, (D.2 1000 32), (0, fun _ => 0), rfl, rfl, (rSub_rf (P := P672346)), hfr673743, he673742, he673741, (by omega), (by omega), bg673501, (gB_w (gBl (show Int32.toInt 0 = 0 by decide)) (by decide) (by decide)), bg673501, (by have qa0 : Int32.toInt 0 = 0 := (by decide); omega), (Or.inl (by decide)), (by have qa0 : Int32.toInt 0 = 0 := (by decide); omega), (tP_no (by decide) (by decide)), (vP_no (by decide) (by decide)), (fun R c1 c2 c3 c4 c5 c6 c7 c8 c9 c10 c11 c12 c13 => c7 g673501 hx673510 r673737)⟩
      · have r673744 : g673501.toInt < p672350.toInt := gC_nle hc673508
        have bg673501' : gB g673501 0 8191 := ⟨by omega, by omega⟩
        have bp672350' : gB p672350 1 8192 := ⟨by omega, by omega⟩
        refine G_aload_n 0 dr_cX14_next_19 rfl ?_
        refine Gp_get 0 hmq672348 he673503 dr_cX14_next_20 (gk_X14 D I) (Nat.le_of_ble_eq_true rfl) wr_9_36 rfl ?_
        refine G_aload_n 0 dr_cX14_next_23 rfl ?_
        refine Gp_get 2 hmq672348 he673503 dr_cX14_next_24 (gk_X14 D I) (Nat.le_of_ble_eq_true rfl) wr_9_38 rfl ?_
        refine Gp_bald 1 hmq672349 he673504 dr_cX14_next_27 rfl (gB_in bg673501' (by decide) (by decide)) (G_nam fun z673745 hz673745 => ?_)
        have bz673745 : gB z673745 (-128) 127 := by rw [hz673745]; exact bf672363 _
        refine G_istore_n (L' := [(1, .int z673745), (0, .ref q672348)]) dr_cX14_next_28 (Nat.le_of_ble_eq_true rfl) rfl ?_
        refine G_iload_n 0 dr_cX14_next_29 rfl ?_
        refine G_bipush 59 dr_cX14_next_30 (by decide +kernel) ?_
        refine G_icmp_ne 73 dr_cX14_next_32 (by decide +kernel) (fun hc673746 => ?_) (fun hc673746 => ?_)
        · have r673747 : z673745.toInt ≠ 59 := gj_neq hc673746 (show Int32.toInt 59 = 59 by decide)
          refine G_iload_n 0 dr_cX14_next_73 rfl ?_
          refine G_bipush 9 dr_cX14_next_74 (by decide +kernel) ?_
          refine G_icmp_eq 97 dr_cX14_next_76 (by decide +kernel) (fun hc673748 => ?_) (fun hc673748 => ?_)
          · have r673749 : z673745.toInt = 9 := gj_eq hc673748 (show Int32.toInt 9 = 9 by decide)
            have bz673745' : gB z673745 9 9 := ⟨by omega, by omega⟩
            refine G_aload_n 1 dr_cX14_next_97 rfl ?_
            refine G_dup dr_cX14_next_98 rfl ?_
            refine Gp_get 2 hmq672348 he673503 dr_cX14_next_99 (gk_X14 D I) (Nat.le_of_ble_eq_true rfl) wr_9_38 rfl ?_
            refine G_iconst 1 dr_cX14_next_102 (by decide +kernel) ?_
            refine G_iadd dr_cX14_next_103 (G_nam fun z673750 hz673750 => ?_)
            have ez673750 : z673750.toInt = g673501.toInt + 1 := by rw [gI_add hz673750 bg673501' (gBl (show Int32.toInt 1 = 1 by decide)) (by decide) (by decide), show Int32.toInt 1 = 1 from by decide]
            have bz673750 : gB z673750 1 8192 := gB_add (gI_add hz673750 bg673501' (gBl (show Int32.toInt 1 = 1 by decide)) (by decide) (by decide)) bg673501' (gBl (show Int32.toInt 1 = 1 by decide)) (by decide) (by decide)
            refine Gp_put 2 hmq672348 he673503 dr_cX14_next_104 (gk_X14 D I) (Nat.le_of_ble_eq_true rfl) wr_9_38 rfl rfl rfl (Nat.le_of_ble_eq_true rfl) (fun F673751 e673752 n673753 => ?_)
            have he673754 : F673751 q672349 = .inl (I .byte, 8192, .inl f672363) := (n673753 q672349 (rn_ao he673504 he673503)).trans he673504
            have he673755 : F673751 q672348 = .inr (19, [.ref q672349, .int p672350, .int z673750, .int p672352, .int p672353, .int p672354, .int p672352, .ref qo672356, .int p672357, .int p672358, .int p672359, .ref qo672360, .ref qo672361, .int p672362]) := e673752
            have hfr673756 : rFr [q672348] P672346 F672347 F673751 := rFr_put' List.mem_cons_self hfr673505 n673753
            have x673757 : g673501.toInt < z673750.toInt := by first | omega | exact chNe (a := g673501) (b := z673750) (by assumption) (by assumption) (by omega) (by omega)
            refine G_goto 8 dr_cX14_next_107 (by decide +kernel) ?_
            refine G_lv (L' := [(0, .ref q672348)]) [1] rfl ?_
            exact ih8_673507 F673751 z673750 (gB_w bz673750 (by decide) (by decide)) hfr673756 he673755 he673754 (by omega) (by omega) (fun k e1 ht => kt8_673507 k e1 (fun R c1 c2 c3 c4 c5 c6 c7 => c2 g673501 z673745 z673750 k e1 bg673501 r673744 hz673745 bz673745 r673747 r673749 ez673750 (ht R c1 c2 c3 c4 c5 c6 c7))) (by omega)
          · have r673758 : z673745.toInt ≠ 9 := gj_neq hc673748 (show Int32.toInt 9 = 9 by decide)
            refine G_iload_n 0 dr_cX14_next_79 rfl ?_
            refine G_bipush 10 dr_cX14_next_80 (by decide +kernel) ?_
            refine G_icmp_eq 97 dr_cX14_next_82 (by decide +kernel) (fun hc673759 => ?_) (fun hc673759 => ?_)
            · have r673760 : z673745.toInt = 10 := gj_eq hc673759 (show Int32.toInt 10 = 10 by decide)
              have bz673745' : gB z673745 10 10 := ⟨by omega, by omega⟩
              refine G_aload_n 1 dr_cX14_next_97 rfl ?_
              refine G_dup dr_cX14_next_98 rfl ?_
              refine Gp_get 2 hmq672348 he673503 dr_cX14_next_99 (gk_X14 D I) (Nat.le_of_ble_eq_true rfl) wr_9_38 rfl ?_
              refine G_iconst 1 dr_cX14_next_102 (by decide +kernel) ?_
              refine G_iadd dr_cX14_next_103 (G_nam fun z673761 hz673761 => ?_)
              have ez673761 : z673761.toInt = g673501.toInt + 1 := by rw [gI_add hz673761 bg673501' (gBl (show Int32.toInt 1 = 1 by decide)) (by decide) (by decide), show Int32.toInt 1 = 1 from by decide]
              have bz673761 : gB z673761 1 8192 := gB_add (gI_add hz673761 bg673501' (gBl (show Int32.toInt 1 = 1 by decide)) (by decide) (by decide)) bg673501' (gBl (show Int32.toInt 1 = 1 by decide)) (by decide) (by decide)
              refine Gp_put 2 hmq672348 he673503 dr_cX14_next_104 (gk_X14 D I) (Nat.le_of_ble_eq_true rfl) wr_9_38 rfl rfl rfl (Nat.le_of_ble_eq_true rfl) (fun F673762 e673763 n673764 => ?_)
              have he673765 : F673762 q672349 = .inl (I .byte, 8192, .inl f672363) := (n673764 q672349 (rn_ao he673504 he673503)).trans he673504
              have he673766 : F673762 q672348 = .inr (19, [.ref q672349, .int p672350, .int z673761, .int p672352, .int p672353, .int p672354, .int p672352, .ref qo672356, .int p672357, .int p672358, .int p672359, .ref qo672360, .ref qo672361, .int p672362]) := e673763
              have hfr673767 : rFr [q672348] P672346 F672347 F673762 := rFr_put' List.mem_cons_self hfr673505 n673764
              have x673768 : g673501.toInt < z673761.toInt := by first | omega | exact chNe (a := g673501) (b := z673761) (by assumption) (by assumption) (by omega) (by omega)
              refine G_goto 8 dr_cX14_next_107 (by decide +kernel) ?_
              refine G_lv (L' := [(0, .ref q672348)]) [1] rfl ?_
              exact ih8_673507 F673762 z673761 (gB_w bz673761 (by decide) (by decide)) hfr673767 he673766 he673765 (by omega) (by omega) (fun k e1 ht => kt8_673507 k e1 (fun R c1 c2 c3 c4 c5 c6 c7 => c3 g673501 z673745 z673761 k e1 bg673501 r673744 hz673745 bz673745 r673747 r673758 r673760 ez673761 (ht R c1 c2 c3 c4 c5 c6 c7))) (by omega)
            · have r673769 : z673745.toInt ≠ 10 := gj_neq hc673759 (show Int32.toInt 10 = 10 by decide)
              refine G_iload_n 0 dr_cX14_next_85 rfl ?_
              refine G_bipush 13 dr_cX14_next_86 (by decide +kernel) ?_
              refine G_icmp_eq 97 dr_cX14_next_88 (by decide +kernel) (fun hc673770 => ?_) (fun hc673770 => ?_)
              · have r673771 : z673745.toInt = 13 := gj_eq hc673770 (show Int32.toInt 13 = 13 by decide)
                have bz673745' : gB z673745 13 13 := ⟨by omega, by omega⟩
                refine G_aload_n 1 dr_cX14_next_97 rfl ?_
                refine G_dup dr_cX14_next_98 rfl ?_
                refine Gp_get 2 hmq672348 he673503 dr_cX14_next_99 (gk_X14 D I) (Nat.le_of_ble_eq_true rfl) wr_9_38 rfl ?_
                refine G_iconst 1 dr_cX14_next_102 (by decide +kernel) ?_
                refine G_iadd dr_cX14_next_103 (G_nam fun z673772 hz673772 => ?_)
                have ez673772 : z673772.toInt = g673501.toInt + 1 := by rw [gI_add hz673772 bg673501' (gBl (show Int32.toInt 1 = 1 by decide)) (by decide) (by decide), show Int32.toInt 1 = 1 from by decide]
                have bz673772 : gB z673772 1 8192 := gB_add (gI_add hz673772 bg673501' (gBl (show Int32.toInt 1 = 1 by decide)) (by decide) (by decide)) bg673501' (gBl (show Int32.toInt 1 = 1 by decide)) (by decide) (by decide)
                refine Gp_put 2 hmq672348 he673503 dr_cX14_next_104 (gk_X14 D I) (Nat.le_of_ble_eq_true rfl) wr_9_38 rfl rfl rfl (Nat.le_of_ble_eq_true rfl) (fun F673773 e673774 n673775 => ?_)
                have he673776 : F673773 q672349 = .inl (I .byte, 8192, .inl f672363) := (n673775 q672349 (rn_ao he673504 he673503)).trans he673504
                have he673777 : F673773 q672348 = .inr (19, [.ref q672349, .int p672350, .int z673772, .int p672352, .int p672353, .int p672354, .int p672352, .ref qo672356, .int p672357, .int p672358, .int p672359, .ref qo672360, .ref qo672361, .int p672362]) := e673774
                have hfr673778 : rFr [q672348] P672346 F672347 F673773 := rFr_put' List.mem_cons_self hfr673505 n673775
                have x673779 : g673501.toInt < z673772.toInt := by first | omega | exact chNe (a := g673501) (b := z673772) (by assumption) (by assumption) (by omega) (by omega)
                refine G_goto 8 dr_cX14_next_107 (by decide +kernel) ?_
                refine G_lv (L' := [(0, .ref q672348)]) [1] rfl ?_
                exact ih8_673507 F673773 z673772 (gB_w bz673772 (by decide) (by decide)) hfr673778 he673777 he673776 (by omega) (by omega) (fun k e1 ht => kt8_673507 k e1 (fun R c1 c2 c3 c4 c5 c6 c7 => c4 g673501 z673745 z673772 k e1 bg673501 r673744 hz673745 bz673745 r673747 r673758 r673769 r673771 ez673772 (ht R c1 c2 c3 c4 c5 c6 c7))) (by omega)
              · have r673780 : z673745.toInt ≠ 13 := gj_neq hc673770 (show Int32.toInt 13 = 13 by decide)
                refine G_iload_n 0 dr_cX14_next_91 rfl ?_
                refine G_bipush 32 dr_cX14_next_92 (by decide +kernel) ?_
                refine G_icmp_ne 110 dr_cX14_next_94 (by decide +kernel) (fun hc673781 => ?_) (fun hc673781 => ?_)
                · have r673782 : z673745.toInt ≠ 32 := gj_neq hc673781 (show Int32.toInt 32 = 32 by decide)
                  have hx673783 : tl_RReader_next_8 p672350 f672363 p672351 110 g673501 := kt8_673507 110 g673501 (fun R c1 c2 c3 c4 c5 c6 c7 => c5 g673501 z673745 bg673501 r673744 hz673745 bz673745 r673747 r673758 r673769 r673780 r673782)
                  clear he672371 he672372 hfr672373
                  refine G_aload_n 1 dr_cX14_next_110 rfl ?_
                  refine G_aload_n 1 dr_cX14_next_111 rfl ?_
                  refine Gp_get 2 hmq672348 he673503 dr_cX14_next_112 (gk_X14 D I) (Nat.le_of_ble_eq_true rfl) wr_9_38 rfl ?_
                  refine Gp_put 4 hmq672348 he673503 dr_cX14_next_115 (gk_X14 D I) (Nat.le_of_ble_eq_true rfl) wr_9_40 rfl rfl rfl (Nat.le_of_ble_eq_true rfl) (fun F673784 e673785 n673786 => ?_)
                  have he673787 : F673784 q672349 = .inl (I .byte, 8192, .inl f672363) := (n673786 q672349 (rn_ao he673504 he673503)).trans he673504
                  have he673788 : F673784 q672348 = .inr (19, [.ref q672349, .int p672350, .int g673501, .int p672352, .int g673501, .int p672354, .int p672352, .ref qo672356, .int p672357, .int p672358, .int p672359, .ref qo672360, .ref qo672361, .int p672362]) := e673785
                  have hfr673789 : rFr [q672348] P672346 F672347 F673784 := rFr_put' List.mem_cons_self hfr673505 n673786
                  refine G_aload_n 1 dr_cX14_next_118 rfl ?_
                  refine G_ldcK (a := D.2 1000 32) dr_cX14_next_119 (fun _ _ _ h => gx_vk 32 rfl rfl h) ?_
                  have hl32_673789 : (sb_32.length : Int) = 0 := rfl
                  refine Gp_put 7 hmq672348 he673788 dr_cX14_next_121 (gk_X14 D I) (Nat.le_of_ble_eq_true rfl) wr_9_43 rfl rfl rfl (Nat.le_of_ble_eq_true rfl) (fun F673791 e673792 n673793 => ?_)
                  have he673794 : F673791 q672349 = .inl (I .byte, 8192, .inl f672363) := (n673793 q672349 (rn_ao he673787 he673788)).trans he673787
                  have he673795 : F673791 q672348 = .inr (19, [.ref q672349, .int p672350, .int g673501, .int p672352, .int g673501, .int p672354, .int p672352, .ref (D.2 1000 32), .int p672357, .int p672358, .int p672359, .ref qo672360, .ref qo672361, .int p672362]) := e673792
                  have hfr673796 : rFr [q672348] P672346 F672347 F673791 := rFr_put' List.mem_cons_self hfr673789 n673793
                  clear he673787 he673788 hfr673789
                  refine G_aload_n 1 dr_cX14_next_124 rfl ?_
                  refine Gp_get 2 hmq672348 he673795 dr_cX14_next_125 (gk_X14 D I) (Nat.le_of_ble_eq_true rfl) wr_9_38 rfl ?_
                  refine G_aload_n 1 dr_cX14_next_128 rfl ?_
                  refine Gp_get 1 hmq672348 he673795 dr_cX14_next_129 (gk_X14 D I) (Nat.le_of_ble_eq_true rfl) wr_9_37 rfl ?_
                  refine G_icmp_ne 141 dr_cX14_next_132 (by decide +kernel) (fun hc673797 => ?_) (fun hc673797 => ?_)
                  · have r673798 : g673501.toInt ≠ p672350.toInt := gC_ne hc673797
                    refine G_aload_n 1 dr_cX14_next_141 rfl ?_
                    refine Gp_get 0 hmq672348 he673795 dr_cX14_next_142 (gk_X14 D I) (Nat.le_of_ble_eq_true rfl) wr_9_36 rfl ?_
                    refine G_aload_n 1 dr_cX14_next_145 rfl ?_
                    refine Gp_get 2 hmq672348 he673795 dr_cX14_next_146 (gk_X14 D I) (Nat.le_of_ble_eq_true rfl) wr_9_38 rfl ?_
                    refine Gp_bald 1 hmq672349 he673794 dr_cX14_next_149 rfl (gB_in bg673501' (by decide) (by decide)) (G_eqi (y := z673745) hz673745.symm ?_)
                    refine G_istore_n (L' := [(1, .int z673745), (0, .ref q672348)]) dr_cX14_next_150 (Nat.le_of_ble_eq_true rfl) rfl ?_
                    have jn673799 : ((z673745.toInt ≠ 45) ∨ (∃ (y1 : Int32), z673745.toInt = 45 ∧ y1.toInt = g673501.toInt + 1 ∧ p672350.toInt ≤ y1.toInt) ∨ (∃ (y1 : Int32) (y2 : Int32) (y3 : Int32), z673745.toInt = 45 ∧ y1.toInt = g673501.toInt + 1 ∧ y1.toInt < p672350.toInt ∧ y2 = f672363 y1.toNatClampNeg ∧ gB y2 (-128) 127 ∧ gB y3 0 1 ∧ tr_RReader_isDigit2 y2 y3 ∧ y3.toInt = 0) ∨ (∃ (y1 : Int32) (y2 : Int32) (y3 : Int32), z673745.toInt = 45 ∧ y1.toInt = g673501.toInt + 1 ∧ y1.toInt < p672350.toInt ∧ y2 = f672363 y1.toNatClampNeg ∧ gB y2 (-128) 127 ∧ gB y3 0 1 ∧ tr_RReader_isDigit2 y2 y3 ∧ y3.toInt ≠ 0 ∧ p672352.toInt = 2) ∨ (∃ (y1 : Int32) (y2 : Int32) (y3 : Int32), z673745.toInt = 45 ∧ y1.toInt = g673501.toInt + 1 ∧ y1.toInt < p672350.toInt ∧ y2 = f672363 y1.toNatClampNeg ∧ gB y2 (-128) 127 ∧ gB y3 0 1 ∧ tr_RReader_isDigit2 y2 y3 ∧ y3.toInt ≠ 0 ∧ p672352.toInt ≠ 2 ∧ p672352.toInt = 4)) → G (gV D I) l (gRm 7 155 ((16 * (p672350.toInt - p672351.toInt)).toNat) ((160 * (p672350.toInt - p672351.toInt)).toNat)) (gMA (gV D I) (pp_672367_Reader_next D I P672346 F672347 q672348 q672349 p672350 p672351 p672352 p672353 p672354 p672355 qo672356 p672357 p672358 p672359 qo672360 qo672361 p672362 f672363) gNA ((16 * (p672350.toInt - p672351.toInt)).toNat) ((160 * (p672350.toInt - p672351.toInt)).toNat)) ky_672367_Reader_next 209 [(2, .int 0), (1, .int z673745), (0, .ref q672348)] [] (va_pl P672346 F673791) 0 0 := by
                      intro hJ673800
                      refine G_iload_n 1 dr_cX14_next_209 rfl ?_
                      refine Gw_callS (As := [.int z673745]) (gV_ok D I) (cp_670062_Reader_isLetter l hl0 D I P672346 F673791 z673745 ) dr_cX14_next_210 ⟨wr_7_222, wr_1_32, wr_7_224, by decide, rfl, (Nat.le_of_ble_eq_true rfl), (Nat.le_of_ble_eq_true rfl)⟩ wr_7_223 (show 0 + 0 ≤ ((16 * (p672350.toInt - p672351.toInt)).toNat) by first | omega | decide) (show 0 + 0 ≤ ((160 * (p672350.toInt - p672351.toInt)).toNat) by first | omega | decide) (Nat.le_of_ble_eq_true rfl) (fun r673804 w673805 dc673801 ds673802 hp673803 => ?_) (fun _ _ _ _ _ z => z.elim)
                      obtain ⟨o673806, rfl, rfl, hdc, hds, bo673806, x673807, ht673808⟩ := hp673803
                      change G _ _ _ _ _ _ _ (.int o673806 :: _) _ _ _
                      refine G_widen (cs' := 0) (sl' := 0) (by omega) (by omega) ?_
                      refine G_if_eq 223 dr_cX14_next_213 (by decide +kernel) (fun hc673809 => ?_) (fun hc673809 => ?_)
                      · have r673810 : o673806.toInt = 0 := gj_eq hc673809 (show Int32.toInt 0 = 0 by decide)
                        have bo673806' : gB o673806 0 0 := ⟨by omega, by omega⟩
                        clear bo673806'; try clear r673804; try clear w673805; try clear dc673801; try clear ds673802; try clear hp673803; try clear x673807
                        refine G_iload_n 1 dr_cX14_next_223 rfl ?_
                        refine Gw_callS (As := [.int z673745]) (gV_ok D I) (cp_668112_Reader_isDigit l hl0 D I P672346 F673791 z673745 ) dr_cX14_next_224 ⟨wr_7_219, wr_1_32, wr_7_221, by decide, rfl, (Nat.le_of_ble_eq_true rfl), (Nat.le_of_ble_eq_true rfl)⟩ wr_7_220 (show 0 + 0 ≤ ((16 * (p672350.toInt - p672351.toInt)).toNat) by first | omega | decide) (show 0 + 0 ≤ ((160 * (p672350.toInt - p672351.toInt)).toNat) by first | omega | decide) (Nat.le_of_ble_eq_true rfl) (fun r673814 w673815 dc673811 ds673812 hp673813 => ?_) (fun _ _ _ _ _ z => z.elim)
                        obtain ⟨o673816, rfl, rfl, hdc, hds, bo673816, x673817, ht673818⟩ := hp673813
                        change G _ _ _ _ _ _ _ (.int o673816 :: _) _ _ _
                        refine G_widen (cs' := 0) (sl' := 0) (by omega) (by omega) ?_
                        refine G_if_ne 234 dr_cX14_next_227 (by decide +kernel) (fun hc673819 => ?_) (fun hc673819 => ?_)
                        · have r673820 : o673816.toInt ≠ 0 := gj_neq hc673819 (show Int32.toInt 0 = 0 by decide)
                          have bo673816' : gB o673816 1 1 := ⟨by omega, by omega⟩
                          have bi673821 : gB z673745 48 57 := isP_1 x673817 (by omega)
                          refine G_aload_n 2 dr_cX14_next_234 rfl ?_
                          refine G_iload_n 0 dr_cX14_next_235 rfl ?_
                          refine Gw_callV (As := [.int 0]) (gV_ok D I) (cp_668076_Reader_number l hl0 D I P672346 F673791 q672348 q672349 0 p672350 g673501 p672352 g673501 p672354 p672352 (D.2 1000 32) p672357 p672358 p672359 qo672360 qo672361 p672362 f672363 hmq672348 hmq672349 he673795 he673794 (gB_w (gBl (show Int32.toInt 0 = 0 by decide)) (by decide) (by decide)) (gB_w bp672350' (by decide) (by decide)) (gB_w bg673501' (by decide) (by decide)) bp672352 (gB_w bg673501' (by decide) (by decide)) bp672352 bp672357 bp672358 bp672359 bp672362 bf672363 (by have qa0 : Int32.toInt 0 = 0 := (by decide); omega) (by have qa0 : Int32.toInt 0 = 0 := (by decide); omega) (by first | assumption | exact cDg_no (by omega) | exact cDg_no (by decide) | exact cDg_of (by assumption) (by omega) (by omega)) x672365 x672366) dr_cX14_next_236 ⟨wr_8_218, wr_1_32, wr_8_221, by decide, rfl, (Nat.le_of_ble_eq_true rfl), (Nat.le_of_ble_eq_true rfl)⟩ wr_8_220 wr_p_77 hmq672348 he673795 rfl (show 0 + ((16 * (p672350.toInt - g673501.toInt)).toNat) ≤ ((16 * (p672350.toInt - p672351.toInt)).toNat) by first | omega | decide) (show 0 + ((160 * (p672350.toInt - g673501.toInt)).toNat) ≤ ((160 * (p672350.toInt - p672351.toInt)).toNat) by first | omega | decide) (Nat.le_of_ble_eq_true rfl) (fun r673825 w673826 dc673822 ds673823 hp673824 => ?_) (fun _ _ _ _ _ z => z.elim)
                          obtain ⟨F673836, o673827, o673828, o673829, xt673835, rfl, rfl, hfr673838, he673839, he673840, hdc, hds, bo673827, bo673828, x673830, x673831, x673832, x673833, ht673834⟩ := hp673824
                          have hfr673841 : rFr [q672348] P672346 F672347 F673836 := rFr_call (rSub_rf (P := P672346)) hfr673796 hfr673838 (fun b hb hn => ⟨(nm_c (fun e => hn (e ▸ List.mem_cons_self)) nm_n), (nm_c (fun e => hn (e ▸ List.mem_cons_self)) nm_n)⟩)
                          have bo673829 := gB_any o673829
                          change G _ _ _ _ _ _ _ _ _ _ _
                          refine G_widen (cs' := (16 * (o673827.toInt - g673501.toInt)).toNat) (sl' := (160 * (o673827.toInt - g673501.toInt)).toNat) (by omega) (by omega) ?_
                          refine G_goto 247 dr_cX14_next_239 (by decide +kernel) ?_
                          exact G_vretA dr_cX14_next_247 rfl (show (16 * (o673827.toInt - g673501.toInt)).toNat ≤ ((16 * (p672350.toInt - p672351.toInt)).toNat) by omega) (show (160 * (o673827.toInt - g673501.toInt)).toNat ≤ ((160 * (p672350.toInt - p672351.toInt)).toNat) by omega) ⟨P672346, F673836, o673827, o673828, g673501, o673829, (D.2 1000 32), xt673835, rfl, rfl, (rSub_rf (P := P672346)), hfr673841, he673839, he673840, (by omega), (by omega), bo673827, (gB_w bo673828 (by decide) (by decide)), (gB_w bg673501' (by decide) (by decide)), (by have qa0 : Int32.toInt 0 = 0 := (by decide); omega), (Or.inr (by omega)), (by have qa0 : Int32.toInt 0 = 0 := (by decide); omega), (by first | exact tP_no (by omega) (by omega) | assumption), x673833, (fun R c1 c2 c3 c4 c5 c6 c7 c8 c9 c10 c11 c12 c13 => c8 g673501 z673745 o673806 o673816 xt673835 o673827 o673828 o673829 hx673783 r673798 hz673745 hJ673800 bo673806 ht673808 r673810 bo673816 ht673818 r673820 bo673827 bo673828 ht673834)⟩
                        · have r673842 : o673816.toInt = 0 := gj_eq hc673819 (show Int32.toInt 0 = 0 by decide)
                          have bo673816' : gB o673816 0 0 := ⟨by omega, by omega⟩
                          refine G_iload_n 0 dr_cX14_next_230 rfl ?_
                          refine G_if_eq 242 dr_cX14_next_231 (by decide +kernel) (fun _ => ?_) (fun hc => absurd hc (by decide))
                          refine G_aload_n 2 dr_cX14_next_242 rfl ?_
                          refine G_iload_n 1 dr_cX14_next_243 rfl ?_
                          refine Gw_callV (As := [.int z673745]) (gV_ok D I) (cp_668699_Reader_symbol l hl0 D I P672346 F673791 q672348 q672349 z673745 p672350 g673501 p672352 g673501 p672354 p672352 (D.2 1000 32) p672357 p672358 p672359 qo672360 qo672361 p672362 f672363 hmq672348 hmq672349 he673795 he673794 bz673745 (gB_w bp672350' (by decide) (by decide)) (gB_w bg673501' (by decide) (by decide)) bp672352 (gB_w bg673501' (by decide) (by decide)) bp672352 bp672357 bp672358 bp672359 bp672362 bf672363 (by have qa0 : Int32.toInt 0 = 0 := (by decide); omega) (by have qa0 : Int32.toInt 0 = 0 := (by decide); omega) x672365 x672366) dr_cX14_next_244 ⟨wr_8_223, wr_1_32, wr_8_226, by decide, rfl, (Nat.le_of_ble_eq_true rfl), (Nat.le_of_ble_eq_true rfl)⟩ wr_8_225 wr_p_78 hmq672348 he673795 rfl (show 0 + ((16 * (p672350.toInt - g673501.toInt)).toNat) ≤ ((16 * (p672350.toInt - p672351.toInt)).toNat) by first | omega | decide) (show 0 + ((160 * (p672350.toInt - g673501.toInt)).toNat) ≤ ((160 * (p672350.toInt - p672351.toInt)).toNat) by first | omega | decide) (Nat.le_of_ble_eq_true rfl) (fun r673846 w673847 dc673843 ds673844 hp673845 => ?_) (fun _ _ _ _ _ z => z.elim)
                          obtain ⟨P673857, F673858, o673848, o673849, q673850, xt673856, rfl, rfl, hsb673859, hfr673860, he673861, he673862, hdc, hds, bo673848, bo673849, x673851, x673852, x673853, x673854, ht673855⟩ := hp673845
                          have hm673863 : q672348 ∈ P673857 := hsb673859 q672348 hmq672348
                          have hm673864 : q672349 ∈ P673857 := hsb673859 q672349 hmq672349
                          have hsb673865 : rSub P672346 P673857 := rSub_tr (rSub_rf (P := P672346)) hsb673859
                          have hfr673866 : rFr [q672348] P672346 F672347 F673858 := rFr_call (rSub_rf (P := P672346)) hfr673796 hfr673860 (fun b hb hn => ⟨(nm_c (fun e => hn (e ▸ List.mem_cons_self)) nm_n), (nm_c (fun e => hn (e ▸ List.mem_cons_self)) nm_n)⟩)
                          change G _ _ _ _ _ _ _ _ _ _ _
                          refine G_widen (cs' := (16 * (o673848.toInt - g673501.toInt)).toNat) (sl' := (160 * (o673848.toInt - g673501.toInt)).toNat) (by omega) (by omega) ?_
                          exact G_vretA dr_cX14_next_247 rfl (show (16 * (o673848.toInt - g673501.toInt)).toNat ≤ ((16 * (p672350.toInt - p672351.toInt)).toNat) by omega) (show (160 * (o673848.toInt - g673501.toInt)).toNat ≤ ((160 * (p672350.toInt - p672351.toInt)).toNat) by omega) ⟨P673857, F673858, o673848, o673849, g673501, p672354, q673850, xt673856, rfl, rfl, hsb673865, hfr673866, he673861, he673862, (by omega), (by omega), (gB_w bo673848 (by decide) (by decide)), (gB_w bo673849 (by decide) (by decide)), (gB_w bg673501' (by decide) (by decide)), (by have qa0 : Int32.toInt 0 = 0 := (by decide); omega), (Or.inr (by omega)), (by have qa0 : Int32.toInt 0 = 0 := (by decide); omega), x673853, x673854, (fun R c1 c2 c3 c4 c5 c6 c7 c8 c9 c10 c11 c12 c13 => c9 g673501 z673745 o673806 o673816 xt673856 o673848 o673849 hx673783 r673798 hz673745 hJ673800 bo673806 ht673808 r673810 bo673816 ht673818 r673842 bo673848 bo673849 ht673855)⟩
                      · have r673867 : o673806.toInt ≠ 0 := gj_neq hc673809 (show Int32.toInt 0 = 0 by decide)
                        have bo673806' : gB o673806 1 1 := ⟨by omega, by omega⟩
                        have bi673868 : gB z673745 97 122 := isP_1 x673807 (by omega)
                        refine G_aload_n 2 dr_cX14_next_216 rfl ?_
                        refine Gw_callV (As := []) (gV_ok D I) (cp_669718_Reader_word l hl0 D I P672346 F673791 q672348 q672349 p672350 g673501 p672352 g673501 p672354 p672352 (D.2 1000 32) p672357 p672358 p672359 qo672360 qo672361 p672362 f672363 hmq672348 hmq672349 he673795 he673794 (gB_w bp672350' (by decide) (by decide)) (gB_w bg673501' (by decide) (by decide)) bp672352 (gB_w bg673501' (by decide) (by decide)) bp672352 bp672357 bp672358 bp672359 bp672362 bf672363 (by have qa0 : Int32.toInt 0 = 0 := (by decide); omega) (by have qa0 : Int32.toInt 0 = 0 := (by decide); omega) (by first | assumption | exact cLt_of (by assumption) (by omega) (by omega)) x672365 x672366) dr_cX14_next_217 ⟨wr_7_225, wr_1_32, wr_7_228, by decide, rfl, (Nat.le_of_ble_eq_true rfl), (Nat.le_of_ble_eq_true rfl)⟩ wr_7_227 wr_p_76 hmq672348 he673795 rfl (show 0 + ((16 * (p672350.toInt - g673501.toInt)).toNat) ≤ ((16 * (p672350.toInt - p672351.toInt)).toNat) by first | omega | decide) (show 0 + ((160 * (p672350.toInt - g673501.toInt)).toNat) ≤ ((160 * (p672350.toInt - p672351.toInt)).toNat) by first | omega | decide) (Nat.le_of_ble_eq_true rfl) (fun r673872 w673873 dc673869 ds673870 hp673871 => ?_) (fun _ _ _ _ _ z => z.elim)
                        obtain ⟨P673884, F673885, o673874, o673875, o673876, q673877, xt673883, rfl, rfl, hsb673886, hfr673887, he673888, he673889, hdc, hds, bo673874, bo673875, x673878, x673879, x673880, x673881, ht673882⟩ := hp673871
                        have hm673890 : q672348 ∈ P673884 := hsb673886 q672348 hmq672348
                        have hm673891 : q672349 ∈ P673884 := hsb673886 q672349 hmq672349
                        have hsb673892 : rSub P672346 P673884 := rSub_tr (rSub_rf (P := P672346)) hsb673886
                        have hfr673893 : rFr [q672348] P672346 F672347 F673885 := rFr_call (rSub_rf (P := P672346)) hfr673796 hfr673887 (fun b hb hn => ⟨(nm_c (fun e => hn (e ▸ List.mem_cons_self)) nm_n), (nm_c (fun e => hn (e ▸ List.mem_cons_self)) nm_n)⟩)
                        have bo673876 := gB_any o673876
                        change G _ _ _ _ _ _ _ _ _ _ _
                        refine G_widen (cs' := (16 * (o673874.toInt - g673501.toInt)).toNat) (sl' := (160 * (o673874.toInt - g673501.toInt)).toNat) (by omega) (by omega) ?_
                        refine G_goto 247 dr_cX14_next_220 (by decide +kernel) ?_
                        exact G_vretA dr_cX14_next_247 rfl (show (16 * (o673874.toInt - g673501.toInt)).toNat ≤ ((16 * (p672350.toInt - p672351.toInt)).toNat) by omega) (show (160 * (o673874.toInt - g673501.toInt)).toNat ≤ ((160 * (p672350.toInt - p672351.toInt)).toNat) by omega) ⟨P673884, F673885, o673874, o673875, g673501, o673876, q673877, xt673883, rfl, rfl, hsb673892, hfr673893, he673888, he673889, (by omega), (by omega), bo673874, (gB_w bo673875 (by decide) (by decide)), (gB_w bg673501' (by decide) (by decide)), (by have qa0 : Int32.toInt 0 = 0 := (by decide); omega), (Or.inr (by omega)), (by have qa0 : Int32.toInt 0 = 0 := (by decide); omega), x673880, x673881, (fun R c1 c2 c3 c4 c5 c6 c7 c8 c9 c10 c11 c12 c13 => c10 g673501 z673745 o673806 xt673883 o673874 o673875 o673876 hx673783 r673798 hz673745 hJ673800 bo673806 ht673808 r673867 bo673874 bo673875 ht673882)⟩
                    refine G_iload_n 0 dr_cX14_next_151 rfl ?_
                    refine G_bipush 45 dr_cX14_next_152 (by decide +kernel) ?_
                    refine G_icmp_ne 207 dr_cX14_next_154 (by decide +kernel) (fun hc673894 => ?_) (fun hc673894 => ?_)
                    · have r673895 : z673745.toInt ≠ 45 := gj_neq hc673894 (show Int32.toInt 45 = 45 by decide)
                      refine G_iconst 0 dr_cX14_next_207 (by decide +kernel) ?_
                      refine G_istore_n (L' := [(2, .int 0), (1, .int z673745), (0, .ref q672348)]) dr_cX14_next_208 (Nat.le_of_ble_eq_true rfl) rfl ?_
                      refine G_lv (L' := [(2, .int 0), (1, .int z673745), (0, .ref q672348)]) [0, 1, 2] rfl ?_
                      exact jn673799 (Or.inl r673895)
                    · have r673896 : z673745.toInt = 45 := gj_eq hc673894 (show Int32.toInt 45 = 45 by decide)
                      have bz673745' : gB z673745 45 45 := ⟨by omega, by omega⟩
                      refine G_aload_n 1 dr_cX14_next_157 rfl ?_
                      refine Gp_get 2 hmq672348 he673795 dr_cX14_next_158 (gk_X14 D I) (Nat.le_of_ble_eq_true rfl) wr_9_38 rfl ?_
                      refine G_iconst 1 dr_cX14_next_161 (by decide +kernel) ?_
                      refine G_iadd dr_cX14_next_162 (G_nam fun z673897 hz673897 => ?_)
                      have ez673897 : z673897.toInt = g673501.toInt + 1 := by rw [gI_add hz673897 bg673501' (gBl (show Int32.toInt 1 = 1 by decide)) (by decide) (by decide), show Int32.toInt 1 = 1 from by decide]
                      have bz673897 : gB z673897 1 8192 := gB_add (gI_add hz673897 bg673501' (gBl (show Int32.toInt 1 = 1 by decide)) (by decide) (by decide)) bg673501' (gBl (show Int32.toInt 1 = 1 by decide)) (by decide) (by decide)
                      refine G_aload_n 1 dr_cX14_next_163 rfl ?_
                      refine Gp_get 1 hmq672348 he673795 dr_cX14_next_164 (gk_X14 D I) (Nat.le_of_ble_eq_true rfl) wr_9_37 rfl ?_
                      refine G_icmp_ge 207 dr_cX14_next_167 (by decide +kernel) (fun hc673898 => ?_) (fun hc673898 => ?_)
                      · have r673899 : p672350.toInt ≤ z673897.toInt := gC_le hc673898
                        refine G_iconst 0 dr_cX14_next_207 (by decide +kernel) ?_
                        refine G_istore_n (L' := [(2, .int 0), (1, .int z673745), (0, .ref q672348)]) dr_cX14_next_208 (Nat.le_of_ble_eq_true rfl) rfl ?_
                        refine G_lv (L' := [(2, .int 0), (1, .int z673745), (0, .ref q672348)]) [0, 1, 2] rfl ?_
                        exact jn673799 (Or.inr (Or.inl ⟨z673897, r673896, ez673897, r673899⟩))
                      · have r673900 : z673897.toInt < p672350.toInt := gC_nle hc673898
                        have bz673897' : gB z673897 1 8191 := ⟨by omega, by omega⟩
                        have bp672350'' : gB p672350 2 8192 := ⟨by omega, by omega⟩
                        refine G_aload_n 1 dr_cX14_next_170 rfl ?_
                        refine Gp_get 0 hmq672348 he673795 dr_cX14_next_171 (gk_X14 D I) (Nat.le_of_ble_eq_true rfl) wr_9_36 rfl ?_
                        refine G_aload_n 1 dr_cX14_next_174 rfl ?_
                        refine Gp_get 2 hmq672348 he673795 dr_cX14_next_175 (gk_X14 D I) (Nat.le_of_ble_eq_true rfl) wr_9_38 rfl ?_
                        refine G_iconst 1 dr_cX14_next_178 (by decide +kernel) ?_
                        refine G_iadd dr_cX14_next_179 (G_eqi (y := z673897) hz673897.symm ?_)
                        refine Gp_bald 1 hmq672349 he673794 dr_cX14_next_180 rfl (gB_in bz673897' (by decide) (by decide)) (G_nam fun z673901 hz673901 => ?_)
                        have bz673901 : gB z673901 (-128) 127 := by rw [hz673901]; exact bf672363 _
                        refine Gw_callS (As := [.int z673901]) (gV_ok D I) (cp_668112_Reader_isDigit l hl0 D I P672346 F673791 z673901 ) dr_cX14_next_181 ⟨wr_7_219, wr_1_32, wr_7_221, by decide, rfl, (Nat.le_of_ble_eq_true rfl), (Nat.le_of_ble_eq_true rfl)⟩ wr_7_220 (show 0 + 0 ≤ ((16 * (p672350.toInt - p672351.toInt)).toNat) by first | omega | decide) (show 0 + 0 ≤ ((160 * (p672350.toInt - p672351.toInt)).toNat) by first | omega | decide) (Nat.le_of_ble_eq_true rfl) (fun r673905 w673906 dc673902 ds673903 hp673904 => ?_) (fun _ _ _ _ _ z => z.elim)
                        obtain ⟨o673907, rfl, rfl, hdc, hds, bo673907, x673908, ht673909⟩ := hp673904
                        change G _ _ _ _ _ _ _ (.int o673907 :: _) _ _ _
                        refine G_widen (cs' := 0) (sl' := 0) (by omega) (by omega) ?_
                        refine G_if_eq 207 dr_cX14_next_184 (by decide +kernel) (fun hc673910 => ?_) (fun hc673910 => ?_)
                        · have r673911 : o673907.toInt = 0 := gj_eq hc673910 (show Int32.toInt 0 = 0 by decide)
                          have bo673907' : gB o673907 0 0 := ⟨by omega, by omega⟩
                          refine G_iconst 0 dr_cX14_next_207 (by decide +kernel) ?_
                          refine G_istore_n (L' := [(2, .int 0), (1, .int z673745), (0, .ref q672348)]) dr_cX14_next_208 (Nat.le_of_ble_eq_true rfl) rfl ?_
                          refine G_lv (L' := [(2, .int 0), (1, .int z673745), (0, .ref q672348)]) [0, 1, 2] rfl ?_
                          exact jn673799 (Or.inr (Or.inr (Or.inl ⟨z673897, z673901, o673907, r673896, ez673897, r673900, hz673901, bz673901, bo673907, ht673909, r673911⟩)))
                        · have r673912 : o673907.toInt ≠ 0 := gj_neq hc673910 (show Int32.toInt 0 = 0 by decide)
                          have bo673907' : gB o673907 1 1 := ⟨by omega, by omega⟩
                          have bi673913 : gB z673901 48 57 := isP_1 x673908 (by omega)
                          refine G_aload_n 1 dr_cX14_next_187 rfl ?_
                          refine Gp_get 6 hmq672348 he673795 dr_cX14_next_188 (gk_X14 D I) (Nat.le_of_ble_eq_true rfl) wr_9_42 rfl ?_
                          refine G_iconst 2 dr_cX14_next_191 (by decide +kernel) ?_
                          refine G_icmp_eq 207 dr_cX14_next_192 (by decide +kernel) (fun hc673914 => ?_) (fun hc673914 => ?_)
                          · have r673915 : p672352.toInt = 2 := gj_eq hc673914 (show Int32.toInt 2 = 2 by decide)
                            have bp672352' : gB p672352 2 2 := ⟨by omega, by omega⟩
                            refine G_iconst 0 dr_cX14_next_207 (by decide +kernel) ?_
                            refine G_istore_n (L' := [(2, .int 0), (1, .int z673745), (0, .ref q672348)]) dr_cX14_next_208 (Nat.le_of_ble_eq_true rfl) rfl ?_
                            refine G_lv (L' := [(2, .int 0), (1, .int z673745), (0, .ref q672348)]) [0, 1, 2] rfl ?_
                            exact jn673799 (Or.inr (Or.inr (Or.inr (Or.inl ⟨z673897, z673901, o673907, r673896, ez673897, r673900, hz673901, bz673901, bo673907, ht673909, r673912, r673915⟩))))
                          · have r673916 : p672352.toInt ≠ 2 := gj_neq hc673914 (show Int32.toInt 2 = 2 by decide)
                            refine G_aload_n 1 dr_cX14_next_195 rfl ?_
                            refine Gp_get 6 hmq672348 he673795 dr_cX14_next_196 (gk_X14 D I) (Nat.le_of_ble_eq_true rfl) wr_9_42 rfl ?_
                            refine G_iconst 4 dr_cX14_next_199 (by decide +kernel) ?_
                            refine G_icmp_eq 207 dr_cX14_next_200 (by decide +kernel) (fun hc673917 => ?_) (fun hc673917 => ?_)
                            · have r673918 : p672352.toInt = 4 := gj_eq hc673917 (show Int32.toInt 4 = 4 by decide)
                              have bp672352' : gB p672352 4 4 := ⟨by omega, by omega⟩
                              refine G_iconst 0 dr_cX14_next_207 (by decide +kernel) ?_
                              refine G_istore_n (L' := [(2, .int 0), (1, .int z673745), (0, .ref q672348)]) dr_cX14_next_208 (Nat.le_of_ble_eq_true rfl) rfl ?_
                              refine G_lv (L' := [(2, .int 0), (1, .int z673745), (0, .ref q672348)]) [0, 1, 2] rfl ?_
                              exact jn673799 (Or.inr (Or.inr (Or.inr (Or.inr (⟨z673897, z673901, o673907, r673896, ez673897, r673900, hz673901, bz673901, bo673907, ht673909, r673912, r673916, r673918⟩)))))
                            · have r673919 : p672352.toInt ≠ 4 := gj_neq hc673917 (show Int32.toInt 4 = 4 by decide)
                              refine G_iconst 1 dr_cX14_next_203 (by decide +kernel) ?_
                              refine G_goto 208 dr_cX14_next_204 (by decide +kernel) ?_
                              refine G_istore_n (L' := [(2, .int 1), (1, .int z673745), (0, .ref q672348)]) dr_cX14_next_208 (Nat.le_of_ble_eq_true rfl) rfl ?_
                              clear bp672350' bz673745 jn673799 bz673897 bo673907'; try clear r673905; try clear w673906; try clear dc673902; try clear ds673903; try clear hp673904; try clear x673908
                              refine G_iload_n 1 dr_cX14_next_209 rfl ?_
                              refine Gw_callS (As := [.int z673745]) (gV_ok D I) (cp_670062_Reader_isLetter l hl0 D I P672346 F673791 z673745 ) dr_cX14_next_210 ⟨wr_7_222, wr_1_32, wr_7_224, by decide, rfl, (Nat.le_of_ble_eq_true rfl), (Nat.le_of_ble_eq_true rfl)⟩ wr_7_223 (show 0 + 0 ≤ ((16 * (p672350.toInt - p672351.toInt)).toNat) by first | omega | decide) (show 0 + 0 ≤ ((160 * (p672350.toInt - p672351.toInt)).toNat) by first | omega | decide) (Nat.le_of_ble_eq_true rfl) (fun r673923 w673924 dc673920 ds673921 hp673922 => ?_) (fun _ _ _ _ _ z => z.elim)
                              obtain ⟨o673925, rfl, rfl, hdc, hds, bo673925, x673926, ht673927⟩ := hp673922
                              change G _ _ _ _ _ _ _ (.int o673925 :: _) _ _ _
                              refine G_widen (cs' := 0) (sl' := 0) (by omega) (by omega) ?_
                              refine G_if_eq 223 dr_cX14_next_213 (by decide +kernel) (fun hc673928 => ?_) (fun hc673928 => ?_)
                              · have r673929 : o673925.toInt = 0 := gj_eq hc673928 (show Int32.toInt 0 = 0 by decide)
                                have bo673925' : gB o673925 0 0 := ⟨by omega, by omega⟩
                                clear bo673925'; try clear r673923; try clear w673924; try clear dc673920; try clear ds673921; try clear hp673922; try clear x673926
                                refine G_iload_n 1 dr_cX14_next_223 rfl ?_
                                refine Gw_callS (As := [.int z673745]) (gV_ok D I) (cp_668112_Reader_isDigit l hl0 D I P672346 F673791 z673745 ) dr_cX14_next_224 ⟨wr_7_219, wr_1_32, wr_7_221, by decide, rfl, (Nat.le_of_ble_eq_true rfl), (Nat.le_of_ble_eq_true rfl)⟩ wr_7_220 (show 0 + 0 ≤ ((16 * (p672350.toInt - p672351.toInt)).toNat) by first | omega | decide) (show 0 + 0 ≤ ((160 * (p672350.toInt - p672351.toInt)).toNat) by first | omega | decide) (Nat.le_of_ble_eq_true rfl) (fun r673933 w673934 dc673930 ds673931 hp673932 => ?_) (fun _ _ _ _ _ z => z.elim)
                                obtain ⟨o673935, rfl, rfl, hdc, hds, bo673935, x673936, ht673937⟩ := hp673932
                                change G _ _ _ _ _ _ _ (.int o673935 :: _) _ _ _
                                refine G_widen (cs' := 0) (sl' := 0) (by omega) (by omega) ?_
                                refine G_if_ne 234 dr_cX14_next_227 (by decide +kernel) (fun hc673938 => ?_) (fun hc673938 => ?_)
                                · have r673939 : o673935.toInt ≠ 0 := gj_neq hc673938 (show Int32.toInt 0 = 0 by decide)
                                  have bo673935' : gB o673935 1 1 := ⟨by omega, by omega⟩
                                  have bi673940 : gB z673745 48 57 := isP_1 x673936 (by omega)
                                  refine G_aload_n 2 dr_cX14_next_234 rfl ?_
                                  refine G_iload_n 0 dr_cX14_next_235 rfl ?_
                                  refine Gw_callV (As := [.int 1]) (gV_ok D I) (cp_668076_Reader_number l hl0 D I P672346 F673791 q672348 q672349 1 p672350 g673501 p672352 g673501 p672354 p672352 (D.2 1000 32) p672357 p672358 p672359 qo672360 qo672361 p672362 f672363 hmq672348 hmq672349 he673795 he673794 (gB_w (gBl (show Int32.toInt 1 = 1 by decide)) (by decide) (by decide)) (gB_w bp672350'' (by decide) (by decide)) (gB_w bg673501' (by decide) (by decide)) bp672352 (gB_w bg673501' (by decide) (by decide)) bp672352 bp672357 bp672358 bp672359 bp672362 bf672363 (by have qa0 : Int32.toInt 1 = 1 := (by decide); omega) (by have qa0 : Int32.toInt 1 = 1 := (by decide); omega) (by first | assumption | exact cDg_no (by omega) | exact cDg_no (by decide) | exact cDg_of (by assumption) (by omega) (by omega)) x672365 x672366) dr_cX14_next_236 ⟨wr_8_218, wr_1_32, wr_8_221, by decide, rfl, (Nat.le_of_ble_eq_true rfl), (Nat.le_of_ble_eq_true rfl)⟩ wr_8_220 wr_p_77 hmq672348 he673795 rfl (show 0 + ((16 * (p672350.toInt - g673501.toInt)).toNat) ≤ ((16 * (p672350.toInt - p672351.toInt)).toNat) by first | omega | decide) (show 0 + ((160 * (p672350.toInt - g673501.toInt)).toNat) ≤ ((160 * (p672350.toInt - p672351.toInt)).toNat) by first | omega | decide) (Nat.le_of_ble_eq_true rfl) (fun r673944 w673945 dc673941 ds673942 hp673943 => ?_) (fun _ _ _ _ _ z => z.elim)
                                  obtain ⟨F673955, o673946, o673947, o673948, xt673954, rfl, rfl, hfr673957, he673958, he673959, hdc, hds, bo673946, bo673947, x673949, x673950, x673951, x673952, ht673953⟩ := hp673943
                                  have hfr673960 : rFr [q672348] P672346 F672347 F673955 := rFr_call (rSub_rf (P := P672346)) hfr673796 hfr673957 (fun b hb hn => ⟨(nm_c (fun e => hn (e ▸ List.mem_cons_self)) nm_n), (nm_c (fun e => hn (e ▸ List.mem_cons_self)) nm_n)⟩)
                                  have bo673948 := gB_any o673948
                                  change G _ _ _ _ _ _ _ _ _ _ _
                                  refine G_widen (cs' := (16 * (o673946.toInt - g673501.toInt)).toNat) (sl' := (160 * (o673946.toInt - g673501.toInt)).toNat) (by omega) (by omega) ?_
                                  refine G_goto 247 dr_cX14_next_239 (by decide +kernel) ?_
                                  exact G_vretA dr_cX14_next_247 rfl (show (16 * (o673946.toInt - g673501.toInt)).toNat ≤ ((16 * (p672350.toInt - p672351.toInt)).toNat) by omega) (show (160 * (o673946.toInt - g673501.toInt)).toNat ≤ ((160 * (p672350.toInt - p672351.toInt)).toNat) by omega) ⟨P672346, F673955, o673946, o673947, g673501, o673948, (D.2 1000 32), xt673954, rfl, rfl, (rSub_rf (P := P672346)), hfr673960, he673958, he673959, (by omega), (by omega), bo673946, (gB_w bo673947 (by decide) (by decide)), (gB_w bg673501' (by decide) (by decide)), (by have qa0 : Int32.toInt 1 = 1 := (by decide); omega), (Or.inr (by omega)), (by have qa0 : Int32.toInt 1 = 1 := (by decide); omega), (by first | exact tP_no (by omega) (by omega) | assumption), x673952, (fun R c1 c2 c3 c4 c5 c6 c7 c8 c9 c10 c11 c12 c13 => c11 g673501 z673745 z673897 z673901 o673907 o673925 o673935 xt673954 o673946 o673947 o673948 hx673783 r673798 hz673745 r673896 ez673897 r673900 hz673901 bz673901 bo673907 ht673909 r673912 r673916 r673919 bo673925 ht673927 r673929 bo673935 ht673937 r673939 bo673946 bo673947 ht673953)⟩
                                · have r673961 : o673935.toInt = 0 := gj_eq hc673938 (show Int32.toInt 0 = 0 by decide)
                                  have bo673935' : gB o673935 0 0 := ⟨by omega, by omega⟩
                                  refine G_iload_n 0 dr_cX14_next_230 rfl ?_
                                  refine G_if_eq 242 dr_cX14_next_231 (by decide +kernel) (fun hc => absurd hc (by decide)) (fun _ => ?_)
                                  refine G_aload_n 2 dr_cX14_next_234 rfl ?_
                                  refine G_iload_n 0 dr_cX14_next_235 rfl ?_
                                  refine Gw_callV (As := [.int 1]) (gV_ok D I) (cp_668076_Reader_number l hl0 D I P672346 F673791 q672348 q672349 1 p672350 g673501 p672352 g673501 p672354 p672352 (D.2 1000 32) p672357 p672358 p672359 qo672360 qo672361 p672362 f672363 hmq672348 hmq672349 he673795 he673794 (gB_w (gBl (show Int32.toInt 1 = 1 by decide)) (by decide) (by decide)) (gB_w bp672350'' (by decide) (by decide)) (gB_w bg673501' (by decide) (by decide)) bp672352 (gB_w bg673501' (by decide) (by decide)) bp672352 bp672357 bp672358 bp672359 bp672362 bf672363 (by have qa0 : Int32.toInt 1 = 1 := (by decide); omega) (by have qa0 : Int32.toInt 1 = 1 := (by decide); omega) (by first | assumption | exact cDg_no (by omega) | exact cDg_no (by decide) | exact cDg_of (by assumption) (by omega) (by omega)) x672365 x672366) dr_cX14_next_236 ⟨wr_8_218, wr_1_32, wr_8_221, by decide, rfl, (Nat.le_of_ble_eq_true rfl), (Nat.le_of_ble_eq_true rfl)⟩ wr_8_220 wr_p_77 hmq672348 he673795 rfl (show 0 + ((16 * (p672350.toInt - g673501.toInt)).toNat) ≤ ((16 * (p672350.toInt - p672351.toInt)).toNat) by first | omega | decide) (show 0 + ((160 * (p672350.toInt - g673501.toInt)).toNat) ≤ ((160 * (p672350.toInt - p672351.toInt)).toNat) by first | omega | decide) (Nat.le_of_ble_eq_true rfl) (fun r673965 w673966 dc673962 ds673963 hp673964 => ?_) (fun _ _ _ _ _ z => z.elim)
                                  obtain ⟨F673976, o673967, o673968, o673969, xt673975, rfl, rfl, hfr673978, he673979, he673980, hdc, hds, bo673967, bo673968, x673970, x673971, x673972, x673973, ht673974⟩ := hp673964
                                  have hfr673981 : rFr [q672348] P672346 F672347 F673976 := rFr_call (rSub_rf (P := P672346)) hfr673796 hfr673978 (fun b hb hn => ⟨(nm_c (fun e => hn (e ▸ List.mem_cons_self)) nm_n), (nm_c (fun e => hn (e ▸ List.mem_cons_self)) nm_n)⟩)
                                  have bo673969 := gB_any o673969
                                  change G _ _ _ _ _ _ _ _ _ _ _
                                  refine G_widen (cs' := (16 * (o673967.toInt - g673501.toInt)).toNat) (sl' := (160 * (o673967.toInt - g673501.toInt)).toNat) (by omega) (by omega) ?_
                                  refine G_goto 247 dr_cX14_next_239 (by decide +kernel) ?_
                                  exact G_vretA dr_cX14_next_247 rfl (show (16 * (o673967.toInt - g673501.toInt)).toNat ≤ ((16 * (p672350.toInt - p672351.toInt)).toNat) by omega) (show (160 * (o673967.toInt - g673501.toInt)).toNat ≤ ((160 * (p672350.toInt - p672351.toInt)).toNat) by omega) ⟨P672346, F673976, o673967, o673968, g673501, o673969, (D.2 1000 32), xt673975, rfl, rfl, (rSub_rf (P := P672346)), hfr673981, he673979, he673980, (by omega), (by omega), bo673967, (gB_w bo673968 (by decide) (by decide)), (gB_w bg673501' (by decide) (by decide)), (by have qa0 : Int32.toInt 1 = 1 := (by decide); omega), (Or.inr (by omega)), (by have qa0 : Int32.toInt 1 = 1 := (by decide); omega), (by first | exact tP_no (by omega) (by omega) | assumption), x673973, (fun R c1 c2 c3 c4 c5 c6 c7 c8 c9 c10 c11 c12 c13 => c12 g673501 z673745 z673897 z673901 o673907 o673925 o673935 xt673975 o673967 o673968 o673969 hx673783 r673798 hz673745 r673896 ez673897 r673900 hz673901 bz673901 bo673907 ht673909 r673912 r673916 r673919 bo673925 ht673927 r673929 bo673935 ht673937 r673961 bo673967 bo673968 ht673974)⟩
                              · have r673982 : o673925.toInt ≠ 0 := gj_neq hc673928 (show Int32.toInt 0 = 0 by decide)
                                have bo673925' : gB o673925 1 1 := ⟨by omega, by omega⟩
                                have bi673983 : gB z673745 97 122 := isP_1 x673926 (by omega)
                                refine G_aload_n 2 dr_cX14_next_216 rfl ?_
                                refine Gw_callV (As := []) (gV_ok D I) (cp_669718_Reader_word l hl0 D I P672346 F673791 q672348 q672349 p672350 g673501 p672352 g673501 p672354 p672352 (D.2 1000 32) p672357 p672358 p672359 qo672360 qo672361 p672362 f672363 hmq672348 hmq672349 he673795 he673794 (gB_w bp672350'' (by decide) (by decide)) (gB_w bg673501' (by decide) (by decide)) bp672352 (gB_w bg673501' (by decide) (by decide)) bp672352 bp672357 bp672358 bp672359 bp672362 bf672363 (by have qa0 : Int32.toInt 1 = 1 := (by decide); omega) (by have qa0 : Int32.toInt 1 = 1 := (by decide); omega) (by first | assumption | exact cLt_of (by assumption) (by omega) (by omega)) x672365 x672366) dr_cX14_next_217 ⟨wr_7_225, wr_1_32, wr_7_228, by decide, rfl, (Nat.le_of_ble_eq_true rfl), (Nat.le_of_ble_eq_true rfl)⟩ wr_7_227 wr_p_76 hmq672348 he673795 rfl (show 0 + ((16 * (p672350.toInt - g673501.toInt)).toNat) ≤ ((16 * (p672350.toInt - p672351.toInt)).toNat) by first | omega | decide) (show 0 + ((160 * (p672350.toInt - g673501.toInt)).toNat) ≤ ((160 * (p672350.toInt - p672351.toInt)).toNat) by first | omega | decide) (Nat.le_of_ble_eq_true rfl) (fun r673987 w673988 dc673984 ds673985 hp673986 => ?_) (fun _ _ _ _ _ z => z.elim)
                                obtain ⟨P673999, F674000, o673989, o673990, o673991, q673992, xt673998, rfl, rfl, hsb674001, hfr674002, he674003, he674004, hdc, hds, bo673989, bo673990, x673993, x673994, x673995, x673996, ht673997⟩ := hp673986
                                have hm674005 : q672348 ∈ P673999 := hsb674001 q672348 hmq672348
                                have hm674006 : q672349 ∈ P673999 := hsb674001 q672349 hmq672349
                                have hsb674007 : rSub P672346 P673999 := rSub_tr (rSub_rf (P := P672346)) hsb674001
                                have hfr674008 : rFr [q672348] P672346 F672347 F674000 := rFr_call (rSub_rf (P := P672346)) hfr673796 hfr674002 (fun b hb hn => ⟨(nm_c (fun e => hn (e ▸ List.mem_cons_self)) nm_n), (nm_c (fun e => hn (e ▸ List.mem_cons_self)) nm_n)⟩)
                                have bo673991 := gB_any o673991
                                change G _ _ _ _ _ _ _ _ _ _ _
                                refine G_widen (cs' := (16 * (o673989.toInt - g673501.toInt)).toNat) (sl' := (160 * (o673989.toInt - g673501.toInt)).toNat) (by omega) (by omega) ?_
                                refine G_goto 247 dr_cX14_next_220 (by decide +kernel) ?_
                                exact G_vretA dr_cX14_next_247 rfl (show (16 * (o673989.toInt - g673501.toInt)).toNat ≤ ((16 * (p672350.toInt - p672351.toInt)).toNat) by omega) (show (160 * (o673989.toInt - g673501.toInt)).toNat ≤ ((160 * (p672350.toInt - p672351.toInt)).toNat) by omega) ⟨P673999, F674000, o673989, o673990, g673501, o673991, q673992, xt673998, rfl, rfl, hsb674007, hfr674008, he674003, he674004, (by omega), (by omega), bo673989, (gB_w bo673990 (by decide) (by decide)), (gB_w bg673501' (by decide) (by decide)), (by have qa0 : Int32.toInt 1 = 1 := (by decide); omega), (Or.inr (by omega)), (by have qa0 : Int32.toInt 1 = 1 := (by decide); omega), x673995, x673996, (fun R c1 c2 c3 c4 c5 c6 c7 c8 c9 c10 c11 c12 c13 => c13 g673501 z673745 z673897 z673901 o673907 o673925 xt673998 o673989 o673990 o673991 hx673783 r673798 hz673745 r673896 ez673897 r673900 hz673901 bz673901 bo673907 ht673909 r673912 r673916 r673919 bo673925 ht673927 r673982 bo673989 bo673990 ht673997)⟩
                  · have r674009 : g673501.toInt = p672350.toInt := gC_eq hc673797
                    have bg673501'' : gB g673501 1 8191 := ⟨by omega, by omega⟩
                    have bp672350'' : gB p672350 1 8191 := ⟨by omega, by omega⟩
                    refine G_aload_n 1 dr_cX14_next_135 rfl ?_
                    refine G_iconst 0 dr_cX14_next_136 (by decide +kernel) ?_
                    refine Gp_put 3 hmq672348 he673795 dr_cX14_next_137 (gk_X14 D I) (Nat.le_of_ble_eq_true rfl) wr_9_39 rfl rfl rfl (Nat.le_of_ble_eq_true rfl) (fun F674010 e674011 n674012 => ?_)
                    have he674013 : F674010 q672349 = .inl (I .byte, 8192, .inl f672363) := (n674012 q672349 (rn_ao he673794 he673795)).trans he673794
                    have he674014 : F674010 q672348 = .inr (19, [.ref q672349, .int p672350, .int g673501, .int 0, .int g673501, .int p672354, .int p672352, .ref (D.2 1000 32), .int p672357, .int p672358, .int p672359, .ref qo672360, .ref qo672361, .int p672362]) := e674011
                    have hfr674015 : rFr [q672348] P672346 F672347 F674010 := rFr_put' List.mem_cons_self hfr673796 n674012
                    exact G_vretA dr_cX14_next_140 rfl (show 0 ≤ ((16 * (p672350.toInt - p672351.toInt)).toNat) by omega) (show 0 ≤ ((160 * (p672350.toInt - p672351.toInt)).toNat) by omega) ⟨P672346, F674010, g673501, 0, g673501, p672354, (D.2 1000 32), (0, fun _ => 0), rfl, rfl, (rSub_rf (P := P672346)), hfr674015, he674014, he674013, (by omega), (by omega), (gB_w bg673501'' (by decide) (by decide)), (gB_w (gBl (show Int32.toInt 0 = 0 by decide)) (by decide) (by decide)), (gB_w bg673501'' (by decide) (by decide)), (by have qa0 : Int32.toInt 0 = 0 := (by decide); omega), (Or.inl (by decide)), (by have qa0 : Int32.toInt 0 = 0 := (by decide); omega), (tP_no (by decide) (by decide)), (vP_no (by decide) (by decide)), (fun R c1 c2 c3 c4 c5 c6 c7 c8 c9 c10 c11 c12 c13 => c7 g673501 hx673783 r674009)⟩
                · have r674016 : z673745.toInt = 32 := gj_eq hc673781 (show Int32.toInt 32 = 32 by decide)
                  have bz673745' : gB z673745 32 32 := ⟨by omega, by omega⟩
                  refine G_aload_n 1 dr_cX14_next_97 rfl ?_
                  refine G_dup dr_cX14_next_98 rfl ?_
                  refine Gp_get 2 hmq672348 he673503 dr_cX14_next_99 (gk_X14 D I) (Nat.le_of_ble_eq_true rfl) wr_9_38 rfl ?_
                  refine G_iconst 1 dr_cX14_next_102 (by decide +kernel) ?_
                  refine G_iadd dr_cX14_next_103 (G_nam fun z674017 hz674017 => ?_)
                  have ez674017 : z674017.toInt = g673501.toInt + 1 := by rw [gI_add hz674017 bg673501' (gBl (show Int32.toInt 1 = 1 by decide)) (by decide) (by decide), show Int32.toInt 1 = 1 from by decide]
                  have bz674017 : gB z674017 1 8192 := gB_add (gI_add hz674017 bg673501' (gBl (show Int32.toInt 1 = 1 by decide)) (by decide) (by decide)) bg673501' (gBl (show Int32.toInt 1 = 1 by decide)) (by decide) (by decide)
                  refine Gp_put 2 hmq672348 he673503 dr_cX14_next_104 (gk_X14 D I) (Nat.le_of_ble_eq_true rfl) wr_9_38 rfl rfl rfl (Nat.le_of_ble_eq_true rfl) (fun F674018 e674019 n674020 => ?_)
                  have he674021 : F674018 q672349 = .inl (I .byte, 8192, .inl f672363) := (n674020 q672349 (rn_ao he673504 he673503)).trans he673504
                  have he674022 : F674018 q672348 = .inr (19, [.ref q672349, .int p672350, .int z674017, .int p672352, .int p672353, .int p672354, .int p672352, .ref qo672356, .int p672357, .int p672358, .int p672359, .ref qo672360, .ref qo672361, .int p672362]) := e674019
                  have hfr674023 : rFr [q672348] P672346 F672347 F674018 := rFr_put' List.mem_cons_self hfr673505 n674020
                  have x674024 : g673501.toInt < z674017.toInt := by first | omega | exact chNe (a := g673501) (b := z674017) (by assumption) (by assumption) (by omega) (by omega)
                  refine G_goto 8 dr_cX14_next_107 (by decide +kernel) ?_
                  refine G_lv (L' := [(0, .ref q672348)]) [1] rfl ?_
                  exact ih8_673507 F674018 z674017 (gB_w bz674017 (by decide) (by decide)) hfr674023 he674022 he674021 (by omega) (by omega) (fun k e1 ht => kt8_673507 k e1 (fun R c1 c2 c3 c4 c5 c6 c7 => c6 g673501 z673745 z674017 k e1 bg673501 r673744 hz673745 bz673745 r673747 r673758 r673769 r673780 r674016 ez674017 (ht R c1 c2 c3 c4 c5 c6 c7))) (by omega)
        · have r674025 : z673745.toInt = 59 := gj_eq hc673746 (show Int32.toInt 59 = 59 by decide)
          have bz673745' : gB z673745 59 59 := ⟨by omega, by omega⟩
          have hlp35_674062 : ∀ (n35_674062 : Nat) (F674056 : Nat → va_E) (g674055 : Int32), gB g674055 0 8192 → rFr [q672348] P672346 F672347 F674056 → F674056 q672348 = .inr (19, [.ref q672349, .int p672350, .int g674055, .int p672352, .int p672353, .int p672354, .int p672352, .ref qo672356, .int p672357, .int p672358, .int p672359, .ref qo672360, .ref qo672361, .int p672362]) → F674056 q672349 = .inl (I .byte, 8192, .inl f672363) → p672351.toInt ≤ g674055.toInt → g674055.toInt ≤ p672350.toInt → g673501.toInt ≤ g674055.toInt → (∀ (k : Nat) (e1 : Int32), tl_RReader_next_35 p672350 f672363 g674055 k e1 → tl_RReader_next_35 p672350 f672363 g673501 k e1) → ((p672350.toInt : Int) + 1 - g674055.toInt).toNat < n35_674062 → G (gV D I) l (gRm 7 155 ((16 * (p672350.toInt - p672351.toInt)).toNat) ((160 * (p672350.toInt - p672351.toInt)).toNat)) (gMA (gV D I) (pp_672367_Reader_next D I P672346 F672347 q672348 q672349 p672350 p672351 p672352 p672353 p672354 p672355 qo672356 p672357 p672358 p672359 qo672360 qo672361 p672362 f672363) gNA ((16 * (p672350.toInt - p672351.toInt)).toNat) ((160 * (p672350.toInt - p672351.toInt)).toNat)) ky_672367_Reader_next 35 [(1, .int z673745), (0, .ref q672348)] [] (va_pl P672346 F674056) 0 0 := by
            intro n35_674062
            induction n35_674062 with
            | zero => intro F674056 g674055 bg674055 hfr674059 he674057 he674058 x674060 x674061 x674062 kt35_674062 hm35_674062; exact absurd hm35_674062 (Nat.not_lt_zero _)
            | succ n35_674062 ih35_674062 =>
              intro F674056 g674055 bg674055 hfr674059 he674057 he674058 x674060 x674061 x674062 kt35_674062 hm35_674062
              refine G_aload_n 1 dr_cX14_next_35 rfl ?_
              refine Gp_get 2 hmq672348 he674057 dr_cX14_next_36 (gk_X14 D I) (Nat.le_of_ble_eq_true rfl) wr_9_38 rfl ?_
              refine G_aload_n 1 dr_cX14_next_39 rfl ?_
              refine Gp_get 1 hmq672348 he674057 dr_cX14_next_40 (gk_X14 D I) (Nat.le_of_ble_eq_true rfl) wr_9_37 rfl ?_
              refine G_icmp_ge 107 dr_cX14_next_43 (by decide +kernel) (fun hc674063 => ?_) (fun hc674063 => ?_)
              · have r674064 : p672350.toInt ≤ g674055.toInt := gC_le hc674063
                have bg674055' : gB g674055 1 8192 := ⟨by omega, by omega⟩
                have hx674065 : tl_RReader_next_35 p672350 f672363 g673501 107 g674055 := kt35_674062 107 g674055 (fun R c1 c2 c3 => c1 g674055 bg674055 r674064)
                have x674066 : g673501.toInt < g674055.toInt := by first | omega | exact chNe (a := g673501) (b := g674055) (by assumption) (by assumption) (by omega) (by omega)
                refine G_goto 8 dr_cX14_next_107 (by decide +kernel) ?_
                refine G_lv (L' := [(0, .ref q672348)]) [1] rfl ?_
                exact ih8_673507 F674056 g674055 (gB_w bg674055' (by decide) (by decide)) hfr674059 he674057 he674058 (by omega) (by omega) (fun k e1 ht => kt8_673507 k e1 (fun R c1 c2 c3 c4 c5 c6 c7 => c7 g673501 z673745 g674055 k e1 bg673501 r673744 hz673745 bz673745 r674025 hx674065 (ht R c1 c2 c3 c4 c5 c6 c7))) (by omega)
              · have r674067 : g674055.toInt < p672350.toInt := gC_nle hc674063
                have bg674055' : gB g674055 0 8191 := ⟨by omega, by omega⟩
                refine G_aload_n 1 dr_cX14_next_46 rfl ?_
                refine Gp_get 0 hmq672348 he674057 dr_cX14_next_47 (gk_X14 D I) (Nat.le_of_ble_eq_true rfl) wr_9_36 rfl ?_
                refine G_aload_n 1 dr_cX14_next_50 rfl ?_
                refine Gp_get 2 hmq672348 he674057 dr_cX14_next_51 (gk_X14 D I) (Nat.le_of_ble_eq_true rfl) wr_9_38 rfl ?_
                refine Gp_bald 1 hmq672349 he674058 dr_cX14_next_54 rfl (gB_in bg674055' (by decide) (by decide)) (G_nam fun z674068 hz674068 => ?_)
                have bz674068 : gB z674068 (-128) 127 := by rw [hz674068]; exact bf672363 _
                refine G_bipush 10 dr_cX14_next_55 (by decide +kernel) ?_
                refine G_icmp_eq 107 dr_cX14_next_57 (by decide +kernel) (fun hc674069 => ?_) (fun hc674069 => ?_)
                · have r674070 : z674068.toInt = 10 := gj_eq hc674069 (show Int32.toInt 10 = 10 by decide)
                  have bz674068' : gB z674068 10 10 := ⟨by omega, by omega⟩
                  have hx674071 : tl_RReader_next_35 p672350 f672363 g673501 107 g674055 := kt35_674062 107 g674055 (fun R c1 c2 c3 => c2 g674055 z674068 bg674055 r674067 hz674068 bz674068 r674070)
                  have x674072 : g673501.toInt < g674055.toInt := by first | omega | exact chNe (a := g673501) (b := g674055) (by assumption) (by assumption) (by omega) (by omega)
                  refine G_goto 8 dr_cX14_next_107 (by decide +kernel) ?_
                  refine G_lv (L' := [(0, .ref q672348)]) [1] rfl ?_
                  exact ih8_673507 F674056 g674055 (gB_w bg674055' (by decide) (by decide)) hfr674059 he674057 he674058 (by omega) (by omega) (fun k e1 ht => kt8_673507 k e1 (fun R c1 c2 c3 c4 c5 c6 c7 => c7 g673501 z673745 g674055 k e1 bg673501 r673744 hz673745 bz673745 r674025 hx674071 (ht R c1 c2 c3 c4 c5 c6 c7))) (by omega)
                · have r674073 : z674068.toInt ≠ 10 := gj_neq hc674069 (show Int32.toInt 10 = 10 by decide)
                  refine G_aload_n 1 dr_cX14_next_60 rfl ?_
                  refine G_dup dr_cX14_next_61 rfl ?_
                  refine Gp_get 2 hmq672348 he674057 dr_cX14_next_62 (gk_X14 D I) (Nat.le_of_ble_eq_true rfl) wr_9_38 rfl ?_
                  refine G_iconst 1 dr_cX14_next_65 (by decide +kernel) ?_
                  refine G_iadd dr_cX14_next_66 (G_nam fun z674074 hz674074 => ?_)
                  have ez674074 : z674074.toInt = g674055.toInt + 1 := by rw [gI_add hz674074 bg674055' (gBl (show Int32.toInt 1 = 1 by decide)) (by decide) (by decide), show Int32.toInt 1 = 1 from by decide]
                  have bz674074 : gB z674074 1 8192 := gB_add (gI_add hz674074 bg674055' (gBl (show Int32.toInt 1 = 1 by decide)) (by decide) (by decide)) bg674055' (gBl (show Int32.toInt 1 = 1 by decide)) (by decide) (by decide)
                  refine Gp_put 2 hmq672348 he674057 dr_cX14_next_67 (gk_X14 D I) (Nat.le_of_ble_eq_true rfl) wr_9_38 rfl rfl rfl (Nat.le_of_ble_eq_true rfl) (fun F674075 e674076 n674077 => ?_)
                  have he674078 : F674075 q672349 = .inl (I .byte, 8192, .inl f672363) := (n674077 q672349 (rn_ao he674058 he674057)).trans he674058
                  have he674079 : F674075 q672348 = .inr (19, [.ref q672349, .int p672350, .int z674074, .int p672352, .int p672353, .int p672354, .int p672352, .ref qo672356, .int p672357, .int p672358, .int p672359, .ref qo672360, .ref qo672361, .int p672362]) := e674076
                  have hfr674080 : rFr [q672348] P672346 F672347 F674075 := rFr_put' List.mem_cons_self hfr674059 n674077
                  refine G_goto 35 dr_cX14_next_70 (by decide +kernel) ?_
                  exact ih35_674062 F674075 z674074 (gB_w bz674074 (by decide) (by decide)) hfr674080 he674079 he674078 (by omega) (by omega) (by omega) (fun k e1 ht => kt35_674062 k e1 (fun R c1 c2 c3 => c3 g674055 z674068 z674074 k e1 bg674055 r674067 hz674068 bz674068 r674073 ez674074 (ht R c1 c2 c3))) (by omega)
          exact hlp35_674062 (((p672350.toInt : Int) + 1 - g673501.toInt).toNat + 1) F673502 g673501 (gB_w bg673501' (by decide) (by decide)) hfr673505 he673503 he673504 (by omega) (by omega) (by omega) (fun k e1 ht => ht) (Nat.lt_succ_self _)
  exact hlp8_673507 (((p672350.toInt : Int) + 1 - p672351.toInt).toNat + 1) F672368 p672351 bp672351 hfr672373 he672372 he672371 (by omega) (by omega) (fun k e1 ht => ht) (Nat.lt_succ_self _)
