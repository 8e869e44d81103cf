theorem dr_cX14_next_0 : decode cX14_next 0 = .ok (.aload_n 0, 1) := by decide +kernel
theorem dr_cX14_next_1 : decode cX14_next 1 = .ok (.aload_n 0, 1) := by decide +kernel
theorem dr_cX14_next_2 : decode cX14_next 2 = .ok (.getfield 38, 3) := by decide +kernel
theorem dr_cX14_next_5 : decode cX14_next 5 = .ok (.putfield 41, 3) := by decide +kernel
theorem wr_9_42 : (Jvm.Cond.fieldLink "SpillForgeModel$Reader" (41 : Nat) "SpillForgeModel$Reader" "before" "I") ∈ gw := gw_9 42 rfl rfl
theorem dr_cX14_next_8 : decode cX14_next 8 = .ok (.aload_n 0, 1) := by decide +kernel
theorem dr_cX14_next_9 : decode cX14_next 9 = .ok (.getfield 44, 3) := by decide +kernel
theorem dr_cX14_next_12 : decode cX14_next 12 = .ok (.aload_n 0, 1) := by decide +kernel
theorem dr_cX14_next_13 : decode cX14_next 13 = .ok (.getfield 32, 3) := by decide +kernel
theorem dr_cX14_next_16 : decode cX14_next 16 = .ok (.if_icmp .ge 94, 3) := by decide +kernel
theorem dr_cX14_next_110 : decode cX14_next 110 = .ok (.aload_n 0, 1) := by decide +kernel
theorem dr_cX14_next_111 : decode cX14_next 111 = .ok (.aload_n 0, 1) := by decide +kernel
theorem dr_cX14_next_112 : decode cX14_next 112 = .ok (.getfield 44, 3) := by decide +kernel
theorem dr_cX14_next_115 : decode cX14_next 115 = .ok (.putfield 47, 3) := by decide +kernel
theorem wr_9_40 : (Jvm.Cond.fieldLink "SpillForgeModel$Reader" (47 : Nat) "SpillForgeModel$Reader" "place" "I") ∈ gw := gw_9 40 rfl rfl
theorem dr_cX14_next_118 : decode cX14_next 118 = .ok (.aload_n 0, 1) := by decide +kernel
theorem dr_cX14_next_119 : decode cX14_next 119 = .ok (.ldc 9, 2) := by decide +kernel
theorem dr_cX14_next_121 : decode cX14_next 121 = .ok (.putfield 11, 3) := by decide +kernel
theorem dr_cX14_next_124 : decode cX14_next 124 = .ok (.aload_n 0, 1) := by decide +kernel
theorem dr_cX14_next_125 : decode cX14_next 125 = .ok (.getfield 44, 3) := by decide +kernel
theorem dr_cX14_next_128 : decode cX14_next 128 = .ok (.aload_n 0, 1) := by decide +kernel
theorem dr_cX14_next_129 : decode cX14_next 129 = .ok (.getfield 32, 3) := by decide +kernel
theorem dr_cX14_next_132 : decode cX14_next 132 = .ok (.if_icmp .ne 9, 3) := by decide +kernel
theorem dr_cX14_next_141 : decode cX14_next 141 = .ok (.aload_n 0, 1) := by decide +kernel
theorem dr_cX14_next_142 : decode cX14_next 142 = .ok (.getfield 28, 3) := by decide +kernel
theorem dr_cX14_next_145 : decode cX14_next 145 = .ok (.aload_n 0, 1) := by decide +kernel
theorem dr_cX14_next_146 : decode cX14_next 146 = .ok (.getfield 44, 3) := by decide +kernel
theorem dr_cX14_next_149 : decode cX14_next 149 = .ok (.baload, 1) := by decide +kernel
theorem dr_cX14_next_150 : decode cX14_next 150 = .ok (.istore_n 1, 1) := by decide +kernel
theorem dr_cX14_next_209 : decode cX14_next 209 = .ok (.iload_n 1, 1) := by decide +kernel
theorem dr_cX14_next_210 : decode cX14_next 210 = .ok (.invokestatic 54, 3) := by decide +kernel
theorem dr_cX14_next_213 : decode cX14_next 213 = .ok (.ifCond .eq 10, 3) := by decide +kernel
theorem dr_cX14_next_223 : decode cX14_next 223 = .ok (.iload_n 1, 1) := by decide +kernel
theorem dr_cX14_next_224 : decode cX14_next 224 = .ok (.invokestatic 50, 3) := by decide +kernel
theorem dr_cX14_next_227 : decode cX14_next 227 = .ok (.ifCond .ne 7, 3) := by decide +kernel
theorem dr_cX14_next_234 : decode cX14_next 234 = .ok (.aload_n 0, 1) := by decide +kernel
theorem dr_cX14_next_235 : decode cX14_next 235 = .ok (.iload_n 2, 1) := by decide +kernel
theorem dr_cX14_next_236 : decode cX14_next 236 = .ok (.invokevirtual 60, 3) := by decide +kernel
theorem wr_8_218 : (Jvm.Cond.methodLink "SpillForgeModel$Reader" (60 : Nat) ({ cls := "SpillForgeModel$Reader", name := "number", desc := "(Z)V" } : Jvm.MethodName)) ∈ gw := gw_8 218 rfl rfl
theorem wr_8_221 : (Jvm.Cond.code ({ cls := "SpillForgeModel$Reader", name := "number", desc := "(Z)V" } : Jvm.MethodName) prog_17_method_6_code (4 : Nat) (Option.none : Option Jvm.ClassFile.FieldType)) ∈ gw := gw_8 221 rfl rfl
theorem wr_8_220 : (Jvm.Cond.instanceMethod ({ cls := "SpillForgeModel$Reader", name := "number", desc := "(Z)V" } : Jvm.MethodName)) ∈ gw := gw_8 220 rfl rfl
theorem wr_p_77 : Cond.selects "SpillForgeModel$Reader" ⟨"SpillForgeModel$Reader", "number", "(Z)V"⟩ ⟨"SpillForgeModel$Reader", "number", "(Z)V"⟩ ∈ gw := gw_p _ 77 rfl rfl rfl
theorem dr_cX14_next_239 : decode cX14_next 239 = .ok (.goto 8, 3) := by decide +kernel
theorem dr_cX14_next_247 : decode cX14_next 247 = .ok (.return_, 1) := by decide +kernel
theorem dr_cX14_next_230 : decode cX14_next 230 = .ok (.iload_n 2, 1) := by decide +kernel
theorem dr_cX14_next_231 : decode cX14_next 231 = .ok (.ifCond .eq 11, 3) := by decide +kernel
theorem dr_cX14_next_242 : decode cX14_next 242 = .ok (.aload_n 0, 1) := by decide +kernel
theorem dr_cX14_next_243 : decode cX14_next 243 = .ok (.iload_n 1, 1) := by decide +kernel
theorem dr_cX14_next_244 : decode cX14_next 244 = .ok (.invokevirtual 64, 3) := by decide +kernel
theorem wr_8_223 : (Jvm.Cond.methodLink "SpillForgeModel$Reader" (64 : Nat) ({ cls := "SpillForgeModel$Reader", name := "symbol", desc := "(I)V" } : Jvm.MethodName)) ∈ gw := gw_8 223 rfl rfl
theorem wr_8_226 : (Jvm.Cond.code ({ cls := "SpillForgeModel$Reader", name := "symbol", desc := "(I)V" } : Jvm.MethodName) prog_17_method_7_code (4 : Nat) (Option.none : Option Jvm.ClassFile.FieldType)) ∈ gw := gw_8 226 rfl rfl
theorem wr_8_225 : (Jvm.Cond.instanceMethod ({ cls := "SpillForgeModel$Reader", name := "symbol", desc := "(I)V" } : Jvm.MethodName)) ∈ gw := gw_8 225 rfl rfl
theorem wr_p_78 : Cond.selects "SpillForgeModel$Reader" ⟨"SpillForgeModel$Reader", "symbol", "(I)V"⟩ ⟨"SpillForgeModel$Reader", "symbol", "(I)V"⟩ ∈ gw := gw_p _ 78 rfl rfl rfl
theorem dr_cX14_next_216 : decode cX14_next 216 = .ok (.aload_n 0, 1) := by decide +kernel
theorem dr_cX14_next_217 : decode cX14_next 217 = .ok (.invokevirtual 57, 3) := by decide +kernel
theorem wr_7_225 : (Jvm.Cond.methodLink "SpillForgeModel$Reader" (57 : Nat) ({ cls := "SpillForgeModel$Reader", name := "word", desc := "()V" } : Jvm.MethodName)) ∈ gw := gw_7 225 rfl rfl
theorem wr_7_228 : (Jvm.Cond.code ({ cls := "SpillForgeModel$Reader", name := "word", desc := "()V" } : Jvm.MethodName) prog_17_method_5_code (4 : Nat) (Option.none : Option Jvm.ClassFile.FieldType)) ∈ gw := gw_7 228 rfl rfl
theorem wr_7_227 : (Jvm.Cond.instanceMethod ({ cls := "SpillForgeModel$Reader", name := "word", desc := "()V" } : Jvm.MethodName)) ∈ gw := gw_7 227 rfl rfl
theorem wr_p_76 : Cond.selects "SpillForgeModel$Reader" ⟨"SpillForgeModel$Reader", "word", "()V"⟩ ⟨"SpillForgeModel$Reader", "word", "()V"⟩ ∈ gw := gw_p _ 76 rfl rfl rfl
theorem dr_cX14_next_220 : decode cX14_next 220 = .ok (.goto 27, 3) := by decide +kernel
theorem dr_cX14_next_151 : decode cX14_next 151 = .ok (.iload_n 1, 1) := by decide +kernel
theorem dr_cX14_next_152 : decode cX14_next 152 = .ok (.bipush 45, 2) := by decide +kernel
theorem dr_cX14_next_154 : decode cX14_next 154 = .ok (.if_icmp .ne 53, 3) := by decide +kernel
theorem dr_cX14_next_207 : decode cX14_next 207 = .ok (.iconst 0, 1) := by decide +kernel
theorem dr_cX14_next_208 : decode cX14_next 208 = .ok (.istore_n 2, 1) := by decide +kernel
theorem dr_cX14_next_157 : decode cX14_next 157 = .ok (.aload_n 0, 1) := by decide +kernel
theorem dr_cX14_next_158 : decode cX14_next 158 = .ok (.getfield 44, 3) := by decide +kernel
theorem dr_cX14_next_161 : decode cX14_next 161 = .ok (.iconst 1, 1) := by decide +kernel
theorem dr_cX14_next_162 : decode cX14_next 162 = .ok (.iadd, 1) := by decide +kernel
theorem dr_cX14_next_163 : decode cX14_next 163 = .ok (.aload_n 0, 1) := by decide +kernel
theorem dr_cX14_next_164 : decode cX14_next 164 = .ok (.getfield 32, 3) := by decide +kernel
theorem dr_cX14_next_167 : decode cX14_next 167 = .ok (.if_icmp .ge 40, 3) := by decide +kernel
theorem dr_cX14_next_170 : decode cX14_next 170 = .ok (.aload_n 0, 1) := by decide +kernel
theorem dr_cX14_next_171 : decode cX14_next 171 = .ok (.getfield 28, 3) := by decide +kernel
theorem dr_cX14_next_174 : decode cX14_next 174 = .ok (.aload_n 0, 1) := by decide +kernel
theorem dr_cX14_next_175 : decode cX14_next 175 = .ok (.getfield 44, 3) := by decide +kernel
theorem dr_cX14_next_178 : decode cX14_next 178 = .ok (.iconst 1, 1) := by decide +kernel
theorem dr_cX14_next_179 : decode cX14_next 179 = .ok (.iadd, 1) := by decide +kernel
theorem dr_cX14_next_180 : decode cX14_next 180 = .ok (.baload, 1) := by decide +kernel
theorem dr_cX14_next_181 : decode cX14_next 181 = .ok (.invokestatic 50, 3) := by decide +kernel
theorem dr_cX14_next_184 : decode cX14_next 184 = .ok (.ifCond .eq 23, 3) := by decide +kernel
theorem dr_cX14_next_187 : decode cX14_next 187 = .ok (.aload_n 0, 1) := by decide +kernel
theorem dr_cX14_next_188 : decode cX14_next 188 = .ok (.getfield 41, 3) := by decide +kernel
theorem dr_cX14_next_191 : decode cX14_next 191 = .ok (.iconst 2, 1) := by decide +kernel
theorem dr_cX14_next_192 : decode cX14_next 192 = .ok (.if_icmp .eq 15, 3) := by decide +kernel
theorem dr_cX14_next_195 : decode cX14_next 195 = .ok (.aload_n 0, 1) := by decide +kernel
theorem dr_cX14_next_196 : decode cX14_next 196 = .ok (.getfield 41, 3) := by decide +kernel
theorem dr_cX14_next_199 : decode cX14_next 199 = .ok (.iconst 4, 1) := by decide +kernel
theorem dr_cX14_next_200 : decode cX14_next 200 = .ok (.if_icmp .eq 7, 3) := by decide +kernel
theorem dr_cX14_next_203 : decode cX14_next 203 = .ok (.iconst 1, 1) := by decide +kernel
theorem dr_cX14_next_204 : decode cX14_next 204 = .ok (.goto 4, 3) := by decide +kernel
theorem dr_cX14_next_135 : decode cX14_next 135 = .ok (.aload_n 0, 1) := by decide +kernel
theorem dr_cX14_next_136 : decode cX14_next 136 = .ok (.iconst 0, 1) := by decide +kernel
theorem dr_cX14_next_137 : decode cX14_next 137 = .ok (.putfield 38, 3) := by decide +kernel
theorem dr_cX14_next_140 : decode cX14_next 140 = .ok (.return_, 1) := by decide +kernel
theorem dr_cX14_next_19 : decode cX14_next 19 = .ok (.aload_n 0, 1) := by decide +kernel
theorem dr_cX14_next_20 : decode cX14_next 20 = .ok (.getfield 28, 3) := by decide +kernel
theorem dr_cX14_next_23 : decode cX14_next 23 = .ok (.aload_n 0, 1) := by decide +kernel
theorem dr_cX14_next_24 : decode cX14_next 24 = .ok (.getfield 44, 3) := by decide +kernel
theorem dr_cX14_next_27 : decode cX14_next 27 = .ok (.baload, 1) := by decide +kernel
theorem dr_cX14_next_28 : decode cX14_next 28 = .ok (.istore_n 1, 1) := by decide +kernel
theorem dr_cX14_next_29 : decode cX14_next 29 = .ok (.iload_n 1, 1) := by decide +kernel
theorem dr_cX14_next_30 : decode cX14_next 30 = .ok (.bipush 59, 2) := by decide +kernel
theorem dr_cX14_next_32 : decode cX14_next 32 = .ok (.if_icmp .ne 41, 3) := by decide +kernel
theorem dr_cX14_next_73 : decode cX14_next 73 = .ok (.iload_n 1, 1) := by decide +kernel
theorem dr_cX14_next_74 : decode cX14_next 74 = .ok (.bipush 9, 2) := by decide +kernel
theorem dr_cX14_next_76 : decode cX14_next 76 = .ok (.if_icmp .eq 21, 3) := by decide +kernel
theorem dr_cX14_next_97 : decode cX14_next 97 = .ok (.aload_n 0, 1) := by decide +kernel
theorem dr_cX14_next_98 : decode cX14_next 98 = .ok (.dup, 1) := by decide +kernel
theorem dr_cX14_next_99 : decode cX14_next 99 = .ok (.getfield 44, 3) := by decide +kernel
theorem dr_cX14_next_102 : decode cX14_next 102 = .ok (.iconst 1, 1) := by decide +kernel
theorem dr_cX14_next_103 : decode cX14_next 103 = .ok (.iadd, 1) := by decide +kernel
theorem dr_cX14_next_104 : decode cX14_next 104 = .ok (.putfield 44, 3) := by decide +kernel
theorem dr_cX14_next_107 : decode cX14_next 107 = .ok (.goto (-99), 3) := by decide +kernel
theorem dr_cX14_next_79 : decode cX14_next 79 = .ok (.iload_n 1, 1) := by decide +kernel
theorem dr_cX14_next_80 : decode cX14_next 80 = .ok (.bipush 10, 2) := by decide +kernel
theorem dr_cX14_next_82 : decode cX14_next 82 = .ok (.if_icmp .eq 15, 3) := by decide +kernel
theorem dr_cX14_next_85 : decode cX14_next 85 = .ok (.iload_n 1, 1) := by decide +kernel
theorem dr_cX14_next_86 : decode cX14_next 86 = .ok (.bipush 13, 2) := by decide +kernel
theorem dr_cX14_next_88 : decode cX14_next 88 = .ok (.if_icmp .eq 9, 3) := by decide +kernel
theorem dr_cX14_next_91 : decode cX14_next 91 = .ok (.iload_n 1, 1) := by decide +kernel
theorem dr_cX14_next_92 : decode cX14_next 92 = .ok (.bipush 32, 2) := by decide +kernel
theorem dr_cX14_next_94 : decode cX14_next 94 = .ok (.if_icmp .ne 16, 3) := by decide +kernel
theorem dr_cX14_next_35 : decode cX14_next 35 = .ok (.aload_n 0, 1) := by decide +kernel
theorem dr_cX14_next_36 : decode cX14_next 36 = .ok (.getfield 44, 3) := by decide +kernel
theorem dr_cX14_next_39 : decode cX14_next 39 = .ok (.aload_n 0, 1) := by decide +kernel
theorem dr_cX14_next_40 : decode cX14_next 40 = .ok (.getfield 32, 3) := by decide +kernel
theorem dr_cX14_next_43 : decode cX14_next 43 = .ok (.if_icmp .ge 64, 3) := by decide +kernel
theorem dr_cX14_next_46 : decode cX14_next 46 = .ok (.aload_n 0, 1) := by decide +kernel
theorem dr_cX14_next_47 : decode cX14_next 47 = .ok (.getfield 28, 3) := by decide +kernel
theorem dr_cX14_next_50 : decode cX14_next 50 = .ok (.aload_n 0, 1) := by decide +kernel
theorem dr_cX14_next_51 : decode cX14_next 51 = .ok (.getfield 44, 3) := by decide +kernel
theorem dr_cX14_next_54 : decode cX14_next 54 = .ok (.baload, 1) := by decide +kernel
theorem dr_cX14_next_55 : decode cX14_next 55 = .ok (.bipush 10, 2) := by decide +kernel
theorem dr_cX14_next_57 : decode cX14_next 57 = .ok (.if_icmp .eq 50, 3) := by decide +kernel
theorem dr_cX14_next_60 : decode cX14_next 60 = .ok (.aload_n 0, 1) := by decide +kernel
theorem dr_cX14_next_61 : decode cX14_next 61 = .ok (.dup, 1) := by decide +kernel
theorem dr_cX14_next_62 : decode cX14_next 62 = .ok (.getfield 44, 3) := by decide +kernel
theorem dr_cX14_next_65 : decode cX14_next 65 = .ok (.iconst 1, 1) := by decide +kernel
theorem dr_cX14_next_66 : decode cX14_next 66 = .ok (.iadd, 1) := by decide +kernel
theorem dr_cX14_next_67 : decode cX14_next 67 = .ok (.putfield 44, 3) := by decide +kernel
theorem dr_cX14_next_70 : decode cX14_next 70 = .ok (.goto (-35), 3) := by decide +kernel
abbrev ky_672530_Reader_next : gKey := (cX14_next, 3, "SpillForgeModel$Reader", none, [], "next", fun _ _ => True)
def pp_672530_Reader_next (D : va_G) (I : FieldType → ClassId) (P672509 : List Nat) (F672510 : Nat → va_E) (q672511 : Nat) (q672512 : Nat) (p672513 : Int32) (p672514 : Int32) (p672515 : Int32) (p672516 : Int32) (p672517 : Int32) (p672518 : Int32) (qo672519 : Nat) (p672520 : Int32) (p672521 : Int32) (p672522 : Int32) (qo672523 : Nat) (qo672524 : Nat) (p672525 : Int32) (f672526 : Nat → Int32) : Option Value → va_W → Nat → Nat → Prop := fun r w dc ds => ∃ (P674249 : List Nat) (F674250 : Nat → va_E) (o674244 : Int32) (o674245 : Int32) (o674246 : Int32) (o674247 : Int32) (q674248 : Nat) (xt674251 : gTx), r = none ∧ w = va_pl P674249 F674250 ∧ rSub P672509 P674249 ∧ rFr [q672511] P672509 F672510 F674250 ∧ F674250 q672511 = .inr (19, [.ref q672512, .int p672513, .int o674244, .int o674245, .int o674246, .int o674247, .int p672515, .ref q674248, .int p672520, .int p672521, .int p672522, .ref qo672523, .ref qo672524, .int p672525]) ∧ F674250 q672512 = .inl (I .byte, 8192, .inl f672526) ∧ dc ≤ (16 * (o674244.toInt - p672514.toInt)).toNat ∧ ds ≤ (160 * (o674244.toInt - p672514.toInt)).toNat ∧ gB o674244 0 8192 ∧ gB o674245 0 6 ∧ gB o674246 0 8192 ∧ p672514.toInt ≤ o674244.toInt ∧ prP o674245 p672514 o674244 ∧ o674244.toInt ≤ p672513.toInt ∧ tP I P674249 F674250 o674245 q674248 qo672524 qo672523 xt674251 ∧ vP o674245 o674247 ∧ tr_RReader_next p672513 p672514 p672515 p672517 f672526 o674244 o674245 o674246 o674247 xt674251
set_option maxRecDepth 100000 in
set_option maxHeartbeats 4000000 in
theorem cp_672530_Reader_next (l : Launch) (hl0 : l.stackTraces = false) (D : va_G) (I : FieldType → ClassId) (P672509 : List Nat) (F672510 : Nat → va_E) (q672511 : Nat) (q672512 : Nat) (p672513 : Int32) (p672514 : Int32) (p672515 : Int32) (p672516 : Int32) (p672517 : Int32) (p672518 : Int32) (qo672519 : Nat) (p672520 : Int32) (p672521 : Int32) (p672522 : Int32) (qo672523 : Nat) (qo672524 : Nat) (p672525 : Int32) (f672526 : Nat → Int32) (hmq672511 : q672511 ∈ P672509) (hmq672512 : q672512 ∈ P672509) (heq672511 : F672510 q672511 = .inr (19, [.ref q672512, .int p672513, .int p672514, .int p672515, .int p672516, .int p672517, .int p672518, .ref qo672519, .int p672520, .int p672521, .int p672522, .ref qo672523, .ref qo672524, .int p672525])) (heq672512 : F672510 q672512 = .inl (I .byte, 8192, .inl f672526)) (bp672513 : gB p672513 0 8192) (bp672514 : gB p672514 0 8192) (bp672515 : gB p672515 0 6) (bp672516 : gB p672516 0 8192) (bp672518 : gB p672518 0 6) (bp672520 : gB p672520 (-1) 8192) (bp672521 : gB p672521 0 4) (bp672522 : gB p672522 0 1000000) (bp672525 : gB p672525 0 1000000) (bf672526 : gF f672526 (-128) 127) (x672527 : p672514.toInt ≤ p672513.toInt) (x672528 : qo672524 ∈ P672509) (x672529 : qo672523 ∈ P672509) : CtA (gV D I) l yX14_next cX14_next 3 none 7 155 ((16 * (p672513.toInt - p672514.toInt)).toNat) ((160 * (p672513.toInt - p672514.toInt)).toNat) [.ref q672511] (va_pl P672509 F672510) (pp_672530_Reader_next D I P672509 F672510 q672511 q672512 p672513 p672514 p672515 p672516 p672517 p672518 qo672519 p672520 p672521 p672522 qo672523 qo672524 p672525 f672526) gNA := by
  refine CtA_of hl0 (by decide) (Nat.le_of_ble_eq_true rfl) ?_
  have bp672517 := gB_any p672517
  refine G_aload_n 0 dr_cX14_next_0 rfl ?_
  refine G_aload_n 0 dr_cX14_next_1 rfl ?_
  refine Gp_get 3 hmq672511 heq672511 dr_cX14_next_2 (gk_X14 D I) (Nat.le_of_ble_eq_true rfl) wr_9_39 rfl ?_
  refine Gp_put 6 hmq672511 heq672511 dr_cX14_next_5 (gk_X14 D I) (Nat.le_of_ble_eq_true rfl) wr_9_42 rfl rfl rfl (Nat.le_of_ble_eq_true rfl) (fun F672531 e672532 n672533 => ?_)
  have he672534 : F672531 q672512 = .inl (I .byte, 8192, .inl f672526) := (n672533 q672512 (rn_ao heq672512 heq672511)).trans heq672512
  have he672535 : F672531 q672511 = .inr (19, [.ref q672512, .int p672513, .int p672514, .int p672515, .int p672516, .int p672517, .int p672515, .ref qo672519, .int p672520, .int p672521, .int p672522, .ref qo672523, .ref qo672524, .int p672525]) := e672532
  have hfr672536 : rFr [q672511] P672509 F672510 F672531 := rFr_put (rFr_rf (W := []) (P := P672509) (F := F672510)) n672533
  have hlp8_673670 : ∀ (n8_673670 : Nat) (F673665 : Nat → va_E) (g673664 : Int32), gB g673664 0 8192 → rFr [q672511] P672509 F672510 F673665 → F673665 q672511 = .inr (19, [.ref q672512, .int p672513, .int g673664, .int p672515, .int p672516, .int p672517, .int p672515, .ref qo672519, .int p672520, .int p672521, .int p672522, .ref qo672523, .ref qo672524, .int p672525]) → F673665 q672512 = .inl (I .byte, 8192, .inl f672526) → p672514.toInt ≤ g673664.toInt → g673664.toInt ≤ p672513.toInt → (∀ (k : Nat) (e1 : Int32), tl_RReader_next_8 p672513 f672526 g673664 k e1 → tl_RReader_next_8 p672513 f672526 p672514 k e1) → ((p672513.toInt : Int) + 1 - g673664.toInt).toNat < n8_673670 → G (gV D I) l (gRm 7 155 ((16 * (p672513.toInt - p672514.toInt)).toNat) ((160 * (p672513.toInt - p672514.toInt)).toNat)) (gMA (gV D I) (pp_672530_Reader_next D I P672509 F672510 q672511 q672512 p672513 p672514 p672515 p672516 p672517 p672518 qo672519 p672520 p672521 p672522 qo672523 qo672524 p672525 f672526) gNA ((16 * (p672513.toInt - p672514.toInt)).toNat) ((160 * (p672513.toInt - p672514.toInt)).toNat)) ky_672530_Reader_next 8 [(0, .ref q672511)] [] (va_pl P672509 F673665) 0 0 := by
    intro n8_673670
    induction n8_673670 with
    | zero => intro F673665 g673664 bg673664 hfr673668 he673666 he673667 x673669 x673670 kt8_673670 hm8_673670; exact absurd hm8_673670 (Nat.not_lt_zero _)
    | succ n8_673670 ih8_673670 =>
      intro F673665 g673664 bg673664 hfr673668 he673666 he673667 x673669 x673670 kt8_673670 hm8_673670
      refine G_aload_n 0 dr_cX14_next_8 rfl ?_
      refine Gp_get 2 hmq672511 he673666 dr_cX14_next_9 (gk_X14 D I) (Nat.le_of_ble_eq_true rfl) wr_9_38 rfl ?_
      refine G_aload_n 0 dr_cX14_next_12 rfl ?_
      refine Gp_get 1 hmq672511 he673666 dr_cX14_next_13 (gk_X14 D I) (Nat.le_of_ble_eq_true rfl) wr_9_37 rfl ?_
      refine G_icmp_ge 110 dr_cX14_next_16 (by decide +kernel) (fun hc673671 => ?_) (fun hc673671 => ?_)
      · have r673672 : p672513.toInt ≤ g673664.toInt := gC_le hc673671
        have hx673673 : tl_RReader_next_8 p672513 f672526 p672514 110 g673664 := kt8_673670 110 g673664 (fun R c1 c2 c3 c4 c5 c6 c7 => c1 g673664 bg673664 r673672)
        clear he672534 he672535 hfr672536
        refine G_aload_n 0 dr_cX14_next_110 rfl ?_
        refine G_aload_n 0 dr_cX14_next_111 rfl ?_
        refine Gp_get 2 hmq672511 he673666 dr_cX14_next_112 (gk_X14 D I) (Nat.le_of_ble_eq_true rfl) wr_9_38 rfl ?_
        refine Gp_put 4 hmq672511 he673666 dr_cX14_next_115 (gk_X14 D I) (Nat.le_of_ble_eq_true rfl) wr_9_40 rfl rfl rfl (Nat.le_of_ble_eq_true rfl) (fun F673674 e673675 n673676 => ?_)
        have he673677 : F673674 q672512 = .inl (I .byte, 8192, .inl f672526) := (n673676 q672512 (rn_ao he673667 he673666)).trans he673667
        have he673678 : F673674 q672511 = .inr (19, [.ref q672512, .int p672513, .int g673664, .int p672515, .int g673664, .int p672517, .int p672515, .ref qo672519, .int p672520, .int p672521, .int p672522, .ref qo672523, .ref qo672524, .int p672525]) := e673675
        have hfr673679 : rFr [q672511] P672509 F672510 F673674 := rFr_put' List.mem_cons_self hfr673668 n673676
        refine G_aload_n 0 dr_cX14_next_118 rfl ?_
        refine G_ldcK (a := D.2 1000 32) dr_cX14_next_119 (fun _ _ _ h => gx_vk 32 rfl rfl h) ?_
        have hl32_673679 : (sb_32.length : Int) = 0 := rfl
        refine Gp_put 7 hmq672511 he673678 dr_cX14_next_121 (gk_X14 D I) (Nat.le_of_ble_eq_true rfl) wr_9_43 rfl rfl rfl (Nat.le_of_ble_eq_true rfl) (fun F673681 e673682 n673683 => ?_)
        have he673684 : F673681 q672512 = .inl (I .byte, 8192, .inl f672526) := (n673683 q672512 (rn_ao he673677 he673678)).trans he673677
        have he673685 : F673681 q672511 = .inr (19, [.ref q672512, .int p672513, .int g673664, .int p672515, .int g673664, .int p672517, .int p672515, .ref (D.2 1000 32), .int p672520, .int p672521, .int p672522, .ref qo672523, .ref qo672524, .int p672525]) := e673682
        have hfr673686 : rFr [q672511] P672509 F672510 F673681 := rFr_put' List.mem_cons_self hfr673679 n673683
        clear he673677 he673678 hfr673679
        refine G_aload_n 0 dr_cX14_next_124 rfl ?_
        refine Gp_get 2 hmq672511 he673685 dr_cX14_next_125 (gk_X14 D I) (Nat.le_of_ble_eq_true rfl) wr_9_38 rfl ?_
        refine G_aload_n 0 dr_cX14_next_128 rfl ?_
        refine Gp_get 1 hmq672511 he673685 dr_cX14_next_129 (gk_X14 D I) (Nat.le_of_ble_eq_true rfl) wr_9_37 rfl ?_
        refine G_icmp_ne 141 dr_cX14_next_132 (by decide +kernel) (fun hc673687 => ?_) (fun hc673687 => ?_)
        · have r673688 : g673664.toInt ≠ p672513.toInt := gC_ne hc673687
          refine G_aload_n 0 dr_cX14_next_141 rfl ?_
          refine Gp_get 0 hmq672511 he673685 dr_cX14_next_142 (gk_X14 D I) (Nat.le_of_ble_eq_true rfl) wr_9_36 rfl ?_
          refine G_aload_n 0 dr_cX14_next_145 rfl ?_
          refine Gp_get 2 hmq672511 he673685 dr_cX14_next_146 (gk_X14 D I) (Nat.le_of_ble_eq_true rfl) wr_9_38 rfl ?_
          refine Gp_bald 1 hmq672512 he673684 dr_cX14_next_149 rfl (gB_inr (by omega) (by omega)) (G_nam fun z673689 hz673689 => ?_)
          have bz673689 : gB z673689 (-128) 127 := by rw [hz673689]; exact bf672526 _
          refine G_istore_n (L' := [(1, .int z673689), (0, .ref q672511)]) dr_cX14_next_150 (Nat.le_of_ble_eq_true rfl) rfl ?_
          have jn673690 : ((z673689.toInt ≠ 45) ∨ (∃ (y1 : Int32), z673689.toInt = 45 ∧ y1.toInt = g673664.toInt + 1 ∧ p672513.toInt ≤ y1.toInt) ∨ (∃ (y1 : Int32) (y2 : Int32) (y3 : Int32), z673689.toInt = 45 ∧ y1.toInt = g673664.toInt + 1 ∧ y1.toInt < p672513.toInt ∧ y2 = f672526 y1.toNatClampNeg ∧ gB y2 (-128) 127 ∧ gB y3 0 1 ∧ tr_RReader_isDigit2 y2 y3 ∧ y3.toInt = 0) ∨ (∃ (y1 : Int32) (y2 : Int32) (y3 : Int32), z673689.toInt = 45 ∧ y1.toInt = g673664.toInt + 1 ∧ y1.toInt < p672513.toInt ∧ y2 = f672526 y1.toNatClampNeg ∧ gB y2 (-128) 127 ∧ gB y3 0 1 ∧ tr_RReader_isDigit2 y2 y3 ∧ y3.toInt ≠ 0 ∧ p672515.toInt = 2) ∨ (∃ (y1 : Int32) (y2 : Int32) (y3 : Int32), z673689.toInt = 45 ∧ y1.toInt = g673664.toInt + 1 ∧ y1.toInt < p672513.toInt ∧ y2 = f672526 y1.toNatClampNeg ∧ gB y2 (-128) 127 ∧ gB y3 0 1 ∧ tr_RReader_isDigit2 y2 y3 ∧ y3.toInt ≠ 0 ∧ p672515.toInt ≠ 2 ∧ p672515.toInt = 4)) → G (gV D I) l (gRm 7 155 ((16 * (p672513.toInt - p672514.toInt)).toNat) ((160 * (p672513.toInt - p672514.toInt)).toNat)) (gMA (gV D I) (pp_672530_Reader_next D I P672509 F672510 q672511 q672512 p672513 p672514 p672515 p672516 p672517 p672518 qo672519 p672520 p672521 p672522 qo672523 qo672524 p672525 f672526) gNA ((16 * (p672513.toInt - p672514.toInt)).toNat) ((160 * (p672513.toInt - p672514.toInt)).toNat)) ky_672530_Reader_next 209 [(2, .int 0), (1, .int z673689), (0, .ref q672511)] [] (va_pl P672509 F673681) 0 0 := by
            intro hJ673691
            refine G_iload_n 1 dr_cX14_next_209 rfl ?_
            refine Gw_callS (As := [.int z673689]) (gV_ok D I) (cp_670225_Reader_isLetter l hl0 D I P672509 F673681 z673689 ) dr_cX14_next_210 ⟨wr_7_222, wr_1_32, wr_7_224, by decide, rfl, (Nat.le_of_ble_eq_true rfl), (Nat.le_of_ble_eq_true rfl)⟩ wr_7_223 (show 0 + 0 ≤ ((16 * (p672513.toInt - p672514.toInt)).toNat) by first | omega | decide) (show 0 + 0 ≤ ((160 * (p672513.toInt - p672514.toInt)).toNat) by first | omega | decide) (Nat.le_of_ble_eq_true rfl) (fun r673695 w673696 dc673692 ds673693 hp673694 => ?_) (fun _ _ _ _ _ z => z.elim)
            obtain ⟨o673697, rfl, rfl, hdc, hds, bo673697, x673698, ht673699⟩ := hp673694
            change G _ _ _ _ _ _ _ (.int o673697 :: _) _ _ _
            refine G_widen (cs' := 0) (sl' := 0) (by omega) (by omega) ?_
            refine G_if_eq 223 dr_cX14_next_213 (by decide +kernel) (fun hc673700 => ?_) (fun hc673700 => ?_)
            · have r673701 : o673697.toInt = 0 := gj_eq hc673700 (show Int32.toInt 0 = 0 by decide)
              have bo673697' : gB o673697 0 0 := ⟨by omega, by omega⟩
              clear bo673697'; try clear r673695; try clear w673696; try clear dc673692; try clear ds673693; try clear hp673694; try clear x673698
              refine G_iload_n 1 dr_cX14_next_223 rfl ?_
              refine Gw_callS (As := [.int z673689]) (gV_ok D I) (cp_668275_Reader_isDigit l hl0 D I P672509 F673681 z673689 ) dr_cX14_next_224 ⟨wr_7_219, wr_1_32, wr_7_221, by decide, rfl, (Nat.le_of_ble_eq_true rfl), (Nat.le_of_ble_eq_true rfl)⟩ wr_7_220 (show 0 + 0 ≤ ((16 * (p672513.toInt - p672514.toInt)).toNat) by first | omega | decide) (show 0 + 0 ≤ ((160 * (p672513.toInt - p672514.toInt)).toNat) by first | omega | decide) (Nat.le_of_ble_eq_true rfl) (fun r673705 w673706 dc673702 ds673703 hp673704 => ?_) (fun _ _ _ _ _ z => z.elim)
              obtain ⟨o673707, rfl, rfl, hdc, hds, bo673707, x673708, ht673709⟩ := hp673704
              change G _ _ _ _ _ _ _ (.int o673707 :: _) _ _ _
              refine G_widen (cs' := 0) (sl' := 0) (by omega) (by omega) ?_
              refine G_if_ne 234 dr_cX14_next_227 (by decide +kernel) (fun hc673710 => ?_) (fun hc673710 => ?_)
              · have r673711 : o673707.toInt ≠ 0 := gj_neq hc673710 (show Int32.toInt 0 = 0 by decide)
                have bo673707' : gB o673707 1 1 := ⟨by omega, by omega⟩
                have bi673712 : gB z673689 48 57 := isP_1 x673708 (by omega)
                refine G_aload_n 2 dr_cX14_next_234 rfl ?_
                refine G_iload_n 0 dr_cX14_next_235 rfl ?_
                refine Gw_callV (As := [.int 0]) (gV_ok D I) (cp_668239_Reader_number l hl0 D I P672509 F673681 q672511 q672512 0 p672513 g673664 p672515 g673664 p672517 p672515 (D.2 1000 32) p672520 p672521 p672522 qo672523 qo672524 p672525 f672526 hmq672511 hmq672512 he673685 he673684 (gB_w (gBl (show Int32.toInt 0 = 0 by decide)) (by decide) (by decide)) bp672513 bg673664 bp672515 bg673664 bp672515 bp672520 bp672521 bp672522 bp672525 bf672526 (by have qa0 : Int32.toInt 0 = 0 := (by decide); omega) (by have qa0 : Int32.toInt 0 = 0 := (by decide); omega) (by first | assumption | exact cDg_no (by omega) | exact cDg_no (by decide) | exact cDg_of (by assumption) (by omega) (by omega)) x672528 x672529) dr_cX14_next_236 ⟨wr_8_218, wr_1_32, wr_8_221, by decide, rfl, (Nat.le_of_ble_eq_true rfl), (Nat.le_of_ble_eq_true rfl)⟩ wr_8_220 wr_p_77 hmq672511 he673685 rfl (show 0 + ((16 * (p672513.toInt - g673664.toInt)).toNat) ≤ ((16 * (p672513.toInt - p672514.toInt)).toNat) by first | omega | decide) (show 0 + ((160 * (p672513.toInt - g673664.toInt)).toNat) ≤ ((160 * (p672513.toInt - p672514.toInt)).toNat) by first | omega | decide) (Nat.le_of_ble_eq_true rfl) (fun r673716 w673717 dc673713 ds673714 hp673715 => ?_) (fun _ _ _ _ _ z => z.elim)
                obtain ⟨F673727, o673718, o673719, o673720, xt673726, rfl, rfl, hfr673729, he673730, he673731, hdc, hds, bo673718, bo673719, x673721, x673722, x673723, x673724, ht673725⟩ := hp673715
                have hfr673732 : rFr [q672511] P672509 F672510 F673727 := rFr_call (rSub_rf (P := P672509)) hfr673686 hfr673729 (fun b hb hn => ⟨(nm_c (fun e => hn (e ▸ List.mem_cons_self)) nm_n), (nm_c (fun e => hn (e ▸ List.mem_cons_self)) nm_n)⟩)
                have bo673720 := gB_any o673720
                change G _ _ _ _ _ _ _ _ _ _ _
                refine G_widen (cs' := (16 * (o673718.toInt - g673664.toInt)).toNat) (sl' := (160 * (o673718.toInt - g673664.toInt)).toNat) (by omega) (by omega) ?_
                refine G_goto 247 dr_cX14_next_239 (by decide +kernel) ?_
                exact G_vretA dr_cX14_next_247 rfl (show (16 * (o673718.toInt - g673664.toInt)).toNat ≤ ((16 * (p672513.toInt - p672514.toInt)).toNat) by omega) (show (160 * (o673718.toInt - g673664.toInt)).toNat ≤ ((160 * (p672513.toInt - p672514.toInt)).toNat) by omega) ⟨P672509, F673727, o673718, o673719, g673664, o673720, (D.2 1000 32), xt673726, rfl, rfl, (rSub_rf (P := P672509)), hfr673732, he673730, he673731, (by omega), (by omega), bo673718, (gB_w bo673719 (by decide) (by decide)), bg673664, (by have qa0 : Int32.toInt 0 = 0 := (by decide); omega), (Or.inr (by omega)), (by have qa0 : Int32.toInt 0 = 0 := (by decide); omega), (by first | exact tP_no (by omega) (by omega) | assumption), x673724, (fun R c1 c2 c3 c4 c5 c6 c7 c8 c9 c10 c11 c12 c13 => c1 g673664 z673689 o673697 o673707 xt673726 o673718 o673719 o673720 hx673673 r673688 hz673689 bz673689 hJ673691 bo673697 ht673699 r673701 bo673707 ht673709 r673711 bo673718 bo673719 ht673725)⟩
              · have r673733 : o673707.toInt = 0 := gj_eq hc673710 (show Int32.toInt 0 = 0 by decide)
                have bo673707' : gB o673707 0 0 := ⟨by omega, by omega⟩
                refine G_iload_n 0 dr_cX14_next_230 rfl ?_
                refine G_if_eq 242 dr_cX14_next_231 (by decide +kernel) (fun _ => ?_) (fun hc => absurd hc (by decide))
                refine G_aload_n 2 dr_cX14_next_242 rfl ?_
                refine G_iload_n 1 dr_cX14_next_243 rfl ?_
                refine Gw_callV (As := [.int z673689]) (gV_ok D I) (cp_668862_Reader_symbol l hl0 D I P672509 F673681 q672511 q672512 z673689 p672513 g673664 p672515 g673664 p672517 p672515 (D.2 1000 32) p672520 p672521 p672522 qo672523 qo672524 p672525 f672526 hmq672511 hmq672512 he673685 he673684 bz673689 bp672513 bg673664 bp672515 bg673664 bp672515 bp672520 bp672521 bp672522 bp672525 bf672526 (by have qa0 : Int32.toInt 0 = 0 := (by decide); omega) (by have qa0 : Int32.toInt 0 = 0 := (by decide); omega) x672528 x672529) dr_cX14_next_244 ⟨wr_8_223, wr_1_32, wr_8_226, by decide, rfl, (Nat.le_of_ble_eq_true rfl), (Nat.le_of_ble_eq_true rfl)⟩ wr_8_225 wr_p_78 hmq672511 he673685 rfl (show 0 + ((16 * (p672513.toInt - g673664.toInt)).toNat) ≤ ((16 * (p672513.toInt - p672514.toInt)).toNat) by first | omega | decide) (show 0 + ((160 * (p672513.toInt - g673664.toInt)).toNat) ≤ ((160 * (p672513.toInt - p672514.toInt)).toNat) by first | omega | decide) (Nat.le_of_ble_eq_true rfl) (fun r673737 w673738 dc673734 ds673735 hp673736 => ?_) (fun _ _ _ _ _ z => z.elim)
                obtain ⟨P673748, F673749, o673739, o673740, q673741, xt673747, rfl, rfl, hsb673750, hfr673751, he673752, he673753, hdc, hds, bo673739, bo673740, x673742, x673743, x673744, x673745, ht673746⟩ := hp673736
                have hm673754 : q672511 ∈ P673748 := hsb673750 q672511 hmq672511
                have hm673755 : q672512 ∈ P673748 := hsb673750 q672512 hmq672512
                have hsb673756 : rSub P672509 P673748 := rSub_tr (rSub_rf (P := P672509)) hsb673750
                have hfr673757 : rFr [q672511] P672509 F672510 F673749 := rFr_call (rSub_rf (P := P672509)) hfr673686 hfr673751 (fun b hb hn => ⟨(nm_c (fun e => hn (e ▸ List.mem_cons_self)) nm_n), (nm_c (fun e => hn (e ▸ List.mem_cons_self)) nm_n)⟩)
                change G _ _ _ _ _ _ _ _ _ _ _
                refine G_widen (cs' := (16 * (o673739.toInt - g673664.toInt)).toNat) (sl' := (160 * (o673739.toInt - g673664.toInt)).toNat) (by omega) (by omega) ?_
                exact G_vretA dr_cX14_next_247 rfl (show (16 * (o673739.toInt - g673664.toInt)).toNat ≤ ((16 * (p672513.toInt - p672514.toInt)).toNat) by omega) (show (160 * (o673739.toInt - g673664.toInt)).toNat ≤ ((160 * (p672513.toInt - p672514.toInt)).toNat) by omega) ⟨P673748, F673749, o673739, o673740, g673664, p672517, q673741, xt673747, rfl, rfl, hsb673756, hfr673757, he673752, he673753, (by omega), (by omega), (gB_w bo673739 (by decide) (by decide)), (gB_w bo673740 (by decide) (by decide)), bg673664, (by have qa0 : Int32.toInt 0 = 0 := (by decide); omega), (Or.inr (by omega)), (by have qa0 : Int32.toInt 0 = 0 := (by decide); omega), x673744, x673745, (fun R c1 c2 c3 c4 c5 c6 c7 c8 c9 c10 c11 c12 c13 => c2 g673664 z673689 o673697 o673707 xt673747 o673739 o673740 hx673673 r673688 hz673689 bz673689 hJ673691 bo673697 ht673699 r673701 bo673707 ht673709 r673733 bo673739 bo673740 ht673746)⟩
            · have r673758 : o673697.toInt ≠ 0 := gj_neq hc673700 (show Int32.toInt 0 = 0 by decide)
              have bo673697' : gB o673697 1 1 := ⟨by omega, by omega⟩
              have bi673759 : gB z673689 97 122 := isP_1 x673698 (by omega)
              refine G_aload_n 2 dr_cX14_next_216 rfl ?_
              refine Gw_callV (As := []) (gV_ok D I) (cp_669881_Reader_word l hl0 D I P672509 F673681 q672511 q672512 p672513 g673664 p672515 g673664 p672517 p672515 (D.2 1000 32) p672520 p672521 p672522 qo672523 qo672524 p672525 f672526 hmq672511 hmq672512 he673685 he673684 bp672513 bg673664 bp672515 bg673664 bp672515 bp672520 bp672521 bp672522 bp672525 bf672526 (by have qa0 : Int32.toInt 0 = 0 := (by decide); omega) (by have qa0 : Int32.toInt 0 = 0 := (by decide); omega) (by first | assumption | exact cLt_of (by assumption) (by omega) (by omega)) x672528 x672529) dr_cX14_next_217 ⟨wr_7_225, wr_1_32, wr_7_228, by decide, rfl, (Nat.le_of_ble_eq_true rfl), (Nat.le_of_ble_eq_true rfl)⟩ wr_7_227 wr_p_76 hmq672511 he673685 rfl (show 0 + ((16 * (p672513.toInt - g673664.toInt)).toNat) ≤ ((16 * (p672513.toInt - p672514.toInt)).toNat) by first | omega | decide) (show 0 + ((160 * (p672513.toInt - g673664.toInt)).toNat) ≤ ((160 * (p672513.toInt - p672514.toInt)).toNat) by first | omega | decide) (Nat.le_of_ble_eq_true rfl) (fun r673763 w673764 dc673760 ds673761 hp673762 => ?_) (fun _ _ _ _ _ z => z.elim)
              obtain ⟨P673775, F673776, o673765, o673766, o673767, q673768, xt673774, rfl, rfl, hsb673777, hfr673778, he673779, he673780, hdc, hds, bo673765, bo673766, x673769, x673770, x673771, x673772, ht673773⟩ := hp673762
              have hm673781 : q672511 ∈ P673775 := hsb673777 q672511 hmq672511
              have hm673782 : q672512 ∈ P673775 := hsb673777 q672512 hmq672512
              have hsb673783 : rSub P672509 P673775 := rSub_tr (rSub_rf (P := P672509)) hsb673777
              have hfr673784 : rFr [q672511] P672509 F672510 F673776 := rFr_call (rSub_rf (P := P672509)) hfr673686 hfr673778 (fun b hb hn => ⟨(nm_c (fun e => hn (e ▸ List.mem_cons_self)) nm_n), (nm_c (fun e => hn (e ▸ List.mem_cons_self)) nm_n)⟩)
              have bo673767 := gB_any o673767
              change G _ _ _ _ _ _ _ _ _ _ _
              refine G_widen (cs' := (16 * (o673765.toInt - g673664.toInt)).toNat) (sl' := (160 * (o673765.toInt - g673664.toInt)).toNat) (by omega) (by omega) ?_
              refine G_goto 247 dr_cX14_next_220 (by decide +kernel) ?_
              exact G_vretA dr_cX14_next_247 rfl (show (16 * (o673765.toInt - g673664.toInt)).toNat ≤ ((16 * (p672513.toInt - p672514.toInt)).toNat) by omega) (show (160 * (o673765.toInt - g673664.toInt)).toNat ≤ ((160 * (p672513.toInt - p672514.toInt)).toNat) by omega) ⟨P673775, F673776, o673765, o673766, g673664, o673767, q673768, xt673774, rfl, rfl, hsb673783, hfr673784, he673779, he673780, (by omega), (by omega), bo673765, (gB_w bo673766 (by decide) (by decide)), bg673664, (by have qa0 : Int32.toInt 0 = 0 := (by decide); omega), (Or.inr (by omega)), (by have qa0 : Int32.toInt 0 = 0 := (by decide); omega), x673771, x673772, (fun R c1 c2 c3 c4 c5 c6 c7 c8 c9 c10 c11 c12 c13 => c3 g673664 z673689 o673697 xt673774 o673765 o673766 o673767 hx673673 r673688 hz673689 bz673689 hJ673691 bo673697 ht673699 r673758 bo673765 bo673766 ht673773)⟩
          refine G_iload_n 0 dr_cX14_next_151 rfl ?_
          refine G_bipush 45 dr_cX14_next_152 (by decide +kernel) ?_
          refine G_icmp_ne 207 dr_cX14_next_154 (by decide +kernel) (fun hc673785 => ?_) (fun hc673785 => ?_)
          · have r673786 : z673689.toInt ≠ 45 := gj_neq hc673785 (show Int32.toInt 45 = 45 by decide)
            refine G_iconst 0 dr_cX14_next_207 (by decide +kernel) ?_
            refine G_istore_n (L' := [(2, .int 0), (1, .int z673689), (0, .ref q672511)]) dr_cX14_next_208 (Nat.le_of_ble_eq_true rfl) rfl ?_
            refine G_lv (L' := [(2, .int 0), (1, .int z673689), (0, .ref q672511)]) [0, 1, 2] rfl ?_
            exact jn673690 (Or.inl r673786)
          · have r673787 : z673689.toInt = 45 := gj_eq hc673785 (show Int32.toInt 45 = 45 by decide)
            have bz673689' : gB z673689 45 45 := ⟨by omega, by omega⟩
            refine G_aload_n 1 dr_cX14_next_157 rfl ?_
            refine Gp_get 2 hmq672511 he673685 dr_cX14_next_158 (gk_X14 D I) (Nat.le_of_ble_eq_true rfl) wr_9_38 rfl ?_
            refine G_iconst 1 dr_cX14_next_161 (by decide +kernel) ?_
            refine G_iadd dr_cX14_next_162 (G_nam fun z673788 hz673788 => ?_)
            have ez673788 : z673788.toInt = g673664.toInt + 1 := by rw [gI_add hz673788 bg673664 (gBl (show Int32.toInt 1 = 1 by decide)) (by decide) (by decide), show Int32.toInt 1 = 1 from by decide]
            have bz673788 : gB z673788 1 8193 := gB_add (gI_add hz673788 bg673664 (gBl (show Int32.toInt 1 = 1 by decide)) (by decide) (by decide)) bg673664 (gBl (show Int32.toInt 1 = 1 by decide)) (by decide) (by decide)
            refine G_aload_n 1 dr_cX14_next_163 rfl ?_
            refine Gp_get 1 hmq672511 he673685 dr_cX14_next_164 (gk_X14 D I) (Nat.le_of_ble_eq_true rfl) wr_9_37 rfl ?_
            refine G_icmp_ge 207 dr_cX14_next_167 (by decide +kernel) (fun hc673789 => ?_) (fun hc673789 => ?_)
            · have r673790 : p672513.toInt ≤ z673788.toInt := gC_le hc673789
              refine G_iconst 0 dr_cX14_next_207 (by decide +kernel) ?_
              refine G_istore_n (L' := [(2, .int 0), (1, .int z673689), (0, .ref q672511)]) dr_cX14_next_208 (Nat.le_of_ble_eq_true rfl) rfl ?_
              refine G_lv (L' := [(2, .int 0), (1, .int z673689), (0, .ref q672511)]) [0, 1, 2] rfl ?_
              exact jn673690 (Or.inr (Or.inl ⟨z673788, r673787, ez673788, r673790⟩))
            · have r673791 : z673788.toInt < p672513.toInt := gC_nle hc673789
              have bz673788' : gB z673788 1 8191 := ⟨by omega, by omega⟩
              have bp672513' : gB p672513 2 8192 := ⟨by omega, by omega⟩
              refine G_aload_n 1 dr_cX14_next_170 rfl ?_
              refine Gp_get 0 hmq672511 he673685 dr_cX14_next_171 (gk_X14 D I) (Nat.le_of_ble_eq_true rfl) wr_9_36 rfl ?_
              refine G_aload_n 1 dr_cX14_next_174 rfl ?_
              refine Gp_get 2 hmq672511 he673685 dr_cX14_next_175 (gk_X14 D I) (Nat.le_of_ble_eq_true rfl) wr_9_38 rfl ?_
              refine G_iconst 1 dr_cX14_next_178 (by decide +kernel) ?_
              refine G_iadd dr_cX14_next_179 (G_eqi (y := z673788) hz673788.symm ?_)
              refine Gp_bald 1 hmq672512 he673684 dr_cX14_next_180 rfl (gB_in bz673788' (by decide) (by decide)) (G_nam fun z673792 hz673792 => ?_)
              have bz673792 : gB z673792 (-128) 127 := by rw [hz673792]; exact bf672526 _
              refine Gw_callS (As := [.int z673792]) (gV_ok D I) (cp_668275_Reader_isDigit l hl0 D I P672509 F673681 z673792 ) dr_cX14_next_181 ⟨wr_7_219, wr_1_32, wr_7_221, by decide, rfl, (Nat.le_of_ble_eq_true rfl), (Nat.le_of_ble_eq_true rfl)⟩ wr_7_220 (show 0 + 0 ≤ ((16 * (p672513.toInt - p672514.toInt)).toNat) by first | omega | decide) (show 0 + 0 ≤ ((160 * (p672513.toInt - p672514.toInt)).toNat) by first | omega | decide) (Nat.le_of_ble_eq_true rfl) (fun r673796 w673797 dc673793 ds673794 hp673795 => ?_) (fun _ _ _ _ _ z => z.elim)
              obtain ⟨o673798, rfl, rfl, hdc, hds, bo673798, x673799, ht673800⟩ := hp673795
              change G _ _ _ _ _ _ _ (.int o673798 :: _) _ _ _
              refine G_widen (cs' := 0) (sl' := 0) (by omega) (by omega) ?_
              refine G_if_eq 207 dr_cX14_next_184 (by decide +kernel) (fun hc673801 => ?_) (fun hc673801 => ?_)
              · have r673802 : o673798.toInt = 0 := gj_eq hc673801 (show Int32.toInt 0 = 0 by decide)
                have bo673798' : gB o673798 0 0 := ⟨by omega, by omega⟩
                refine G_iconst 0 dr_cX14_next_207 (by decide +kernel) ?_
                refine G_istore_n (L' := [(2, .int 0), (1, .int z673689), (0, .ref q672511)]) dr_cX14_next_208 (Nat.le_of_ble_eq_true rfl) rfl ?_
                refine G_lv (L' := [(2, .int 0), (1, .int z673689), (0, .ref q672511)]) [0, 1, 2] rfl ?_
                exact jn673690 (Or.inr (Or.inr (Or.inl ⟨z673788, z673792, o673798, r673787, ez673788, r673791, hz673792, bz673792, bo673798, ht673800, r673802⟩)))
              · have r673803 : o673798.toInt ≠ 0 := gj_neq hc673801 (show Int32.toInt 0 = 0 by decide)
                have bo673798' : gB o673798 1 1 := ⟨by omega, by omega⟩
                have bi673804 : gB z673792 48 57 := isP_1 x673799 (by omega)
                refine G_aload_n 1 dr_cX14_next_187 rfl ?_
                refine Gp_get 6 hmq672511 he673685 dr_cX14_next_188 (gk_X14 D I) (Nat.le_of_ble_eq_true rfl) wr_9_42 rfl ?_
                refine G_iconst 2 dr_cX14_next_191 (by decide +kernel) ?_
                refine G_icmp_eq 207 dr_cX14_next_192 (by decide +kernel) (fun hc673805 => ?_) (fun hc673805 => ?_)
                · have r673806 : p672515.toInt = 2 := gj_eq hc673805 (show Int32.toInt 2 = 2 by decide)
                  have bp672515' : gB p672515 2 2 := ⟨by omega, by omega⟩
                  refine G_iconst 0 dr_cX14_next_207 (by decide +kernel) ?_
                  refine G_istore_n (L' := [(2, .int 0), (1, .int z673689), (0, .ref q672511)]) dr_cX14_next_208 (Nat.le_of_ble_eq_true rfl) rfl ?_
                  refine G_lv (L' := [(2, .int 0), (1, .int z673689), (0, .ref q672511)]) [0, 1, 2] rfl ?_
                  exact jn673690 (Or.inr (Or.inr (Or.inr (Or.inl ⟨z673788, z673792, o673798, r673787, ez673788, r673791, hz673792, bz673792, bo673798, ht673800, r673803, r673806⟩))))
                · have r673807 : p672515.toInt ≠ 2 := gj_neq hc673805 (show Int32.toInt 2 = 2 by decide)
                  refine G_aload_n 1 dr_cX14_next_195 rfl ?_
                  refine Gp_get 6 hmq672511 he673685 dr_cX14_next_196 (gk_X14 D I) (Nat.le_of_ble_eq_true rfl) wr_9_42 rfl ?_
                  refine G_iconst 4 dr_cX14_next_199 (by decide +kernel) ?_
                  refine G_icmp_eq 207 dr_cX14_next_200 (by decide +kernel) (fun hc673808 => ?_) (fun hc673808 => ?_)
                  · have r673809 : p672515.toInt = 4 := gj_eq hc673808 (show Int32.toInt 4 = 4 by decide)
                    have bp672515' : gB p672515 4 4 := ⟨by omega, by omega⟩
                    refine G_iconst 0 dr_cX14_next_207 (by decide +kernel) ?_
                    refine G_istore_n (L' := [(2, .int 0), (1, .int z673689), (0, .ref q672511)]) dr_cX14_next_208 (Nat.le_of_ble_eq_true rfl) rfl ?_
                    refine G_lv (L' := [(2, .int 0), (1, .int z673689), (0, .ref q672511)]) [0, 1, 2] rfl ?_
                    exact jn673690 (Or.inr (Or.inr (Or.inr (Or.inr (⟨z673788, z673792, o673798, r673787, ez673788, r673791, hz673792, bz673792, bo673798, ht673800, r673803, r673807, r673809⟩)))))
                  · have r673810 : p672515.toInt ≠ 4 := gj_neq hc673808 (show Int32.toInt 4 = 4 by decide)
                    refine G_iconst 1 dr_cX14_next_203 (by decide +kernel) ?_
                    refine G_goto 208 dr_cX14_next_204 (by decide +kernel) ?_
                    refine G_istore_n (L' := [(2, .int 1), (1, .int z673689), (0, .ref q672511)]) dr_cX14_next_208 (Nat.le_of_ble_eq_true rfl) rfl ?_
                    clear jn673690 bz673788 bo673798'; try clear r673796; try clear w673797; try clear dc673793; try clear ds673794; try clear hp673795; try clear x673799
                    refine G_iload_n 1 dr_cX14_next_209 rfl ?_
                    refine Gw_callS (As := [.int z673689]) (gV_ok D I) (cp_670225_Reader_isLetter l hl0 D I P672509 F673681 z673689 ) dr_cX14_next_210 ⟨wr_7_222, wr_1_32, wr_7_224, by decide, rfl, (Nat.le_of_ble_eq_true rfl), (Nat.le_of_ble_eq_true rfl)⟩ wr_7_223 (show 0 + 0 ≤ ((16 * (p672513.toInt - p672514.toInt)).toNat) by first | omega | decide) (show 0 + 0 ≤ ((160 * (p672513.toInt - p672514.toInt)).toNat) by first | omega | decide) (Nat.le_of_ble_eq_true rfl) (fun r673814 w673815 dc673811 ds673812 hp673813 => ?_) (fun _ _ _ _ _ z => z.elim)
                    obtain ⟨o673816, rfl, rfl, hdc, hds, bo673816, x673817, ht673818⟩ := hp673813
                    change G _ _ _ _ _ _ _ (.int o673816 :: _) _ _ _
                    refine G_widen (cs' := 0) (sl' := 0) (by omega) (by omega) ?_
                    refine G_if_eq 223 dr_cX14_next_213 (by decide +kernel) (fun hc673819 => ?_) (fun hc673819 => ?_)
                    · have r673820 : o673816.toInt = 0 := gj_eq hc673819 (show Int32.toInt 0 = 0 by decide)
                      have bo673816' : gB o673816 0 0 := ⟨by omega, by omega⟩
                      clear bo673816'; try clear r673814; try clear w673815; try clear dc673811; try clear ds673812; try clear hp673813; try clear x673817
                      refine G_iload_n 1 dr_cX14_next_223 rfl ?_
                      refine Gw_callS (As := [.int z673689]) (gV_ok D I) (cp_668275_Reader_isDigit l hl0 D I P672509 F673681 z673689 ) dr_cX14_next_224 ⟨wr_7_219, wr_1_32, wr_7_221, by decide, rfl, (Nat.le_of_ble_eq_true rfl), (Nat.le_of_ble_eq_true rfl)⟩ wr_7_220 (show 0 + 0 ≤ ((16 * (p672513.toInt - p672514.toInt)).toNat) by first | omega | decide) (show 0 + 0 ≤ ((160 * (p672513.toInt - p672514.toInt)).toNat) by first | omega | decide) (Nat.le_of_ble_eq_true rfl) (fun r673824 w673825 dc673821 ds673822 hp673823 => ?_) (fun _ _ _ _ _ z => z.elim)
                      obtain ⟨o673826, rfl, rfl, hdc, hds, bo673826, x673827, ht673828⟩ := hp673823
                      change G _ _ _ _ _ _ _ (.int o673826 :: _) _ _ _
                      refine G_widen (cs' := 0) (sl' := 0) (by omega) (by omega) ?_
                      refine G_if_ne 234 dr_cX14_next_227 (by decide +kernel) (fun hc673829 => ?_) (fun hc673829 => ?_)
                      · have r673830 : o673826.toInt ≠ 0 := gj_neq hc673829 (show Int32.toInt 0 = 0 by decide)
                        have bo673826' : gB o673826 1 1 := ⟨by omega, by omega⟩
                        have bi673831 : gB z673689 48 57 := isP_1 x673827 (by omega)
                        refine G_aload_n 2 dr_cX14_next_234 rfl ?_
                        refine G_iload_n 0 dr_cX14_next_235 rfl ?_
                        refine Gw_callV (As := [.int 1]) (gV_ok D I) (cp_668239_Reader_number l hl0 D I P672509 F673681 q672511 q672512 1 p672513 g673664 p672515 g673664 p672517 p672515 (D.2 1000 32) p672520 p672521 p672522 qo672523 qo672524 p672525 f672526 hmq672511 hmq672512 he673685 he673684 (gB_w (gBl (show Int32.toInt 1 = 1 by decide)) (by decide) (by decide)) (gB_w bp672513' (by decide) (by decide)) bg673664 bp672515 bg673664 bp672515 bp672520 bp672521 bp672522 bp672525 bf672526 (by have qa0 : Int32.toInt 1 = 1 := (by decide); omega) (by have qa0 : Int32.toInt 1 = 1 := (by decide); omega) (by first | assumption | exact cDg_no (by omega) | exact cDg_no (by decide) | exact cDg_of (by assumption) (by omega) (by omega)) x672528 x672529) dr_cX14_next_236 ⟨wr_8_218, wr_1_32, wr_8_221, by decide, rfl, (Nat.le_of_ble_eq_true rfl), (Nat.le_of_ble_eq_true rfl)⟩ wr_8_220 wr_p_77 hmq672511 he673685 rfl (show 0 + ((16 * (p672513.toInt - g673664.toInt)).toNat) ≤ ((16 * (p672513.toInt - p672514.toInt)).toNat) by first | omega | decide) (show 0 + ((160 * (p672513.toInt - g673664.toInt)).toNat) ≤ ((160 * (p672513.toInt - p672514.toInt)).toNat) by first | omega | decide) (Nat.le_of_ble_eq_true rfl) (fun r673835 w673836 dc673832 ds673833 hp673834 => ?_) (fun _ _ _ _ _ z => z.elim)
                        obtain ⟨F673846, o673837, o673838, o673839, xt673845, rfl, rfl, hfr673848, he673849, he673850, hdc, hds, bo673837, bo673838, x673840, x673841, x673842, x673843, ht673844⟩ := hp673834
                        have hfr673851 : rFr [q672511] P672509 F672510 F673846 := rFr_call (rSub_rf (P := P672509)) hfr673686 hfr673848 (fun b hb hn => ⟨(nm_c (fun e => hn (e ▸ List.mem_cons_self)) nm_n), (nm_c (fun e => hn (e ▸ List.mem_cons_self)) nm_n)⟩)
                        have bo673839 := gB_any o673839
                        change G _ _ _ _ _ _ _ _ _ _ _
                        refine G_widen (cs' := (16 * (o673837.toInt - g673664.toInt)).toNat) (sl' := (160 * (o673837.toInt - g673664.toInt)).toNat) (by omega) (by omega) ?_
                        refine G_goto 247 dr_cX14_next_239 (by decide +kernel) ?_
                        exact G_vretA dr_cX14_next_247 rfl (show (16 * (o673837.toInt - g673664.toInt)).toNat ≤ ((16 * (p672513.toInt - p672514.toInt)).toNat) by omega) (show (160 * (o673837.toInt - g673664.toInt)).toNat ≤ ((160 * (p672513.toInt - p672514.toInt)).toNat) by omega) ⟨P672509, F673846, o673837, o673838, g673664, o673839, (D.2 1000 32), xt673845, rfl, rfl, (rSub_rf (P := P672509)), hfr673851, he673849, he673850, (by omega), (by omega), bo673837, (gB_w bo673838 (by decide) (by decide)), bg673664, (by have qa0 : Int32.toInt 1 = 1 := (by decide); omega), (Or.inr (by omega)), (by have qa0 : Int32.toInt 1 = 1 := (by decide); omega), (by first | exact tP_no (by omega) (by omega) | assumption), x673843, (fun R c1 c2 c3 c4 c5 c6 c7 c8 c9 c10 c11 c12 c13 => c4 g673664 z673689 z673788 z673792 o673798 o673816 o673826 xt673845 o673837 o673838 o673839 hx673673 r673688 hz673689 bz673689 r673787 ez673788 r673791 hz673792 bz673792 bo673798 ht673800 r673803 r673807 r673810 bo673816 ht673818 r673820 bo673826 ht673828 r673830 bo673837 bo673838 ht673844)⟩
                      · have r673852 : o673826.toInt = 0 := gj_eq hc673829 (show Int32.toInt 0 = 0 by decide)
                        have bo673826' : gB o673826 0 0 := ⟨by omega, by omega⟩
                        refine G_iload_n 0 dr_cX14_next_230 rfl ?_
                        refine G_if_eq 242 dr_cX14_next_231 (by decide +kernel) (fun hc => absurd hc (by decide)) (fun _ => ?_)
                        refine G_aload_n 2 dr_cX14_next_234 rfl ?_
                        refine G_iload_n 0 dr_cX14_next_235 rfl ?_
                        refine Gw_callV (As := [.int 1]) (gV_ok D I) (cp_668239_Reader_number l hl0 D I P672509 F673681 q672511 q672512 1 p672513 g673664 p672515 g673664 p672517 p672515 (D.2 1000 32) p672520 p672521 p672522 qo672523 qo672524 p672525 f672526 hmq672511 hmq672512 he673685 he673684 (gB_w (gBl (show Int32.toInt 1 = 1 by decide)) (by decide) (by decide)) (gB_w bp672513' (by decide) (by decide)) bg673664 bp672515 bg673664 bp672515 bp672520 bp672521 bp672522 bp672525 bf672526 (by have qa0 : Int32.toInt 1 = 1 := (by decide); omega) (by have qa0 : Int32.toInt 1 = 1 := (by decide); omega) (by first | assumption | exact cDg_no (by omega) | exact cDg_no (by decide) | exact cDg_of (by assumption) (by omega) (by omega)) x672528 x672529) dr_cX14_next_236 ⟨wr_8_218, wr_1_32, wr_8_221, by decide, rfl, (Nat.le_of_ble_eq_true rfl), (Nat.le_of_ble_eq_true rfl)⟩ wr_8_220 wr_p_77 hmq672511 he673685 rfl (show 0 + ((16 * (p672513.toInt - g673664.toInt)).toNat) ≤ ((16 * (p672513.toInt - p672514.toInt)).toNat) by first | omega | decide) (show 0 + ((160 * (p672513.toInt - g673664.toInt)).toNat) ≤ ((160 * (p672513.toInt - p672514.toInt)).toNat) by first | omega | decide) (Nat.le_of_ble_eq_true rfl) (fun r673856 w673857 dc673853 ds673854 hp673855 => ?_) (fun _ _ _ _ _ z => z.elim)
                        obtain ⟨F673867, o673858, o673859, o673860, xt673866, rfl, rfl, hfr673869, he673870, he673871, hdc, hds, bo673858, bo673859, x673861, x673862, x673863, x673864, ht673865⟩ := hp673855
                        have hfr673872 : rFr [q672511] P672509 F672510 F673867 := rFr_call (rSub_rf (P := P672509)) hfr673686 hfr673869 (fun b hb hn => ⟨(nm_c (fun e => hn (e ▸ List.mem_cons_self)) nm_n), (nm_c (fun e => hn (e ▸ List.mem_cons_self)) nm_n)⟩)
                        have bo673860 := gB_any o673860
                        change G _ _ _ _ _ _ _ _ _ _ _
                        refine G_widen (cs' := (16 * (o673858.toInt - g673664.toInt)).toNat) (sl' := (160 * (o673858.toInt - g673664.toInt)).toNat) (by omega) (by omega) ?_
                        refine G_goto 247 dr_cX14_next_239 (by decide +kernel) ?_
                        exact G_vretA dr_cX14_next_247 rfl (show (16 * (o673858.toInt - g673664.toInt)).toNat ≤ ((16 * (p672513.toInt - p672514.toInt)).toNat) by omega) (show (160 * (o673858.toInt - g673664.toInt)).toNat ≤ ((160 * (p672513.toInt - p672514.toInt)).toNat) by omega) ⟨P672509, F673867, o673858, o673859, g673664, o673860, (D.2 1000 32), xt673866, rfl, rfl, (rSub_rf (P := P672509)), hfr673872, he673870, he673871, (by omega), (by omega), bo673858, (gB_w bo673859 (by decide) (by decide)), bg673664, (by have qa0 : Int32.toInt 1 = 1 := (by decide); omega), (Or.inr (by omega)), (by have qa0 : Int32.toInt 1 = 1 := (by decide); omega), (by first | exact tP_no (by omega) (by omega) | assumption), x673864, (fun R c1 c2 c3 c4 c5 c6 c7 c8 c9 c10 c11 c12 c13 => c5 g673664 z673689 z673788 z673792 o673798 o673816 o673826 xt673866 o673858 o673859 o673860 hx673673 r673688 hz673689 bz673689 r673787 ez673788 r673791 hz673792 bz673792 bo673798 ht673800 r673803 r673807 r673810 bo673816 ht673818 r673820 bo673826 ht673828 r673852 bo673858 bo673859 ht673865)⟩
                    · have r673873 : o673816.toInt ≠ 0 := gj_neq hc673819 (show Int32.toInt 0 = 0 by decide)
                      have bo673816' : gB o673816 1 1 := ⟨by omega, by omega⟩
                      have bi673874 : gB z673689 97 122 := isP_1 x673817 (by omega)
                      refine G_aload_n 2 dr_cX14_next_216 rfl ?_
                      refine Gw_callV (As := []) (gV_ok D I) (cp_669881_Reader_word l hl0 D I P672509 F673681 q672511 q672512 p672513 g673664 p672515 g673664 p672517 p672515 (D.2 1000 32) p672520 p672521 p672522 qo672523 qo672524 p672525 f672526 hmq672511 hmq672512 he673685 he673684 (gB_w bp672513' (by decide) (by decide)) bg673664 bp672515 bg673664 bp672515 bp672520 bp672521 bp672522 bp672525 bf672526 (by have qa0 : Int32.toInt 1 = 1 := (by decide); omega) (by have qa0 : Int32.toInt 1 = 1 := (by decide); omega) (by first | assumption | exact cLt_of (by assumption) (by omega) (by omega)) x672528 x672529) dr_cX14_next_217 ⟨wr_7_225, wr_1_32, wr_7_228, by decide, rfl, (Nat.le_of_ble_eq_true rfl), (Nat.le_of_ble_eq_true rfl)⟩ wr_7_227 wr_p_76 hmq672511 he673685 rfl (show 0 + ((16 * (p672513.toInt - g673664.toInt)).toNat) ≤ ((16 * (p672513.toInt - p672514.toInt)).toNat) by first | omega | decide) (show 0 + ((160 * (p672513.toInt - g673664.toInt)).toNat) ≤ ((160 * (p672513.toInt - p672514.toInt)).toNat) by first | omega | decide) (Nat.le_of_ble_eq_true rfl) (fun r673878 w673879 dc673875 ds673876 hp673877 => ?_) (fun _ _ _ _ _ z => z.elim)
                      obtain ⟨P673890, F673891, o673880, o673881, o673882, q673883, xt673889, rfl, rfl, hsb673892, hfr673893, he673894, he673895, hdc, hds, bo673880, bo673881, x673884, x673885, x673886, x673887, ht673888⟩ := hp673877
                      have hm673896 : q672511 ∈ P673890 := hsb673892 q672511 hmq672511
                      have hm673897 : q672512 ∈ P673890 := hsb673892 q672512 hmq672512
                      have hsb673898 : rSub P672509 P673890 := rSub_tr (rSub_rf (P := P672509)) hsb673892
                      have hfr673899 : rFr [q672511] P672509 F672510 F673891 := rFr_call (rSub_rf (P := P672509)) hfr673686 hfr673893 (fun b hb hn => ⟨(nm_c (fun e => hn (e ▸ List.mem_cons_self)) nm_n), (nm_c (fun e => hn (e ▸ List.mem_cons_self)) nm_n)⟩)
                      have bo673882 := gB_any o673882
                      change G _ _ _ _ _ _ _ _ _ _ _
                      refine G_widen (cs' := (16 * (o673880.toInt - g673664.toInt)).toNat) (sl' := (160 * (o673880.toInt - g673664.toInt)).toNat) (by omega) (by omega) ?_
                      refine G_goto 247 dr_cX14_next_220 (by decide +kernel) ?_
                      exact G_vretA dr_cX14_next_247 rfl (show (16 * (o673880.toInt - g673664.toInt)).toNat ≤ ((16 * (p672513.toInt - p672514.toInt)).toNat) by omega) (show (160 * (o673880.toInt - g673664.toInt)).toNat ≤ ((160 * (p672513.toInt - p672514.toInt)).toNat) by omega) ⟨P673890, F673891, o673880, o673881, g673664, o673882, q673883, xt673889, rfl, rfl, hsb673898, hfr673899, he673894, he673895, (by omega), (by omega), bo673880, (gB_w bo673881 (by decide) (by decide)), bg673664, (by have qa0 : Int32.toInt 1 = 1 := (by decide); omega), (Or.inr (by omega)), (by have qa0 : Int32.toInt 1 = 1 := (by decide); omega), x673886, x673887, (fun R c1 c2 c3 c4 c5 c6 c7 c8 c9 c10 c11 c12 c13 => c6 g673664 z673689 z673788 z673792 o673798 o673816 xt673889 o673880 o673881 o673882 hx673673 r673688 hz673689 bz673689 r673787 ez673788 r673791 hz673792 bz673792 bo673798 ht673800 r673803 r673807 r673810 bo673816 ht673818 r673873 bo673880 bo673881 ht673888)⟩
        · have r673900 : g673664.toInt = p672513.toInt := gC_eq hc673687
          refine G_aload_n 0 dr_cX14_next_135 rfl ?_
          refine G_iconst 0 dr_cX14_next_136 (by decide +kernel) ?_
          refine Gp_put 3 hmq672511 he673685 dr_cX14_next_137 (gk_X14 D I) (Nat.le_of_ble_eq_true rfl) wr_9_39 rfl rfl rfl (Nat.le_of_ble_eq_true rfl) (fun F673901 e673902 n673903 => ?_)
          have he673904 : F673901 q672512 = .inl (I .byte, 8192, .inl f672526) := (n673903 q672512 (rn_ao he673684 he673685)).trans he673684
          have he673905 : F673901 q672511 = .inr (19, [.ref q672512, .int p672513, .int g673664, .int 0, .int g673664, .int p672517, .int p672515, .ref (D.2 1000 32), .int p672520, .int p672521, .int p672522, .ref qo672523, .ref qo672524, .int p672525]) := e673902
          have hfr673906 : rFr [q672511] P672509 F672510 F673901 := rFr_put' List.mem_cons_self hfr673686 n673903
          exact G_vretA dr_cX14_next_140 rfl (show 0 ≤ ((16 * (p672513.toInt - p672514.toInt)).toNat) by omega) (show 0 ≤ ((160 * (p672513.toInt - p672514.toInt)).toNat) by omega) ⟨P672509, F673901, g673664, 0, g673664, p672517, (D.2 1000 32), (0, fun _ => 0), rfl, rfl, (rSub_rf (P := P672509)), hfr673906, he673905, he673904, (by omega), (by omega), bg673664, (gB_w (gBl (show Int32.toInt 0 = 0 by decide)) (by decide) (by decide)), bg673664, (by have qa0 : Int32.toInt 0 = 0 := (by decide); omega), (Or.inl (by decide)), (by have qa0 : Int32.toInt 0 = 0 := (by decide); omega), (tP_no (by decide) (by decide)), (vP_no (by decide) (by decide)), (fun R c1 c2 c3 c4 c5 c6 c7 c8 c9 c10 c11 c12 c13 => c7 g673664 hx673673 r673900)⟩
      · have r673907 : g673664.toInt < p672513.toInt := gC_nle hc673671
        have bg673664' : gB g673664 0 8191 := ⟨by omega, by omega⟩
        have bp672513' : gB p672513 1 8192 := ⟨by omega, by omega⟩
        refine G_aload_n 0 dr_cX14_next_19 rfl ?_
        refine Gp_get 0 hmq672511 he673666 dr_cX14_next_20 (gk_X14 D I) (Nat.le_of_ble_eq_true rfl) wr_9_36 rfl ?_
        refine G_aload_n 0 dr_cX14_next_23 rfl ?_
        refine Gp_get 2 hmq672511 he673666 dr_cX14_next_24 (gk_X14 D I) (Nat.le_of_ble_eq_true rfl) wr_9_38 rfl ?_
        refine Gp_bald 1 hmq672512 he673667 dr_cX14_next_27 rfl (gB_in bg673664' (by decide) (by decide)) (G_nam fun z673908 hz673908 => ?_)
        have bz673908 : gB z673908 (-128) 127 := by rw [hz673908]; exact bf672526 _
        refine G_istore_n (L' := [(1, .int z673908), (0, .ref q672511)]) dr_cX14_next_28 (Nat.le_of_ble_eq_true rfl) rfl ?_
        refine G_iload_n 0 dr_cX14_next_29 rfl ?_
        refine G_bipush 59 dr_cX14_next_30 (by decide +kernel) ?_
        refine G_icmp_ne 73 dr_cX14_next_32 (by decide +kernel) (fun hc673909 => ?_) (fun hc673909 => ?_)
        · have r673910 : z673908.toInt ≠ 59 := gj_neq hc673909 (show Int32.toInt 59 = 59 by decide)
          refine G_iload_n 0 dr_cX14_next_73 rfl ?_
          refine G_bipush 9 dr_cX14_next_74 (by decide +kernel) ?_
          refine G_icmp_eq 97 dr_cX14_next_76 (by decide +kernel) (fun hc673911 => ?_) (fun hc673911 => ?_)
          · have r673912 : z673908.toInt = 9 := gj_eq hc673911 (show Int32.toInt 9 = 9 by decide)
            have bz673908' : gB z673908 9 9 := ⟨by omega, by omega⟩
            refine G_aload_n 1 dr_cX14_next_97 rfl ?_
            refine G_dup dr_cX14_next_98 rfl ?_
            refine Gp_get 2 hmq672511 he673666 dr_cX14_next_99 (gk_X14 D I) (Nat.le_of_ble_eq_true rfl) wr_9_38 rfl ?_
            refine G_iconst 1 dr_cX14_next_102 (by decide +kernel) ?_
            refine G_iadd dr_cX14_next_103 (G_nam fun z673913 hz673913 => ?_)
            have ez673913 : z673913.toInt = g673664.toInt + 1 := by rw [gI_add hz673913 bg673664' (gBl (show Int32.toInt 1 = 1 by decide)) (by decide) (by decide), show Int32.toInt 1 = 1 from by decide]
            have bz673913 : gB z673913 1 8192 := gB_add (gI_add hz673913 bg673664' (gBl (show Int32.toInt 1 = 1 by decide)) (by decide) (by decide)) bg673664' (gBl (show Int32.toInt 1 = 1 by decide)) (by decide) (by decide)
            refine Gp_put 2 hmq672511 he673666 dr_cX14_next_104 (gk_X14 D I) (Nat.le_of_ble_eq_true rfl) wr_9_38 rfl rfl rfl (Nat.le_of_ble_eq_true rfl) (fun F673914 e673915 n673916 => ?_)
            have he673917 : F673914 q672512 = .inl (I .byte, 8192, .inl f672526) := (n673916 q672512 (rn_ao he673667 he673666)).trans he673667
            have he673918 : F673914 q672511 = .inr (19, [.ref q672512, .int p672513, .int z673913, .int p672515, .int p672516, .int p672517, .int p672515, .ref qo672519, .int p672520, .int p672521, .int p672522, .ref qo672523, .ref qo672524, .int p672525]) := e673915
            have hfr673919 : rFr [q672511] P672509 F672510 F673914 := rFr_put' List.mem_cons_self hfr673668 n673916
            have x673920 : g673664.toInt < z673913.toInt := by first | omega | exact chNe (a := g673664) (b := z673913) (by assumption) (by assumption) (by omega) (by omega)
            refine G_goto 8 dr_cX14_next_107 (by decide +kernel) ?_
            refine G_lv (L' := [(0, .ref q672511)]) [1] rfl ?_
            exact ih8_673670 F673914 z673913 (gB_w bz673913 (by decide) (by decide)) hfr673919 he673918 he673917 (by omega) (by omega) (fun k e1 ht => kt8_673670 k e1 (fun R c1 c2 c3 c4 c5 c6 c7 => c2 g673664 z673908 z673913 k e1 bg673664 r673907 hz673908 bz673908 r673910 r673912 ez673913 (ht R c1 c2 c3 c4 c5 c6 c7))) (by omega)
          · have r673921 : z673908.toInt ≠ 9 := gj_neq hc673911 (show Int32.toInt 9 = 9 by decide)
            refine G_iload_n 0 dr_cX14_next_79 rfl ?_
            refine G_bipush 10 dr_cX14_next_80 (by decide +kernel) ?_
            refine G_icmp_eq 97 dr_cX14_next_82 (by decide +kernel) (fun hc673922 => ?_) (fun hc673922 => ?_)
            · have r673923 : z673908.toInt = 10 := gj_eq hc673922 (show Int32.toInt 10 = 10 by decide)
              have bz673908' : gB z673908 10 10 := ⟨by omega, by omega⟩
              refine G_aload_n 1 dr_cX14_next_97 rfl ?_
              refine G_dup dr_cX14_next_98 rfl ?_
              refine Gp_get 2 hmq672511 he673666 dr_cX14_next_99 (gk_X14 D I) (Nat.le_of_ble_eq_true rfl) wr_9_38 rfl ?_
              refine G_iconst 1 dr_cX14_next_102 (by decide +kernel) ?_
              refine G_iadd dr_cX14_next_103 (G_nam fun z673924 hz673924 => ?_)
              have ez673924 : z673924.toInt = g673664.toInt + 1 := by rw [gI_add hz673924 bg673664' (gBl (show Int32.toInt 1 = 1 by decide)) (by decide) (by decide), show Int32.toInt 1 = 1 from by decide]
              have bz673924 : gB z673924 1 8192 := gB_add (gI_add hz673924 bg673664' (gBl (show Int32.toInt 1 = 1 by decide)) (by decide) (by decide)) bg673664' (gBl (show Int32.toInt 1 = 1 by decide)) (by decide) (by decide)
              refine Gp_put 2 hmq672511 he673666 dr_cX14_next_104 (gk_X14 D I) (Nat.le_of_ble_eq_true rfl) wr_9_38 rfl rfl rfl (Nat.le_of_ble_eq_true rfl) (fun F673925 e673926 n673927 => ?_)
              have he673928 : F673925 q672512 = .inl (I .byte, 8192, .inl f672526) := (n673927 q672512 (rn_ao he673667 he673666)).trans he673667
              have he673929 : F673925 q672511 = .inr (19, [.ref q672512, .int p672513, .int z673924, .int p672515, .int p672516, .int p672517, .int p672515, .ref qo672519, .int p672520, .int p672521, .int p672522, .ref qo672523, .ref qo672524, .int p672525]) := e673926
              have hfr673930 : rFr [q672511] P672509 F672510 F673925 := rFr_put' List.mem_cons_self hfr673668 n673927
              have x673931 : g673664.toInt < z673924.toInt := by first | omega | exact chNe (a := g673664) (b := z673924) (by assumption) (by assumption) (by omega) (by omega)
              refine G_goto 8 dr_cX14_next_107 (by decide +kernel) ?_
              refine G_lv (L' := [(0, .ref q672511)]) [1] rfl ?_
              exact ih8_673670 F673925 z673924 (gB_w bz673924 (by decide) (by decide)) hfr673930 he673929 he673928 (by omega) (by omega) (fun k e1 ht => kt8_673670 k e1 (fun R c1 c2 c3 c4 c5 c6 c7 => c3 g673664 z673908 z673924 k e1 bg673664 r673907 hz673908 bz673908 r673910 r673921 r673923 ez673924 (ht R c1 c2 c3 c4 c5 c6 c7))) (by omega)
            · have r673932 : z673908.toInt ≠ 10 := gj_neq hc673922 (show Int32.toInt 10 = 10 by decide)
              refine G_iload_n 0 dr_cX14_next_85 rfl ?_
              refine G_bipush 13 dr_cX14_next_86 (by decide +kernel) ?_
              refine G_icmp_eq 97 dr_cX14_next_88 (by decide +kernel) (fun hc673933 => ?_) (fun hc673933 => ?_)
              · have r673934 : z673908.toInt = 13 := gj_eq hc673933 (show Int32.toInt 13 = 13 by decide)
                have bz673908' : gB z673908 13 13 := ⟨by omega, by omega⟩
                refine G_aload_n 1 dr_cX14_next_97 rfl ?_
                refine G_dup dr_cX14_next_98 rfl ?_
                refine Gp_get 2 hmq672511 he673666 dr_cX14_next_99 (gk_X14 D I) (Nat.le_of_ble_eq_true rfl) wr_9_38 rfl ?_
                refine G_iconst 1 dr_cX14_next_102 (by decide +kernel) ?_
                refine G_iadd dr_cX14_next_103 (G_nam fun z673935 hz673935 => ?_)
                have ez673935 : z673935.toInt = g673664.toInt + 1 := by rw [gI_add hz673935 bg673664' (gBl (show Int32.toInt 1 = 1 by decide)) (by decide) (by decide), show Int32.toInt 1 = 1 from by decide]
                have bz673935 : gB z673935 1 8192 := gB_add (gI_add hz673935 bg673664' (gBl (show Int32.toInt 1 = 1 by decide)) (by decide) (by decide)) bg673664' (gBl (show Int32.toInt 1 = 1 by decide)) (by decide) (by decide)
                refine Gp_put 2 hmq672511 he673666 dr_cX14_next_104 (gk_X14 D I) (Nat.le_of_ble_eq_true rfl) wr_9_38 rfl rfl rfl (Nat.le_of_ble_eq_true rfl) (fun F673936 e673937 n673938 => ?_)
                have he673939 : F673936 q672512 = .inl (I .byte, 8192, .inl f672526) := (n673938 q672512 (rn_ao he673667 he673666)).trans he673667
                have he673940 : F673936 q672511 = .inr (19, [.ref q672512, .int p672513, .int z673935, .int p672515, .int p672516, .int p672517, .int p672515, .ref qo672519, .int p672520, .int p672521, .int p672522, .ref qo672523, .ref qo672524, .int p672525]) := e673937
                have hfr673941 : rFr [q672511] P672509 F672510 F673936 := rFr_put' List.mem_cons_self hfr673668 n673938
                have x673942 : g673664.toInt < z673935.toInt := by first | omega | exact chNe (a := g673664) (b := z673935) (by assumption) (by assumption) (by omega) (by omega)
                refine G_goto 8 dr_cX14_next_107 (by decide +kernel) ?_
                refine G_lv (L' := [(0, .ref q672511)]) [1] rfl ?_
                exact ih8_673670 F673936 z673935 (gB_w bz673935 (by decide) (by decide)) hfr673941 he673940 he673939 (by omega) (by omega) (fun k e1 ht => kt8_673670 k e1 (fun R c1 c2 c3 c4 c5 c6 c7 => c4 g673664 z673908 z673935 k e1 bg673664 r673907 hz673908 bz673908 r673910 r673921 r673932 r673934 ez673935 (ht R c1 c2 c3 c4 c5 c6 c7))) (by omega)
              · have r673943 : z673908.toInt ≠ 13 := gj_neq hc673933 (show Int32.toInt 13 = 13 by decide)
                refine G_iload_n 0 dr_cX14_next_91 rfl ?_
                refine G_bipush 32 dr_cX14_next_92 (by decide +kernel) ?_
                refine G_icmp_ne 110 dr_cX14_next_94 (by decide +kernel) (fun hc673944 => ?_) (fun hc673944 => ?_)
                · have r673945 : z673908.toInt ≠ 32 := gj_neq hc673944 (show Int32.toInt 32 = 32 by decide)
                  have hx673946 : tl_RReader_next_8 p672513 f672526 p672514 110 g673664 := kt8_673670 110 g673664 (fun R c1 c2 c3 c4 c5 c6 c7 => c5 g673664 z673908 bg673664 r673907 hz673908 bz673908 r673910 r673921 r673932 r673943 r673945)
                  clear he672534 he672535 hfr672536
                  refine G_aload_n 1 dr_cX14_next_110 rfl ?_
                  refine G_aload_n 1 dr_cX14_next_111 rfl ?_
                  refine Gp_get 2 hmq672511 he673666 dr_cX14_next_112 (gk_X14 D I) (Nat.le_of_ble_eq_true rfl) wr_9_38 rfl ?_
                  refine Gp_put 4 hmq672511 he673666 dr_cX14_next_115 (gk_X14 D I) (Nat.le_of_ble_eq_true rfl) wr_9_40 rfl rfl rfl (Nat.le_of_ble_eq_true rfl) (fun F673947 e673948 n673949 => ?_)
                  have he673950 : F673947 q672512 = .inl (I .byte, 8192, .inl f672526) := (n673949 q672512 (rn_ao he673667 he673666)).trans he673667
                  have he673951 : F673947 q672511 = .inr (19, [.ref q672512, .int p672513, .int g673664, .int p672515, .int g673664, .int p672517, .int p672515, .ref qo672519, .int p672520, .int p672521, .int p672522, .ref qo672523, .ref qo672524, .int p672525]) := e673948
                  have hfr673952 : rFr [q672511] P672509 F672510 F673947 := rFr_put' List.mem_cons_self hfr673668 n673949
                  refine G_aload_n 1 dr_cX14_next_118 rfl ?_
                  refine G_ldcK (a := D.2 1000 32) dr_cX14_next_119 (fun _ _ _ h => gx_vk 32 rfl rfl h) ?_
                  have hl32_673952 : (sb_32.length : Int) = 0 := rfl
                  refine Gp_put 7 hmq672511 he673951 dr_cX14_next_121 (gk_X14 D I) (Nat.le_of_ble_eq_true rfl) wr_9_43 rfl rfl rfl (Nat.le_of_ble_eq_true rfl) (fun F673954 e673955 n673956 => ?_)
                  have he673957 : F673954 q672512 = .inl (I .byte, 8192, .inl f672526) := (n673956 q672512 (rn_ao he673950 he673951)).trans he673950
                  have he673958 : F673954 q672511 = .inr (19, [.ref q672512, .int p672513, .int g673664, .int p672515, .int g673664, .int p672517, .int p672515, .ref (D.2 1000 32), .int p672520, .int p672521, .int p672522, .ref qo672523, .ref qo672524, .int p672525]) := e673955
                  have hfr673959 : rFr [q672511] P672509 F672510 F673954 := rFr_put' List.mem_cons_self hfr673952 n673956
                  clear he673950 he673951 hfr673952
                  refine G_aload_n 1 dr_cX14_next_124 rfl ?_
                  refine Gp_get 2 hmq672511 he673958 dr_cX14_next_125 (gk_X14 D I) (Nat.le_of_ble_eq_true rfl) wr_9_38 rfl ?_
                  refine G_aload_n 1 dr_cX14_next_128 rfl ?_
                  refine Gp_get 1 hmq672511 he673958 dr_cX14_next_129 (gk_X14 D I) (Nat.le_of_ble_eq_true rfl) wr_9_37 rfl ?_
                  refine G_icmp_ne 141 dr_cX14_next_132 (by decide +kernel) (fun hc673960 => ?_) (fun hc673960 => ?_)
                  · have r673961 : g673664.toInt ≠ p672513.toInt := gC_ne hc673960
                    refine G_aload_n 1 dr_cX14_next_141 rfl ?_
                    refine Gp_get 0 hmq672511 he673958 dr_cX14_next_142 (gk_X14 D I) (Nat.le_of_ble_eq_true rfl) wr_9_36 rfl ?_
                    refine G_aload_n 1 dr_cX14_next_145 rfl ?_
                    refine Gp_get 2 hmq672511 he673958 dr_cX14_next_146 (gk_X14 D I) (Nat.le_of_ble_eq_true rfl) wr_9_38 rfl ?_
                    refine Gp_bald 1 hmq672512 he673957 dr_cX14_next_149 rfl (gB_in bg673664' (by decide) (by decide)) (G_eqi (y := z673908) hz673908.symm ?_)
                    refine G_istore_n (L' := [(1, .int z673908), (0, .ref q672511)]) dr_cX14_next_150 (Nat.le_of_ble_eq_true rfl) rfl ?_
                    have jn673962 : ((z673908.toInt ≠ 45) ∨ (∃ (y1 : Int32), z673908.toInt = 45 ∧ y1.toInt = g673664.toInt + 1 ∧ p672513.toInt ≤ y1.toInt) ∨ (∃ (y1 : Int32) (y2 : Int32) (y3 : Int32), z673908.toInt = 45 ∧ y1.toInt = g673664.toInt + 1 ∧ y1.toInt < p672513.toInt ∧ y2 = f672526 y1.toNatClampNeg ∧ gB y2 (-128) 127 ∧ gB y3 0 1 ∧ tr_RReader_isDigit2 y2 y3 ∧ y3.toInt = 0) ∨ (∃ (y1 : Int32) (y2 : Int32) (y3 : Int32), z673908.toInt = 45 ∧ y1.toInt = g673664.toInt + 1 ∧ y1.toInt < p672513.toInt ∧ y2 = f672526 y1.toNatClampNeg ∧ gB y2 (-128) 127 ∧ gB y3 0 1 ∧ tr_RReader_isDigit2 y2 y3 ∧ y3.toInt ≠ 0 ∧ p672515.toInt = 2) ∨ (∃ (y1 : Int32) (y2 : Int32) (y3 : Int32), z673908.toInt = 45 ∧ y1.toInt = g673664.toInt + 1 ∧ y1.toInt < p672513.toInt ∧ y2 = f672526 y1.toNatClampNeg ∧ gB y2 (-128) 127 ∧ gB y3 0 1 ∧ tr_RReader_isDigit2 y2 y3 ∧ y3.toInt ≠ 0 ∧ p672515.toInt ≠ 2 ∧ p672515.toInt = 4)) → G (gV D I) l (gRm 7 155 ((16 * (p672513.toInt - p672514.toInt)).toNat) ((160 * (p672513.toInt - p672514.toInt)).toNat)) (gMA (gV D I) (pp_672530_Reader_next D I P672509 F672510 q672511 q672512 p672513 p672514 p672515 p672516 p672517 p672518 qo672519 p672520 p672521 p672522 qo672523 qo672524 p672525 f672526) gNA ((16 * (p672513.toInt - p672514.toInt)).toNat) ((160 * (p672513.toInt - p672514.toInt)).toNat)) ky_672530_Reader_next 209 [(2, .int 0), (1, .int z673908), (0, .ref q672511)] [] (va_pl P672509 F673954) 0 0 := by
                      intro hJ673963
                      refine G_iload_n 1 dr_cX14_next_209 rfl ?_
                      refine Gw_callS (As := [.int z673908]) (gV_ok D I) (cp_670225_Reader_isLetter l hl0 D I P672509 F673954 z673908 ) dr_cX14_next_210 ⟨wr_7_222, wr_1_32, wr_7_224, by decide, rfl, (Nat.le_of_ble_eq_true rfl), (Nat.le_of_ble_eq_true rfl)⟩ wr_7_223 (show 0 + 0 ≤ ((16 * (p672513.toInt - p672514.toInt)).toNat) by first | omega | decide) (show 0 + 0 ≤ ((160 * (p672513.toInt - p672514.toInt)).toNat) by first | omega | decide) (Nat.le_of_ble_eq_true rfl) (fun r673967 w673968 dc673964 ds673965 hp673966 => ?_) (fun _ _ _ _ _ z => z.elim)
                      obtain ⟨o673969, rfl, rfl, hdc, hds, bo673969, x673970, ht673971⟩ := hp673966
                      change G _ _ _ _ _ _ _ (.int o673969 :: _) _ _ _
                      refine G_widen (cs' := 0) (sl' := 0) (by omega) (by omega) ?_
                      refine G_if_eq 223 dr_cX14_next_213 (by decide +kernel) (fun hc673972 => ?_) (fun hc673972 => ?_)
                      · have r673973 : o673969.toInt = 0 := gj_eq hc673972 (show Int32.toInt 0 = 0 by decide)
                        have bo673969' : gB o673969 0 0 := ⟨by omega, by omega⟩
                        clear bo673969'; try clear r673967; try clear w673968; try clear dc673964; try clear ds673965; try clear hp673966; try clear x673970
                        refine G_iload_n 1 dr_cX14_next_223 rfl ?_
                        refine Gw_callS (As := [.int z673908]) (gV_ok D I) (cp_668275_Reader_isDigit l hl0 D I P672509 F673954 z673908 ) dr_cX14_next_224 ⟨wr_7_219, wr_1_32, wr_7_221, by decide, rfl, (Nat.le_of_ble_eq_true rfl), (Nat.le_of_ble_eq_true rfl)⟩ wr_7_220 (show 0 + 0 ≤ ((16 * (p672513.toInt - p672514.toInt)).toNat) by first | omega | decide) (show 0 + 0 ≤ ((160 * (p672513.toInt - p672514.toInt)).toNat) by first | omega | decide) (Nat.le_of_ble_eq_true rfl) (fun r673977 w673978 dc673974 ds673975 hp673976 => ?_) (fun _ _ _ _ _ z => z.elim)
                        obtain ⟨o673979, rfl, rfl, hdc, hds, bo673979, x673980, ht673981⟩ := hp673976
                        change G _ _ _ _ _ _ _ (.int o673979 :: _) _ _ _
                        refine G_widen (cs' := 0) (sl' := 0) (by omega) (by omega) ?_
                        refine G_if_ne 234 dr_cX14_next_227 (by decide +kernel) (fun hc673982 => ?_) (fun hc673982 => ?_)
                        · have r673983 : o673979.toInt ≠ 0 := gj_neq hc673982 (show Int32.toInt 0 = 0 by decide)
                          have bo673979' : gB o673979 1 1 := ⟨by omega, by omega⟩
                          have bi673984 : gB z673908 48 57 := isP_1 x673980 (by omega)
                          refine G_aload_n 2 dr_cX14_next_234 rfl ?_
                          refine G_iload_n 0 dr_cX14_next_235 rfl ?_
                          refine Gw_callV (As := [.int 0]) (gV_ok D I) (cp_668239_Reader_number l hl0 D I P672509 F673954 q672511 q672512 0 p672513 g673664 p672515 g673664 p672517 p672515 (D.2 1000 32) p672520 p672521 p672522 qo672523 qo672524 p672525 f672526 hmq672511 hmq672512 he673958 he673957 (gB_w (gBl (show Int32.toInt 0 = 0 by decide)) (by decide) (by decide)) (gB_w bp672513' (by decide) (by decide)) (gB_w bg673664' (by decide) (by decide)) bp672515 (gB_w bg673664' (by decide) (by decide)) bp672515 bp672520 bp672521 bp672522 bp672525 bf672526 (by have qa0 : Int32.toInt 0 = 0 := (by decide); omega) (by have qa0 : Int32.toInt 0 = 0 := (by decide); omega) (by first | assumption | exact cDg_no (by omega) | exact cDg_no (by decide) | exact cDg_of (by assumption) (by omega) (by omega)) x672528 x672529) dr_cX14_next_236 ⟨wr_8_218, wr_1_32, wr_8_221, by decide, rfl, (Nat.le_of_ble_eq_true rfl), (Nat.le_of_ble_eq_true rfl)⟩ wr_8_220 wr_p_77 hmq672511 he673958 rfl (show 0 + ((16 * (p672513.toInt - g673664.toInt)).toNat) ≤ ((16 * (p672513.toInt - p672514.toInt)).toNat) by first | omega | decide) (show 0 + ((160 * (p672513.toInt - g673664.toInt)).toNat) ≤ ((160 * (p672513.toInt - p672514.toInt)).toNat) by first | omega | decide) (Nat.le_of_ble_eq_true rfl) (fun r673988 w673989 dc673985 ds673986 hp673987 => ?_) (fun _ _ _ _ _ z => z.elim)
                          obtain ⟨F673999, o673990, o673991, o673992, xt673998, rfl, rfl, hfr674001, he674002, he674003, hdc, hds, bo673990, bo673991, x673993, x673994, x673995, x673996, ht673997⟩ := hp673987
                          have hfr674004 : rFr [q672511] P672509 F672510 F673999 := rFr_call (rSub_rf (P := P672509)) hfr673959 hfr674001 (fun b hb hn => ⟨(nm_c (fun e => hn (e ▸ List.mem_cons_self)) nm_n), (nm_c (fun e => hn (e ▸ List.mem_cons_self)) nm_n)⟩)
                          have bo673992 := gB_any o673992
                          change G _ _ _ _ _ _ _ _ _ _ _
                          refine G_widen (cs' := (16 * (o673990.toInt - g673664.toInt)).toNat) (sl' := (160 * (o673990.toInt - g673664.toInt)).toNat) (by omega) (by omega) ?_
                          refine G_goto 247 dr_cX14_next_239 (by decide +kernel) ?_
                          exact G_vretA dr_cX14_next_247 rfl (show (16 * (o673990.toInt - g673664.toInt)).toNat ≤ ((16 * (p672513.toInt - p672514.toInt)).toNat) by omega) (show (160 * (o673990.toInt - g673664.toInt)).toNat ≤ ((160 * (p672513.toInt - p672514.toInt)).toNat) by omega) ⟨P672509, F673999, o673990, o673991, g673664, o673992, (D.2 1000 32), xt673998, rfl, rfl, (rSub_rf (P := P672509)), hfr674004, he674002, he674003, (by omega), (by omega), bo673990, (gB_w bo673991 (by decide) (by decide)), (gB_w bg673664' (by decide) (by decide)), (by have qa0 : Int32.toInt 0 = 0 := (by decide); omega), (Or.inr (by omega)), (by have qa0 : Int32.toInt 0 = 0 := (by decide); omega), (by first | exact tP_no (by omega) (by omega) | assumption), x673996, (fun R c1 c2 c3 c4 c5 c6 c7 c8 c9 c10 c11 c12 c13 => c8 g673664 z673908 o673969 o673979 xt673998 o673990 o673991 o673992 hx673946 r673961 hz673908 hJ673963 bo673969 ht673971 r673973 bo673979 ht673981 r673983 bo673990 bo673991 ht673997)⟩
                        · have r674005 : o673979.toInt = 0 := gj_eq hc673982 (show Int32.toInt 0 = 0 by decide)
                          have bo673979' : gB o673979 0 0 := ⟨by omega, by omega⟩
                          refine G_iload_n 0 dr_cX14_next_230 rfl ?_
                          refine G_if_eq 242 dr_cX14_next_231 (by decide +kernel) (fun _ => ?_) (fun hc => absurd hc (by decide))
                          refine G_aload_n 2 dr_cX14_next_242 rfl ?_
                          refine G_iload_n 1 dr_cX14_next_243 rfl ?_
                          refine Gw_callV (As := [.int z673908]) (gV_ok D I) (cp_668862_Reader_symbol l hl0 D I P672509 F673954 q672511 q672512 z673908 p672513 g673664 p672515 g673664 p672517 p672515 (D.2 1000 32) p672520 p672521 p672522 qo672523 qo672524 p672525 f672526 hmq672511 hmq672512 he673958 he673957 bz673908 (gB_w bp672513' (by decide) (by decide)) (gB_w bg673664' (by decide) (by decide)) bp672515 (gB_w bg673664' (by decide) (by decide)) bp672515 bp672520 bp672521 bp672522 bp672525 bf672526 (by have qa0 : Int32.toInt 0 = 0 := (by decide); omega) (by have qa0 : Int32.toInt 0 = 0 := (by decide); omega) x672528 x672529) dr_cX14_next_244 ⟨wr_8_223, wr_1_32, wr_8_226, by decide, rfl, (Nat.le_of_ble_eq_true rfl), (Nat.le_of_ble_eq_true rfl)⟩ wr_8_225 wr_p_78 hmq672511 he673958 rfl (show 0 + ((16 * (p672513.toInt - g673664.toInt)).toNat) ≤ ((16 * (p672513.toInt - p672514.toInt)).toNat) by first | omega | decide) (show 0 + ((160 * (p672513.toInt - g673664.toInt)).toNat) ≤ ((160 * (p672513.toInt - p672514.toInt)).toNat) by first | omega | decide) (Nat.le_of_ble_eq_true rfl) (fun r674009 w674010 dc674006 ds674007 hp674008 => ?_) (fun _ _ _ _ _ z => z.elim)
                          obtain ⟨P674020, F674021, o674011, o674012, q674013, xt674019, rfl, rfl, hsb674022, hfr674023, he674024, he674025, hdc, hds, bo674011, bo674012, x674014, x674015, x674016, x674017, ht674018⟩ := hp674008
                          have hm674026 : q672511 ∈ P674020 := hsb674022 q672511 hmq672511
                          have hm674027 : q672512 ∈ P674020 := hsb674022 q672512 hmq672512
                          have hsb674028 : rSub P672509 P674020 := rSub_tr (rSub_rf (P := P672509)) hsb674022
                          have hfr674029 : rFr [q672511] P672509 F672510 F674021 := rFr_call (rSub_rf (P := P672509)) hfr673959 hfr674023 (fun b hb hn => ⟨(nm_c (fun e => hn (e ▸ List.mem_cons_self)) nm_n), (nm_c (fun e => hn (e ▸ List.mem_cons_self)) nm_n)⟩)
                          change G _ _ _ _ _ _ _ _ _ _ _
                          refine G_widen (cs' := (16 * (o674011.toInt - g673664.toInt)).toNat) (sl' := (160 * (o674011.toInt - g673664.toInt)).toNat) (by omega) (by omega) ?_
                          exact G_vretA dr_cX14_next_247 rfl (show (16 * (o674011.toInt - g673664.toInt)).toNat ≤ ((16 * (p672513.toInt - p672514.toInt)).toNat) by omega) (show (160 * (o674011.toInt - g673664.toInt)).toNat ≤ ((160 * (p672513.toInt - p672514.toInt)).toNat) by omega) ⟨P674020, F674021, o674011, o674012, g673664, p672517, q674013, xt674019, rfl, rfl, hsb674028, hfr674029, he674024, he674025, (by omega), (by omega), (gB_w bo674011 (by decide) (by decide)), (gB_w bo674012 (by decide) (by decide)), (gB_w bg673664' (by decide) (by decide)), (by have qa0 : Int32.toInt 0 = 0 := (by decide); omega), (Or.inr (by omega)), (by have qa0 : Int32.toInt 0 = 0 := (by decide); omega), x674016, x674017, (fun R c1 c2 c3 c4 c5 c6 c7 c8 c9 c10 c11 c12 c13 => c9 g673664 z673908 o673969 o673979 xt674019 o674011 o674012 hx673946 r673961 hz673908 hJ673963 bo673969 ht673971 r673973 bo673979 ht673981 r674005 bo674011 bo674012 ht674018)⟩
                      · have r674030 : o673969.toInt ≠ 0 := gj_neq hc673972 (show Int32.toInt 0 = 0 by decide)
                        have bo673969' : gB o673969 1 1 := ⟨by omega, by omega⟩
                        have bi674031 : gB z673908 97 122 := isP_1 x673970 (by omega)
                        refine G_aload_n 2 dr_cX14_next_216 rfl ?_
                        refine Gw_callV (As := []) (gV_ok D I) (cp_669881_Reader_word l hl0 D I P672509 F673954 q672511 q672512 p672513 g673664 p672515 g673664 p672517 p672515 (D.2 1000 32) p672520 p672521 p672522 qo672523 qo672524 p672525 f672526 hmq672511 hmq672512 he673958 he673957 (gB_w bp672513' (by decide) (by decide)) (gB_w bg673664' (by decide) (by decide)) bp672515 (gB_w bg673664' (by decide) (by decide)) bp672515 bp672520 bp672521 bp672522 bp672525 bf672526 (by have qa0 : Int32.toInt 0 = 0 := (by decide); omega) (by have qa0 : Int32.toInt 0 = 0 := (by decide); omega) (by first | assumption | exact cLt_of (by assumption) (by omega) (by omega)) x672528 x672529) dr_cX14_next_217 ⟨wr_7_225, wr_1_32, wr_7_228, by decide, rfl, (Nat.le_of_ble_eq_true rfl), (Nat.le_of_ble_eq_true rfl)⟩ wr_7_227 wr_p_76 hmq672511 he673958 rfl (show 0 + ((16 * (p672513.toInt - g673664.toInt)).toNat) ≤ ((16 * (p672513.toInt - p672514.toInt)).toNat) by first | omega | decide) (show 0 + ((160 * (p672513.toInt - g673664.toInt)).toNat) ≤ ((160 * (p672513.toInt - p672514.toInt)).toNat) by first | omega | decide) (Nat.le_of_ble_eq_true rfl) (fun r674035 w674036 dc674032 ds674033 hp674034 => ?_) (fun _ _ _ _ _ z => z.elim)
                        obtain ⟨P674047, F674048, o674037, o674038, o674039, q674040, xt674046, rfl, rfl, hsb674049, hfr674050, he674051, he674052, hdc, hds, bo674037, bo674038, x674041, x674042, x674043, x674044, ht674045⟩ := hp674034
                        have hm674053 : q672511 ∈ P674047 := hsb674049 q672511 hmq672511
                        have hm674054 : q672512 ∈ P674047 := hsb674049 q672512 hmq672512
                        have hsb674055 : rSub P672509 P674047 := rSub_tr (rSub_rf (P := P672509)) hsb674049
                        have hfr674056 : rFr [q672511] P672509 F672510 F674048 := rFr_call (rSub_rf (P := P672509)) hfr673959 hfr674050 (fun b hb hn => ⟨(nm_c (fun e => hn (e ▸ List.mem_cons_self)) nm_n), (nm_c (fun e => hn (e ▸ List.mem_cons_self)) nm_n)⟩)
                        have bo674039 := gB_any o674039
                        change G _ _ _ _ _ _ _ _ _ _ _
                        refine G_widen (cs' := (16 * (o674037.toInt - g673664.toInt)).toNat) (sl' := (160 * (o674037.toInt - g673664.toInt)).toNat) (by omega) (by omega) ?_
                        refine G_goto 247 dr_cX14_next_220 (by decide +kernel) ?_
                        exact G_vretA dr_cX14_next_247 rfl (show (16 * (o674037.toInt - g673664.toInt)).toNat ≤ ((16 * (p672513.toInt - p672514.toInt)).toNat) by omega) (show (160 * (o674037.toInt - g673664.toInt)).toNat ≤ ((160 * (p672513.toInt - p672514.toInt)).toNat) by omega) ⟨P674047, F674048, o674037, o674038, g673664, o674039, q674040, xt674046, rfl, rfl, hsb674055, hfr674056, he674051, he674052, (by omega), (by omega), bo674037, (gB_w bo674038 (by decide) (by decide)), (gB_w bg673664' (by decide) (by decide)), (by have qa0 : Int32.toInt 0 = 0 := (by decide); omega), (Or.inr (by omega)), (by have qa0 : Int32.toInt 0 = 0 := (by decide); omega), x674043, x674044, (fun R c1 c2 c3 c4 c5 c6 c7 c8 c9 c10 c11 c12 c13 => c10 g673664 z673908 o673969 xt674046 o674037 o674038 o674039 hx673946 r673961 hz673908 hJ673963 bo673969 ht673971 r674030 bo674037 bo674038 ht674045)⟩
                    refine G_iload_n 0 dr_cX14_next_151 rfl ?_
                    refine G_bipush 45 dr_cX14_next_152 (by decide +kernel) ?_
                    refine G_icmp_ne 207 dr_cX14_next_154 (by decide +kernel) (fun hc674057 => ?_) (fun hc674057 => ?_)
                    · have r674058 : z673908.toInt ≠ 45 := gj_neq hc674057 (show Int32.toInt 45 = 45 by decide)
                      refine G_iconst 0 dr_cX14_next_207 (by decide +kernel) ?_
                      refine G_istore_n (L' := [(2, .int 0), (1, .int z673908), (0, .ref q672511)]) dr_cX14_next_208 (Nat.le_of_ble_eq_true rfl) rfl ?_
                      refine G_lv (L' := [(2, .int 0), (1, .int z673908), (0, .ref q672511)]) [0, 1, 2] rfl ?_
                      exact jn673962 (Or.inl r674058)
                    · have r674059 : z673908.toInt = 45 := gj_eq hc674057 (show Int32.toInt 45 = 45 by decide)
                      have bz673908' : gB z673908 45 45 := ⟨by omega, by omega⟩
                      refine G_aload_n 1 dr_cX14_next_157 rfl ?_
                      refine Gp_get 2 hmq672511 he673958 dr_cX14_next_158 (gk_X14 D I) (Nat.le_of_ble_eq_true rfl) wr_9_38 rfl ?_
                      refine G_iconst 1 dr_cX14_next_161 (by decide +kernel) ?_
                      refine G_iadd dr_cX14_next_162 (G_nam fun z674060 hz674060 => ?_)
                      have ez674060 : z674060.toInt = g673664.toInt + 1 := by rw [gI_add hz674060 bg673664' (gBl (show Int32.toInt 1 = 1 by decide)) (by decide) (by decide), show Int32.toInt 1 = 1 from by decide]
                      have bz674060 : gB z674060 1 8192 := gB_add (gI_add hz674060 bg673664' (gBl (show Int32.toInt 1 = 1 by decide)) (by decide) (by decide)) bg673664' (gBl (show Int32.toInt 1 = 1 by decide)) (by decide) (by decide)
                      refine G_aload_n 1 dr_cX14_next_163 rfl ?_
                      refine Gp_get 1 hmq672511 he673958 dr_cX14_next_164 (gk_X14 D I) (Nat.le_of_ble_eq_true rfl) wr_9_37 rfl ?_
                      refine G_icmp_ge 207 dr_cX14_next_167 (by decide +kernel) (fun hc674061 => ?_) (fun hc674061 => ?_)
                      · have r674062 : p672513.toInt ≤ z674060.toInt := gC_le hc674061
                        refine G_iconst 0 dr_cX14_next_207 (by decide +kernel) ?_
                        refine G_istore_n (L' := [(2, .int 0), (1, .int z673908), (0, .ref q672511)]) dr_cX14_next_208 (Nat.le_of_ble_eq_true rfl) rfl ?_
                        refine G_lv (L' := [(2, .int 0), (1, .int z673908), (0, .ref q672511)]) [0, 1, 2] rfl ?_
                        exact jn673962 (Or.inr (Or.inl ⟨z674060, r674059, ez674060, r674062⟩))
                      · have r674063 : z674060.toInt < p672513.toInt := gC_nle hc674061
                        have bz674060' : gB z674060 1 8191 := ⟨by omega, by omega⟩
                        have bp672513'' : gB p672513 2 8192 := ⟨by omega, by omega⟩
                        refine G_aload_n 1 dr_cX14_next_170 rfl ?_
                        refine Gp_get 0 hmq672511 he673958 dr_cX14_next_171 (gk_X14 D I) (Nat.le_of_ble_eq_true rfl) wr_9_36 rfl ?_
                        refine G_aload_n 1 dr_cX14_next_174 rfl ?_
                        refine Gp_get 2 hmq672511 he673958 dr_cX14_next_175 (gk_X14 D I) (Nat.le_of_ble_eq_true rfl) wr_9_38 rfl ?_
                        refine G_iconst 1 dr_cX14_next_178 (by decide +kernel) ?_
                        refine G_iadd dr_cX14_next_179 (G_eqi (y := z674060) hz674060.symm ?_)
                        refine Gp_bald 1 hmq672512 he673957 dr_cX14_next_180 rfl (gB_in bz674060' (by decide) (by decide)) (G_nam fun z674064 hz674064 => ?_)
                        have bz674064 : gB z674064 (-128) 127 := by rw [hz674064]; exact bf672526 _
                        refine Gw_callS (As := [.int z674064]) (gV_ok D I) (cp_668275_Reader_isDigit l hl0 D I P672509 F673954 z674064 ) dr_cX14_next_181 ⟨wr_7_219, wr_1_32, wr_7_221, by decide, rfl, (Nat.le_of_ble_eq_true rfl), (Nat.le_of_ble_eq_true rfl)⟩ wr_7_220 (show 0 + 0 ≤ ((16 * (p672513.toInt - p672514.toInt)).toNat) by first | omega | decide) (show 0 + 0 ≤ ((160 * (p672513.toInt - p672514.toInt)).toNat) by first | omega | decide) (Nat.le_of_ble_eq_true rfl) (fun r674068 w674069 dc674065 ds674066 hp674067 => ?_) (fun _ _ _ _ _ z => z.elim)
                        obtain ⟨o674070, rfl, rfl, hdc, hds, bo674070, x674071, ht674072⟩ := hp674067
                        change G _ _ _ _ _ _ _ (.int o674070 :: _) _ _ _
                        refine G_widen (cs' := 0) (sl' := 0) (by omega) (by omega) ?_
                        refine G_if_eq 207 dr_cX14_next_184 (by decide +kernel) (fun hc674073 => ?_) (fun hc674073 => ?_)
                        · have r674074 : o674070.toInt = 0 := gj_eq hc674073 (show Int32.toInt 0 = 0 by decide)
                          have bo674070' : gB o674070 0 0 := ⟨by omega, by omega⟩
                          refine G_iconst 0 dr_cX14_next_207 (by decide +kernel) ?_
                          refine G_istore_n (L' := [(2, .int 0), (1, .int z673908), (0, .ref q672511)]) dr_cX14_next_208 (Nat.le_of_ble_eq_true rfl) rfl ?_
                          refine G_lv (L' := [(2, .int 0), (1, .int z673908), (0, .ref q672511)]) [0, 1, 2] rfl ?_
                          exact jn673962 (Or.inr (Or.inr (Or.inl ⟨z674060, z674064, o674070, r674059, ez674060, r674063, hz674064, bz674064, bo674070, ht674072, r674074⟩)))
                        · have r674075 : o674070.toInt ≠ 0 := gj_neq hc674073 (show Int32.toInt 0 = 0 by decide)
                          have bo674070' : gB o674070 1 1 := ⟨by omega, by omega⟩
                          have bi674076 : gB z674064 48 57 := isP_1 x674071 (by omega)
                          refine G_aload_n 1 dr_cX14_next_187 rfl ?_
                          refine Gp_get 6 hmq672511 he673958 dr_cX14_next_188 (gk_X14 D I) (Nat.le_of_ble_eq_true rfl) wr_9_42 rfl ?_
                          refine G_iconst 2 dr_cX14_next_191 (by decide +kernel) ?_
                          refine G_icmp_eq 207 dr_cX14_next_192 (by decide +kernel) (fun hc674077 => ?_) (fun hc674077 => ?_)
                          · have r674078 : p672515.toInt = 2 := gj_eq hc674077 (show Int32.toInt 2 = 2 by decide)
                            have bp672515' : gB p672515 2 2 := ⟨by omega, by omega⟩
                            refine G_iconst 0 dr_cX14_next_207 (by decide +kernel) ?_
                            refine G_istore_n (L' := [(2, .int 0), (1, .int z673908), (0, .ref q672511)]) dr_cX14_next_208 (Nat.le_of_ble_eq_true rfl) rfl ?_
                            refine G_lv (L' := [(2, .int 0), (1, .int z673908), (0, .ref q672511)]) [0, 1, 2] rfl ?_
                            exact jn673962 (Or.inr (Or.inr (Or.inr (Or.inl ⟨z674060, z674064, o674070, r674059, ez674060, r674063, hz674064, bz674064, bo674070, ht674072, r674075, r674078⟩))))
                          · have r674079 : p672515.toInt ≠ 2 := gj_neq hc674077 (show Int32.toInt 2 = 2 by decide)
                            refine G_aload_n 1 dr_cX14_next_195 rfl ?_
                            refine Gp_get 6 hmq672511 he673958 dr_cX14_next_196 (gk_X14 D I) (Nat.le_of_ble_eq_true rfl) wr_9_42 rfl ?_
                            refine G_iconst 4 dr_cX14_next_199 (by decide +kernel) ?_
                            refine G_icmp_eq 207 dr_cX14_next_200 (by decide +kernel) (fun hc674080 => ?_) (fun hc674080 => ?_)
                            · have r674081 : p672515.toInt = 4 := gj_eq hc674080 (show Int32.toInt 4 = 4 by decide)
                              have bp672515' : gB p672515 4 4 := ⟨by omega, by omega⟩
                              refine G_iconst 0 dr_cX14_next_207 (by decide +kernel) ?_
                              refine G_istore_n (L' := [(2, .int 0), (1, .int z673908), (0, .ref q672511)]) dr_cX14_next_208 (Nat.le_of_ble_eq_true rfl) rfl ?_
                              refine G_lv (L' := [(2, .int 0), (1, .int z673908), (0, .ref q672511)]) [0, 1, 2] rfl ?_
                              exact jn673962 (Or.inr (Or.inr (Or.inr (Or.inr (⟨z674060, z674064, o674070, r674059, ez674060, r674063, hz674064, bz674064, bo674070, ht674072, r674075, r674079, r674081⟩)))))
                            · have r674082 : p672515.toInt ≠ 4 := gj_neq hc674080 (show Int32.toInt 4 = 4 by decide)
                              refine G_iconst 1 dr_cX14_next_203 (by decide +kernel) ?_
                              refine G_goto 208 dr_cX14_next_204 (by decide +kernel) ?_
                              refine G_istore_n (L' := [(2, .int 1), (1, .int z673908), (0, .ref q672511)]) dr_cX14_next_208 (Nat.le_of_ble_eq_true rfl) rfl ?_
                              clear bp672513' bz673908 jn673962 bz674060 bo674070'; try clear r674068; try clear w674069; try clear dc674065; try clear ds674066; try clear hp674067; try clear x674071
                              refine G_iload_n 1 dr_cX14_next_209 rfl ?_
                              refine Gw_callS (As := [.int z673908]) (gV_ok D I) (cp_670225_Reader_isLetter l hl0 D I P672509 F673954 z673908 ) dr_cX14_next_210 ⟨wr_7_222, wr_1_32, wr_7_224, by decide, rfl, (Nat.le_of_ble_eq_true rfl), (Nat.le_of_ble_eq_true rfl)⟩ wr_7_223 (show 0 + 0 ≤ ((16 * (p672513.toInt - p672514.toInt)).toNat) by first | omega | decide) (show 0 + 0 ≤ ((160 * (p672513.toInt - p672514.toInt)).toNat) by first | omega | decide) (Nat.le_of_ble_eq_true rfl) (fun r674086 w674087 dc674083 ds674084 hp674085 => ?_) (fun _ _ _ _ _ z => z.elim)
                              obtain ⟨o674088, rfl, rfl, hdc, hds, bo674088, x674089, ht674090⟩ := hp674085
                              change G _ _ _ _ _ _ _ (.int o674088 :: _) _ _ _
                              refine G_widen (cs' := 0) (sl' := 0) (by omega) (by omega) ?_
                              refine G_if_eq 223 dr_cX14_next_213 (by decide +kernel) (fun hc674091 => ?_) (fun hc674091 => ?_)
                              · have r674092 : o674088.toInt = 0 := gj_eq hc674091 (show Int32.toInt 0 = 0 by decide)
                                have bo674088' : gB o674088 0 0 := ⟨by omega, by omega⟩
                                clear bo674088'; try clear r674086; try clear w674087; try clear dc674083; try clear ds674084; try clear hp674085; try clear x674089
                                refine G_iload_n 1 dr_cX14_next_223 rfl ?_
                                refine Gw_callS (As := [.int z673908]) (gV_ok D I) (cp_668275_Reader_isDigit l hl0 D I P672509 F673954 z673908 ) dr_cX14_next_224 ⟨wr_7_219, wr_1_32, wr_7_221, by decide, rfl, (Nat.le_of_ble_eq_true rfl), (Nat.le_of_ble_eq_true rfl)⟩ wr_7_220 (show 0 + 0 ≤ ((16 * (p672513.toInt - p672514.toInt)).toNat) by first | omega | decide) (show 0 + 0 ≤ ((160 * (p672513.toInt - p672514.toInt)).toNat) by first | omega | decide) (Nat.le_of_ble_eq_true rfl) (fun r674096 w674097 dc674093 ds674094 hp674095 => ?_) (fun _ _ _ _ _ z => z.elim)
                                obtain ⟨o674098, rfl, rfl, hdc, hds, bo674098, x674099, ht674100⟩ := hp674095
                                change G _ _ _ _ _ _ _ (.int o674098 :: _) _ _ _
                                refine G_widen (cs' := 0) (sl' := 0) (by omega) (by omega) ?_
                                refine G_if_ne 234 dr_cX14_next_227 (by decide +kernel) (fun hc674101 => ?_) (fun hc674101 => ?_)
                                · have r674102 : o674098.toInt ≠ 0 := gj_neq hc674101 (show Int32.toInt 0 = 0 by decide)
                                  have bo674098' : gB o674098 1 1 := ⟨by omega, by omega⟩
                                  have bi674103 : gB z673908 48 57 := isP_1 x674099 (by omega)
                                  refine G_aload_n 2 dr_cX14_next_234 rfl ?_
                                  refine G_iload_n 0 dr_cX14_next_235 rfl ?_
                                  refine Gw_callV (As := [.int 1]) (gV_ok D I) (cp_668239_Reader_number l hl0 D I P672509 F673954 q672511 q672512 1 p672513 g673664 p672515 g673664 p672517 p672515 (D.2 1000 32) p672520 p672521 p672522 qo672523 qo672524 p672525 f672526 hmq672511 hmq672512 he673958 he673957 (gB_w (gBl (show Int32.toInt 1 = 1 by decide)) (by decide) (by decide)) (gB_w bp672513'' (by decide) (by decide)) (gB_w bg673664' (by decide) (by decide)) bp672515 (gB_w bg673664' (by decide) (by decide)) bp672515 bp672520 bp672521 bp672522 bp672525 bf672526 (by have qa0 : Int32.toInt 1 = 1 := (by decide); omega) (by have qa0 : Int32.toInt 1 = 1 := (by decide); omega) (by first | assumption | exact cDg_no (by omega) | exact cDg_no (by decide) | exact cDg_of (by assumption) (by omega) (by omega)) x672528 x672529) dr_cX14_next_236 ⟨wr_8_218, wr_1_32, wr_8_221, by decide, rfl, (Nat.le_of_ble_eq_true rfl), (Nat.le_of_ble_eq_true rfl)⟩ wr_8_220 wr_p_77 hmq672511 he673958 rfl (show 0 + ((16 * (p672513.toInt - g673664.toInt)).toNat) ≤ ((16 * (p672513.toInt - p672514.toInt)).toNat) by first | omega | decide) (show 0 + ((160 * (p672513.toInt - g673664.toInt)).toNat) ≤ ((160 * (p672513.toInt - p672514.toInt)).toNat) by first | omega | decide) (Nat.le_of_ble_eq_true rfl) (fun r674107 w674108 dc674104 ds674105 hp674106 => ?_) (fun _ _ _ _ _ z => z.elim)
                                  obtain ⟨F674118, o674109, o674110, o674111, xt674117, rfl, rfl, hfr674120, he674121, he674122, hdc, hds, bo674109, bo674110, x674112, x674113, x674114, x674115, ht674116⟩ := hp674106
                                  have hfr674123 : rFr [q672511] P672509 F672510 F674118 := rFr_call (rSub_rf (P := P672509)) hfr673959 hfr674120 (fun b hb hn => ⟨(nm_c (fun e => hn (e ▸ List.mem_cons_self)) nm_n), (nm_c (fun e => hn (e ▸ List.mem_cons_self)) nm_n)⟩)
                                  have bo674111 := gB_any o674111
                                  change G _ _ _ _ _ _ _ _ _ _ _
                                  refine G_widen (cs' := (16 * (o674109.toInt - g673664.toInt)).toNat) (sl' := (160 * (o674109.toInt - g673664.toInt)).toNat) (by omega) (by omega) ?_
                                  refine G_goto 247 dr_cX14_next_239 (by decide +kernel) ?_
                                  exact G_vretA dr_cX14_next_247 rfl (show (16 * (o674109.toInt - g673664.toInt)).toNat ≤ ((16 * (p672513.toInt - p672514.toInt)).toNat) by omega) (show (160 * (o674109.toInt - g673664.toInt)).toNat ≤ ((160 * (p672513.toInt - p672514.toInt)).toNat) by omega) ⟨P672509, F674118, o674109, o674110, g673664, o674111, (D.2 1000 32), xt674117, rfl, rfl, (rSub_rf (P := P672509)), hfr674123, he674121, he674122, (by omega), (by omega), bo674109, (gB_w bo674110 (by decide) (by decide)), (gB_w bg673664' (by decide) (by decide)), (by have qa0 : Int32.toInt 1 = 1 := (by decide); omega), (Or.inr (by omega)), (by have qa0 : Int32.toInt 1 = 1 := (by decide); omega), (by first | exact tP_no (by omega) (by omega) | assumption), x674115, (fun R c1 c2 c3 c4 c5 c6 c7 c8 c9 c10 c11 c12 c13 => c11 g673664 z673908 z674060 z674064 o674070 o674088 o674098 xt674117 o674109 o674110 o674111 hx673946 r673961 hz673908 r674059 ez674060 r674063 hz674064 bz674064 bo674070 ht674072 r674075 r674079 r674082 bo674088 ht674090 r674092 bo674098 ht674100 r674102 bo674109 bo674110 ht674116)⟩
                                · have r674124 : o674098.toInt = 0 := gj_eq hc674101 (show Int32.toInt 0 = 0 by decide)
                                  have bo674098' : gB o674098 0 0 := ⟨by omega, by omega⟩
                                  refine G_iload_n 0 dr_cX14_next_230 rfl ?_
                                  refine G_if_eq 242 dr_cX14_next_231 (by decide +kernel) (fun hc => absurd hc (by decide)) (fun _ => ?_)
                                  refine G_aload_n 2 dr_cX14_next_234 rfl ?_
                                  refine G_iload_n 0 dr_cX14_next_235 rfl ?_
                                  refine Gw_callV (As := [.int 1]) (gV_ok D I) (cp_668239_Reader_number l hl0 D I P672509 F673954 q672511 q672512 1 p672513 g673664 p672515 g673664 p672517 p672515 (D.2 1000 32) p672520 p672521 p672522 qo672523 qo672524 p672525 f672526 hmq672511 hmq672512 he673958 he673957 (gB_w (gBl (show Int32.toInt 1 = 1 by decide)) (by decide) (by decide)) (gB_w bp672513'' (by decide) (by decide)) (gB_w bg673664' (by decide) (by decide)) bp672515 (gB_w bg673664' (by decide) (by decide)) bp672515 bp672520 bp672521 bp672522 bp672525 bf672526 (by have qa0 : Int32.toInt 1 = 1 := (by decide); omega) (by have qa0 : Int32.toInt 1 = 1 := (by decide); omega) (by first | assumption | exact cDg_no (by omega) | exact cDg_no (by decide) | exact cDg_of (by assumption) (by omega) (by omega)) x672528 x672529) dr_cX14_next_236 ⟨wr_8_218, wr_1_32, wr_8_221, by decide, rfl, (Nat.le_of_ble_eq_true rfl), (Nat.le_of_ble_eq_true rfl)⟩ wr_8_220 wr_p_77 hmq672511 he673958 rfl (show 0 + ((16 * (p672513.toInt - g673664.toInt)).toNat) ≤ ((16 * (p672513.toInt - p672514.toInt)).toNat) by first | omega | decide) (show 0 + ((160 * (p672513.toInt - g673664.toInt)).toNat) ≤ ((160 * (p672513.toInt - p672514.toInt)).toNat) by first | omega | decide) (Nat.le_of_ble_eq_true rfl) (fun r674128 w674129 dc674125 ds674126 hp674127 => ?_) (fun _ _ _ _ _ z => z.elim)
                                  obtain ⟨F674139, o674130, o674131, o674132, xt674138, rfl, rfl, hfr674141, he674142, he674143, hdc, hds, bo674130, bo674131, x674133, x674134, x674135, x674136, ht674137⟩ := hp674127
                                  have hfr674144 : rFr [q672511] P672509 F672510 F674139 := rFr_call (rSub_rf (P := P672509)) hfr673959 hfr674141 (fun b hb hn => ⟨(nm_c (fun e => hn (e ▸ List.mem_cons_self)) nm_n), (nm_c (fun e => hn (e ▸ List.mem_cons_self)) nm_n)⟩)
                                  have bo674132 := gB_any o674132
                                  change G _ _ _ _ _ _ _ _ _ _ _
                                  refine G_widen (cs' := (16 * (o674130.toInt - g673664.toInt)).toNat) (sl' := (160 * (o674130.toInt - g673664.toInt)).toNat) (by omega) (by omega) ?_
                                  refine G_goto 247 dr_cX14_next_239 (by decide +kernel) ?_
                                  exact G_vretA dr_cX14_next_247 rfl (show (16 * (o674130.toInt - g673664.toInt)).toNat ≤ ((16 * (p672513.toInt - p672514.toInt)).toNat) by omega) (show (160 * (o674130.toInt - g673664.toInt)).toNat ≤ ((160 * (p672513.toInt - p672514.toInt)).toNat) by omega) ⟨P672509, F674139, o674130, o674131, g673664, o674132, (D.2 1000 32), xt674138, rfl, rfl, (rSub_rf (P := P672509)), hfr674144, he674142, he674143, (by omega), (by omega), bo674130, (gB_w bo674131 (by decide) (by decide)), (gB_w bg673664' (by decide) (by decide)), (by have qa0 : Int32.toInt 1 = 1 := (by decide); omega), (Or.inr (by omega)), (by have qa0 : Int32.toInt 1 = 1 := (by decide); omega), (by first | exact tP_no (by omega) (by omega) | assumption), x674136, (fun R c1 c2 c3 c4 c5 c6 c7 c8 c9 c10 c11 c12 c13 => c12 g673664 z673908 z674060 z674064 o674070 o674088 o674098 xt674138 o674130 o674131 o674132 hx673946 r673961 hz673908 r674059 ez674060 r674063 hz674064 bz674064 bo674070 ht674072 r674075 r674079 r674082 bo674088 ht674090 r674092 bo674098 ht674100 r674124 bo674130 bo674131 ht674137)⟩
                              · have r674145 : o674088.toInt ≠ 0 := gj_neq hc674091 (show Int32.toInt 0 = 0 by decide)
                                have bo674088' : gB o674088 1 1 := ⟨by omega, by omega⟩
                                have bi674146 : gB z673908 97 122 := isP_1 x674089 (by omega)
                                refine G_aload_n 2 dr_cX14_next_216 rfl ?_
                                refine Gw_callV (As := []) (gV_ok D I) (cp_669881_Reader_word l hl0 D I P672509 F673954 q672511 q672512 p672513 g673664 p672515 g673664 p672517 p672515 (D.2 1000 32) p672520 p672521 p672522 qo672523 qo672524 p672525 f672526 hmq672511 hmq672512 he673958 he673957 (gB_w bp672513'' (by decide) (by decide)) (gB_w bg673664' (by decide) (by decide)) bp672515 (gB_w bg673664' (by decide) (by decide)) bp672515 bp672520 bp672521 bp672522 bp672525 bf672526 (by have qa0 : Int32.toInt 1 = 1 := (by decide); omega) (by have qa0 : Int32.toInt 1 = 1 := (by decide); omega) (by first | assumption | exact cLt_of (by assumption) (by omega) (by omega)) x672528 x672529) dr_cX14_next_217 ⟨wr_7_225, wr_1_32, wr_7_228, by decide, rfl, (Nat.le_of_ble_eq_true rfl), (Nat.le_of_ble_eq_true rfl)⟩ wr_7_227 wr_p_76 hmq672511 he673958 rfl (show 0 + ((16 * (p672513.toInt - g673664.toInt)).toNat) ≤ ((16 * (p672513.toInt - p672514.toInt)).toNat) by first | omega | decide) (show 0 + ((160 * (p672513.toInt - g673664.toInt)).toNat) ≤ ((160 * (p672513.toInt - p672514.toInt)).toNat) by first | omega | decide) (Nat.le_of_ble_eq_true rfl) (fun r674150 w674151 dc674147 ds674148 hp674149 => ?_) (fun _ _ _ _ _ z => z.elim)
                                obtain ⟨P674162, F674163, o674152, o674153, o674154, q674155, xt674161, rfl, rfl, hsb674164, hfr674165, he674166, he674167, hdc, hds, bo674152, bo674153, x674156, x674157, x674158, x674159, ht674160⟩ := hp674149
                                have hm674168 : q672511 ∈ P674162 := hsb674164 q672511 hmq672511
                                have hm674169 : q672512 ∈ P674162 := hsb674164 q672512 hmq672512
                                have hsb674170 : rSub P672509 P674162 := rSub_tr (rSub_rf (P := P672509)) hsb674164
                                have hfr674171 : rFr [q672511] P672509 F672510 F674163 := rFr_call (rSub_rf (P := P672509)) hfr673959 hfr674165 (fun b hb hn => ⟨(nm_c (fun e => hn (e ▸ List.mem_cons_self)) nm_n), (nm_c (fun e => hn (e ▸ List.mem_cons_self)) nm_n)⟩)
                                have bo674154 := gB_any o674154
                                change G _ _ _ _ _ _ _ _ _ _ _
                                refine G_widen (cs' := (16 * (o674152.toInt - g673664.toInt)).toNat) (sl' := (160 * (o674152.toInt - g673664.toInt)).toNat) (by omega) (by omega) ?_
                                refine G_goto 247 dr_cX14_next_220 (by decide +kernel) ?_
                                exact G_vretA dr_cX14_next_247 rfl (show (16 * (o674152.toInt - g673664.toInt)).toNat ≤ ((16 * (p672513.toInt - p672514.toInt)).toNat) by omega) (show (160 * (o674152.toInt - g673664.toInt)).toNat ≤ ((160 * (p672513.toInt - p672514.toInt)).toNat) by omega) ⟨P674162, F674163, o674152, o674153, g673664, o674154, q674155, xt674161, rfl, rfl, hsb674170, hfr674171, he674166, he674167, (by omega), (by omega), bo674152, (gB_w bo674153 (by decide) (by decide)), (gB_w bg673664' (by decide) (by decide)), (by have qa0 : Int32.toInt 1 = 1 := (by decide); omega), (Or.inr (by omega)), (by have qa0 : Int32.toInt 1 = 1 := (by decide); omega), x674158, x674159, (fun R c1 c2 c3 c4 c5 c6 c7 c8 c9 c10 c11 c12 c13 => c13 g673664 z673908 z674060 z674064 o674070 o674088 xt674161 o674152 o674153 o674154 hx673946 r673961 hz673908 r674059 ez674060 r674063 hz674064 bz674064 bo674070 ht674072 r674075 r674079 r674082 bo674088 ht674090 r674145 bo674152 bo674153 ht674160)⟩
                  · have r674172 : g673664.toInt = p672513.toInt := gC_eq hc673960
                    have bg673664'' : gB g673664 1 8191 := ⟨by omega, by omega⟩
                    have bp672513'' : gB p672513 1 8191 := ⟨by omega, by omega⟩
                    refine G_aload_n 1 dr_cX14_next_135 rfl ?_
                    refine G_iconst 0 dr_cX14_next_136 (by decide +kernel) ?_
                    refine Gp_put 3 hmq672511 he673958 dr_cX14_next_137 (gk_X14 D I) (Nat.le_of_ble_eq_true rfl) wr_9_39 rfl rfl rfl (Nat.le_of_ble_eq_true rfl) (fun F674173 e674174 n674175 => ?_)
                    have he674176 : F674173 q672512 = .inl (I .byte, 8192, .inl f672526) := (n674175 q672512 (rn_ao he673957 he673958)).trans he673957
                    have he674177 : F674173 q672511 = .inr (19, [.ref q672512, .int p672513, .int g673664, .int 0, .int g673664, .int p672517, .int p672515, .ref (D.2 1000 32), .int p672520, .int p672521, .int p672522, .ref qo672523, .ref qo672524, .int p672525]) := e674174
                    have hfr674178 : rFr [q672511] P672509 F672510 F674173 := rFr_put' List.mem_cons_self hfr673959 n674175
                    exact G_vretA dr_cX14_next_140 rfl (show 0 ≤ ((16 * (p672513.toInt - p672514.toInt)).toNat) by omega) (show 0 ≤ ((160 * (p672513.toInt - p672514.toInt)).toNat) by omega) ⟨P672509, F674173, g673664, 0, g673664, p672517, (D.2 1000 32), (0, fun _ => 0), rfl, rfl, (rSub_rf (P := P672509)), hfr674178, he674177, he674176, (by omega), (by omega), (gB_w bg673664'' (by decide) (by decide)), (gB_w (gBl (show Int32.toInt 0 = 0 by decide)) (by decide) (by decide)), (gB_w bg673664'' (by decide) (by decide)), (by have qa0 : Int32.toInt 0 = 0 := (by decide); omega), (Or.inl (by decide)), (by have qa0 : Int32.toInt 0 = 0 := (by decide); omega), (tP_no (by decide) (by decide)), (vP_no (by decide) (by decide)), (fun R c1 c2 c3 c4 c5 c6 c7 c8 c9 c10 c11 c12 c13 => c7 g673664 hx673946 r674172)⟩
                · have r674179 : z673908.toInt = 32 := gj_eq hc673944 (show Int32.toInt 32 = 32 by decide)
                  have bz673908' : gB z673908 32 32 := ⟨by omega, by omega⟩
                  refine G_aload_n 1 dr_cX14_next_97 rfl ?_
                  refine G_dup dr_cX14_next_98 rfl ?_
                  refine Gp_get 2 hmq672511 he673666 dr_cX14_next_99 (gk_X14 D I) (Nat.le_of_ble_eq_true rfl) wr_9_38 rfl ?_
                  refine G_iconst 1 dr_cX14_next_102 (by decide +kernel) ?_
                  refine G_iadd dr_cX14_next_103 (G_nam fun z674180 hz674180 => ?_)
                  have ez674180 : z674180.toInt = g673664.toInt + 1 := by rw [gI_add hz674180 bg673664' (gBl (show Int32.toInt 1 = 1 by decide)) (by decide) (by decide), show Int32.toInt 1 = 1 from by decide]
                  have bz674180 : gB z674180 1 8192 := gB_add (gI_add hz674180 bg673664' (gBl (show Int32.toInt 1 = 1 by decide)) (by decide) (by decide)) bg673664' (gBl (show Int32.toInt 1 = 1 by decide)) (by decide) (by decide)
                  refine Gp_put 2 hmq672511 he673666 dr_cX14_next_104 (gk_X14 D I) (Nat.le_of_ble_eq_true rfl) wr_9_38 rfl rfl rfl (Nat.le_of_ble_eq_true rfl) (fun F674181 e674182 n674183 => ?_)
                  have he674184 : F674181 q672512 = .inl (I .byte, 8192, .inl f672526) := (n674183 q672512 (rn_ao he673667 he673666)).trans he673667
                  have he674185 : F674181 q672511 = .inr (19, [.ref q672512, .int p672513, .int z674180, .int p672515, .int p672516, .int p672517, .int p672515, .ref qo672519, .int p672520, .int p672521, .int p672522, .ref qo672523, .ref qo672524, .int p672525]) := e674182
                  have hfr674186 : rFr [q672511] P672509 F672510 F674181 := rFr_put' List.mem_cons_self hfr673668 n674183
                  have x674187 : g673664.toInt < z674180.toInt := by first | omega | exact chNe (a := g673664) (b := z674180) (by assumption) (by assumption) (by omega) (by omega)
                  refine G_goto 8 dr_cX14_next_107 (by decide +kernel) ?_
                  refine G_lv (L' := [(0, .ref q672511)]) [1] rfl ?_
                  exact ih8_673670 F674181 z674180 (gB_w bz674180 (by decide) (by decide)) hfr674186 he674185 he674184 (by omega) (by omega) (fun k e1 ht => kt8_673670 k e1 (fun R c1 c2 c3 c4 c5 c6 c7 => c6 g673664 z673908 z674180 k e1 bg673664 r673907 hz673908 bz673908 r673910 r673921 r673932 r673943 r674179 ez674180 (ht R c1 c2 c3 c4 c5 c6 c7))) (by omega)
        · have r674188 : z673908.toInt = 59 := gj_eq hc673909 (show Int32.toInt 59 = 59 by decide)
          have bz673908' : gB z673908 59 59 := ⟨by omega, by omega⟩
          have hlp35_674225 : ∀ (n35_674225 : Nat) (F674219 : Nat → va_E) (g674218 : Int32), gB g674218 0 8192 → rFr [q672511] P672509 F672510 F674219 → F674219 q672511 = .inr (19, [.ref q672512, .int p672513, .int g674218, .int p672515, .int p672516, .int p672517, .int p672515, .ref qo672519, .int p672520, .int p672521, .int p672522, .ref qo672523, .ref qo672524, .int p672525]) → F674219 q672512 = .inl (I .byte, 8192, .inl f672526) → p672514.toInt ≤ g674218.toInt → g674218.toInt ≤ p672513.toInt → g673664.toInt ≤ g674218.toInt → (∀ (k : Nat) (e1 : Int32), tl_RReader_next_35 p672513 f672526 g674218 k e1 → tl_RReader_next_35 p672513 f672526 g673664 k e1) → ((p672513.toInt : Int) + 1 - g674218.toInt).toNat < n35_674225 → G (gV D I) l (gRm 7 155 ((16 * (p672513.toInt - p672514.toInt)).toNat) ((160 * (p672513.toInt - p672514.toInt)).toNat)) (gMA (gV D I) (pp_672530_Reader_next D I P672509 F672510 q672511 q672512 p672513 p672514 p672515 p672516 p672517 p672518 qo672519 p672520 p672521 p672522 qo672523 qo672524 p672525 f672526) gNA ((16 * (p672513.toInt - p672514.toInt)).toNat) ((160 * (p672513.toInt - p672514.toInt)).toNat)) ky_672530_Reader_next 35 [(1, .int z673908), (0, .ref q672511)] [] (va_pl P672509 F674219) 0 0 := by
            intro n35_674225
            induction n35_674225 with
            | zero => intro F674219 g674218 bg674218 hfr674222 he674220 he674221 x674223 x674224 x674225 kt35_674225 hm35_674225; exact absurd hm35_674225 (Nat.not_lt_zero _)
            | succ n35_674225 ih35_674225 =>
              intro F674219 g674218 bg674218 hfr674222 he674220 he674221 x674223 x674224 x674225 kt35_674225 hm35_674225
              refine G_aload_n 1 dr_cX14_next_35 rfl ?_
              refine Gp_get 2 hmq672511 he674220 dr_cX14_next_36 (gk_X14 D I) (Nat.le_of_ble_eq_true rfl) wr_9_38 rfl ?_
              refine G_aload_n 1 dr_cX14_next_39 rfl ?_
              refine Gp_get 1 hmq672511 he674220 dr_cX14_next_40 (gk_X14 D I) (Nat.le_of_ble_eq_true rfl) wr_9_37 rfl ?_
              refine G_icmp_ge 107 dr_cX14_next_43 (by decide +kernel) (fun hc674226 => ?_) (fun hc674226 => ?_)
              · have r674227 : p672513.toInt ≤ g674218.toInt := gC_le hc674226
                have bg674218' : gB g674218 1 8192 := ⟨by omega, by omega⟩
                have hx674228 : tl_RReader_next_35 p672513 f672526 g673664 107 g674218 := kt35_674225 107 g674218 (fun R c1 c2 c3 => c1 g674218 bg674218 r674227)
                have x674229 : g673664.toInt < g674218.toInt := by first | omega | exact chNe (a := g673664) (b := g674218) (by assumption) (by assumption) (by omega) (by omega)
                refine G_goto 8 dr_cX14_next_107 (by decide +kernel) ?_
                refine G_lv (L' := [(0, .ref q672511)]) [1] rfl ?_
                exact ih8_673670 F674219 g674218 (gB_w bg674218' (by decide) (by decide)) hfr674222 he674220 he674221 (by omega) (by omega) (fun k e1 ht => kt8_673670 k e1 (fun R c1 c2 c3 c4 c5 c6 c7 => c7 g673664 z673908 g674218 k e1 bg673664 r673907 hz673908 bz673908 r674188 hx674228 (ht R c1 c2 c3 c4 c5 c6 c7))) (by omega)
              · have r674230 : g674218.toInt < p672513.toInt := gC_nle hc674226
                have bg674218' : gB g674218 0 8191 := ⟨by omega, by omega⟩
                refine G_aload_n 1 dr_cX14_next_46 rfl ?_
                refine Gp_get 0 hmq672511 he674220 dr_cX14_next_47 (gk_X14 D I) (Nat.le_of_ble_eq_true rfl) wr_9_36 rfl ?_
                refine G_aload_n 1 dr_cX14_next_50 rfl ?_
                refine Gp_get 2 hmq672511 he674220 dr_cX14_next_51 (gk_X14 D I) (Nat.le_of_ble_eq_true rfl) wr_9_38 rfl ?_
                refine Gp_bald 1 hmq672512 he674221 dr_cX14_next_54 rfl (gB_in bg674218' (by decide) (by decide)) (G_nam fun z674231 hz674231 => ?_)
                have bz674231 : gB z674231 (-128) 127 := by rw [hz674231]; exact bf672526 _
                refine G_bipush 10 dr_cX14_next_55 (by decide +kernel) ?_
                refine G_icmp_eq 107 dr_cX14_next_57 (by decide +kernel) (fun hc674232 => ?_) (fun hc674232 => ?_)
                · have r674233 : z674231.toInt = 10 := gj_eq hc674232 (show Int32.toInt 10 = 10 by decide)
                  have bz674231' : gB z674231 10 10 := ⟨by omega, by omega⟩
                  have hx674234 : tl_RReader_next_35 p672513 f672526 g673664 107 g674218 := kt35_674225 107 g674218 (fun R c1 c2 c3 => c2 g674218 z674231 bg674218 r674230 hz674231 bz674231 r674233)
                  have x674235 : g673664.toInt < g674218.toInt := by first | omega | exact chNe (a := g673664) (b := g674218) (by assumption) (by assumption) (by omega) (by omega)
                  refine G_goto 8 dr_cX14_next_107 (by decide +kernel) ?_
                  refine G_lv (L' := [(0, .ref q672511)]) [1] rfl ?_
                  exact ih8_673670 F674219 g674218 (gB_w bg674218' (by decide) (by decide)) hfr674222 he674220 he674221 (by omega) (by omega) (fun k e1 ht => kt8_673670 k e1 (fun R c1 c2 c3 c4 c5 c6 c7 => c7 g673664 z673908 g674218 k e1 bg673664 r673907 hz673908 bz673908 r674188 hx674234 (ht R c1 c2 c3 c4 c5 c6 c7))) (by omega)
                · have r674236 : z674231.toInt ≠ 10 := gj_neq hc674232 (show Int32.toInt 10 = 10 by decide)
                  refine G_aload_n 1 dr_cX14_next_60 rfl ?_
                  refine G_dup dr_cX14_next_61 rfl ?_
                  refine Gp_get 2 hmq672511 he674220 dr_cX14_next_62 (gk_X14 D I) (Nat.le_of_ble_eq_true rfl) wr_9_38 rfl ?_
                  refine G_iconst 1 dr_cX14_next_65 (by decide +kernel) ?_
                  refine G_iadd dr_cX14_next_66 (G_nam fun z674237 hz674237 => ?_)
                  have ez674237 : z674237.toInt = g674218.toInt + 1 := by rw [gI_add hz674237 bg674218' (gBl (show Int32.toInt 1 = 1 by decide)) (by decide) (by decide), show Int32.toInt 1 = 1 from by decide]
                  have bz674237 : gB z674237 1 8192 := gB_add (gI_add hz674237 bg674218' (gBl (show Int32.toInt 1 = 1 by decide)) (by decide) (by decide)) bg674218' (gBl (show Int32.toInt 1 = 1 by decide)) (by decide) (by decide)
                  refine Gp_put 2 hmq672511 he674220 dr_cX14_next_67 (gk_X14 D I) (Nat.le_of_ble_eq_true rfl) wr_9_38 rfl rfl rfl (Nat.le_of_ble_eq_true rfl) (fun F674238 e674239 n674240 => ?_)
                  have he674241 : F674238 q672512 = .inl (I .byte, 8192, .inl f672526) := (n674240 q672512 (rn_ao he674221 he674220)).trans he674221
                  have he674242 : F674238 q672511 = .inr (19, [.ref q672512, .int p672513, .int z674237, .int p672515, .int p672516, .int p672517, .int p672515, .ref qo672519, .int p672520, .int p672521, .int p672522, .ref qo672523, .ref qo672524, .int p672525]) := e674239
                  have hfr674243 : rFr [q672511] P672509 F672510 F674238 := rFr_put' List.mem_cons_self hfr674222 n674240
                  refine G_goto 35 dr_cX14_next_70 (by decide +kernel) ?_
                  exact ih35_674225 F674238 z674237 (gB_w bz674237 (by decide) (by decide)) hfr674243 he674242 he674241 (by omega) (by omega) (by omega) (fun k e1 ht => kt35_674225 k e1 (fun R c1 c2 c3 => c3 g674218 z674231 z674237 k e1 bg674218 r674230 hz674231 bz674231 r674236 ez674237 (ht R c1 c2 c3))) (by omega)
          exact hlp35_674225 (((p672513.toInt : Int) + 1 - g673664.toInt).toNat + 1) F673665 g673664 (gB_w bg673664' (by decide) (by decide)) hfr673668 he673666 he673667 (by omega) (by omega) (by omega) (fun k e1 ht => ht) (Nat.lt_succ_self _)
  exact hlp8_673670 (((p672513.toInt : Int) + 1 - p672514.toInt).toNat + 1) F672531 p672514 bp672514 hfr672536 he672535 he672534 (by omega) (by omega) (fun k e1 ht => ht) (Nat.lt_succ_self _)
