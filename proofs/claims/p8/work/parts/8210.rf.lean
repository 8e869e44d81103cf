theorem dr_cX14_next_0 : decode cX14_next 0 = .ok (.aload_n 0, 1) := by decide +kernel
theorem dr_cX14_next_1 : decode cX14_next 1 = .ok (.aload_n 0, 1) := by decide +kernel
theorem dr_cX14_next_2 : decode cX14_next 2 = .ok (.getfield 38, 3) := by decide +kernel
theorem dr_cX14_next_5 : decode cX14_next 5 = .ok (.putfield 41, 3) := by decide +kernel
theorem wr_9_42 : (Jvm.Cond.fieldLink "SpillForgeModel$Reader" (41 : Nat) "SpillForgeModel$Reader" "before" "I") ∈ gw := gw_9 42 rfl rfl
theorem dr_cX14_next_8 : decode cX14_next 8 = .ok (.aload_n 0, 1) := by decide +kernel
theorem dr_cX14_next_9 : decode cX14_next 9 = .ok (.getfield 44, 3) := by decide +kernel
theorem dr_cX14_next_12 : decode cX14_next 12 = .ok (.aload_n 0, 1) := by decide +kernel
theorem dr_cX14_next_13 : decode cX14_next 13 = .ok (.getfield 32, 3) := by decide +kernel
theorem dr_cX14_next_16 : decode cX14_next 16 = .ok (.if_icmp .ge 94, 3) := by decide +kernel
theorem dr_cX14_next_110 : decode cX14_next 110 = .ok (.aload_n 0, 1) := by decide +kernel
theorem dr_cX14_next_111 : decode cX14_next 111 = .ok (.aload_n 0, 1) := by decide +kernel
theorem dr_cX14_next_112 : decode cX14_next 112 = .ok (.getfield 44, 3) := by decide +kernel
theorem dr_cX14_next_115 : decode cX14_next 115 = .ok (.putfield 47, 3) := by decide +kernel
theorem wr_9_40 : (Jvm.Cond.fieldLink "SpillForgeModel$Reader" (47 : Nat) "SpillForgeModel$Reader" "place" "I") ∈ gw := gw_9 40 rfl rfl
theorem dr_cX14_next_118 : decode cX14_next 118 = .ok (.aload_n 0, 1) := by decide +kernel
theorem dr_cX14_next_119 : decode cX14_next 119 = .ok (.ldc 9, 2) := by decide +kernel
theorem dr_cX14_next_121 : decode cX14_next 121 = .ok (.putfield 11, 3) := by decide +kernel
theorem dr_cX14_next_124 : decode cX14_next 124 = .ok (.aload_n 0, 1) := by decide +kernel
theorem dr_cX14_next_125 : decode cX14_next 125 = .ok (.getfield 44, 3) := by decide +kernel
theorem dr_cX14_next_128 : decode cX14_next 128 = .ok (.aload_n 0, 1) := by decide +kernel
theorem dr_cX14_next_129 : decode cX14_next 129 = .ok (.getfield 32, 3) := by decide +kernel
theorem dr_cX14_next_132 : decode cX14_next 132 = .ok (.if_icmp .ne 9, 3) := by decide +kernel
theorem dr_cX14_next_141 : decode cX14_next 141 = .ok (.aload_n 0, 1) := by decide +kernel
theorem dr_cX14_next_142 : decode cX14_next 142 = .ok (.getfield 28, 3) := by decide +kernel
theorem dr_cX14_next_145 : decode cX14_next 145 = .ok (.aload_n 0, 1) := by decide +kernel
theorem dr_cX14_next_146 : decode cX14_next 146 = .ok (.getfield 44, 3) := by decide +kernel
theorem dr_cX14_next_149 : decode cX14_next 149 = .ok (.baload, 1) := by decide +kernel
theorem dr_cX14_next_150 : decode cX14_next 150 = .ok (.istore_n 1, 1) := by decide +kernel
theorem dr_cX14_next_209 : decode cX14_next 209 = .ok (.iload_n 1, 1) := by decide +kernel
theorem dr_cX14_next_210 : decode cX14_next 210 = .ok (.invokestatic 54, 3) := by decide +kernel
theorem dr_cX14_next_213 : decode cX14_next 213 = .ok (.ifCond .eq 10, 3) := by decide +kernel
theorem dr_cX14_next_223 : decode cX14_next 223 = .ok (.iload_n 1, 1) := by decide +kernel
theorem dr_cX14_next_224 : decode cX14_next 224 = .ok (.invokestatic 50, 3) := by decide +kernel
theorem dr_cX14_next_227 : decode cX14_next 227 = .ok (.ifCond .ne 7, 3) := by decide +kernel
theorem dr_cX14_next_234 : decode cX14_next 234 = .ok (.aload_n 0, 1) := by decide +kernel
theorem dr_cX14_next_235 : decode cX14_next 235 = .ok (.iload_n 2, 1) := by decide +kernel
theorem dr_cX14_next_236 : decode cX14_next 236 = .ok (.invokevirtual 60, 3) := by decide +kernel
theorem wr_8_218 : (Jvm.Cond.methodLink "SpillForgeModel$Reader" (60 : Nat) ({ cls := "SpillForgeModel$Reader", name := "number", desc := "(Z)V" } : Jvm.MethodName)) ∈ gw := gw_8 218 rfl rfl
theorem wr_8_221 : (Jvm.Cond.code ({ cls := "SpillForgeModel$Reader", name := "number", desc := "(Z)V" } : Jvm.MethodName) prog_17_method_6_code (4 : Nat) (Option.none : Option Jvm.ClassFile.FieldType)) ∈ gw := gw_8 221 rfl rfl
theorem wr_8_220 : (Jvm.Cond.instanceMethod ({ cls := "SpillForgeModel$Reader", name := "number", desc := "(Z)V" } : Jvm.MethodName)) ∈ gw := gw_8 220 rfl rfl
theorem wr_p_77 : Cond.selects "SpillForgeModel$Reader" ⟨"SpillForgeModel$Reader", "number", "(Z)V"⟩ ⟨"SpillForgeModel$Reader", "number", "(Z)V"⟩ ∈ gw := gw_p _ 77 rfl rfl rfl
theorem dr_cX14_next_239 : decode cX14_next 239 = .ok (.goto 8, 3) := by decide +kernel
theorem dr_cX14_next_247 : decode cX14_next 247 = .ok (.return_, 1) := by decide +kernel
theorem dr_cX14_next_230 : decode cX14_next 230 = .ok (.iload_n 2, 1) := by decide +kernel
theorem dr_cX14_next_231 : decode cX14_next 231 = .ok (.ifCond .eq 11, 3) := by decide +kernel
theorem dr_cX14_next_242 : decode cX14_next 242 = .ok (.aload_n 0, 1) := by decide +kernel
theorem dr_cX14_next_243 : decode cX14_next 243 = .ok (.iload_n 1, 1) := by decide +kernel
theorem dr_cX14_next_244 : decode cX14_next 244 = .ok (.invokevirtual 64, 3) := by decide +kernel
theorem wr_8_223 : (Jvm.Cond.methodLink "SpillForgeModel$Reader" (64 : Nat) ({ cls := "SpillForgeModel$Reader", name := "symbol", desc := "(I)V" } : Jvm.MethodName)) ∈ gw := gw_8 223 rfl rfl
theorem wr_8_226 : (Jvm.Cond.code ({ cls := "SpillForgeModel$Reader", name := "symbol", desc := "(I)V" } : Jvm.MethodName) prog_17_method_7_code (4 : Nat) (Option.none : Option Jvm.ClassFile.FieldType)) ∈ gw := gw_8 226 rfl rfl
theorem wr_8_225 : (Jvm.Cond.instanceMethod ({ cls := "SpillForgeModel$Reader", name := "symbol", desc := "(I)V" } : Jvm.MethodName)) ∈ gw := gw_8 225 rfl rfl
theorem wr_p_78 : Cond.selects "SpillForgeModel$Reader" ⟨"SpillForgeModel$Reader", "symbol", "(I)V"⟩ ⟨"SpillForgeModel$Reader", "symbol", "(I)V"⟩ ∈ gw := gw_p _ 78 rfl rfl rfl
theorem dr_cX14_next_216 : decode cX14_next 216 = .ok (.aload_n 0, 1) := by decide +kernel
theorem dr_cX14_next_217 : decode cX14_next 217 = .ok (.invokevirtual 57, 3) := by decide +kernel
theorem wr_7_225 : (Jvm.Cond.methodLink "SpillForgeModel$Reader" (57 : Nat) ({ cls := "SpillForgeModel$Reader", name := "word", desc := "()V" } : Jvm.MethodName)) ∈ gw := gw_7 225 rfl rfl
theorem wr_7_228 : (Jvm.Cond.code ({ cls := "SpillForgeModel$Reader", name := "word", desc := "()V" } : Jvm.MethodName) prog_17_method_5_code (4 : Nat) (Option.none : Option Jvm.ClassFile.FieldType)) ∈ gw := gw_7 228 rfl rfl
theorem wr_7_227 : (Jvm.Cond.instanceMethod ({ cls := "SpillForgeModel$Reader", name := "word", desc := "()V" } : Jvm.MethodName)) ∈ gw := gw_7 227 rfl rfl
theorem wr_p_76 : Cond.selects "SpillForgeModel$Reader" ⟨"SpillForgeModel$Reader", "word", "()V"⟩ ⟨"SpillForgeModel$Reader", "word", "()V"⟩ ∈ gw := gw_p _ 76 rfl rfl rfl
theorem dr_cX14_next_220 : decode cX14_next 220 = .ok (.goto 27, 3) := by decide +kernel
theorem dr_cX14_next_151 : decode cX14_next 151 = .ok (.iload_n 1, 1) := by decide +kernel
theorem dr_cX14_next_152 : decode cX14_next 152 = .ok (.bipush 45, 2) := by decide +kernel
theorem dr_cX14_next_154 : decode cX14_next 154 = .ok (.if_icmp .ne 53, 3) := by decide +kernel
theorem dr_cX14_next_207 : decode cX14_next 207 = .ok (.iconst 0, 1) := by decide +kernel
theorem dr_cX14_next_208 : decode cX14_next 208 = .ok (.istore_n 2, 1) := by decide +kernel
theorem dr_cX14_next_157 : decode cX14_next 157 = .ok (.aload_n 0, 1) := by decide +kernel
theorem dr_cX14_next_158 : decode cX14_next 158 = .ok (.getfield 44, 3) := by decide +kernel
theorem dr_cX14_next_161 : decode cX14_next 161 = .ok (.iconst 1, 1) := by decide +kernel
theorem dr_cX14_next_162 : decode cX14_next 162 = .ok (.iadd, 1) := by decide +kernel
theorem dr_cX14_next_163 : decode cX14_next 163 = .ok (.aload_n 0, 1) := by decide +kernel
theorem dr_cX14_next_164 : decode cX14_next 164 = .ok (.getfield 32, 3) := by decide +kernel
theorem dr_cX14_next_167 : decode cX14_next 167 = .ok (.if_icmp .ge 40, 3) := by decide +kernel
theorem dr_cX14_next_170 : decode cX14_next 170 = .ok (.aload_n 0, 1) := by decide +kernel
theorem dr_cX14_next_171 : decode cX14_next 171 = .ok (.getfield 28, 3) := by decide +kernel
theorem dr_cX14_next_174 : decode cX14_next 174 = .ok (.aload_n 0, 1) := by decide +kernel
theorem dr_cX14_next_175 : decode cX14_next 175 = .ok (.getfield 44, 3) := by decide +kernel
theorem dr_cX14_next_178 : decode cX14_next 178 = .ok (.iconst 1, 1) := by decide +kernel
theorem dr_cX14_next_179 : decode cX14_next 179 = .ok (.iadd, 1) := by decide +kernel
theorem dr_cX14_next_180 : decode cX14_next 180 = .ok (.baload, 1) := by decide +kernel
theorem dr_cX14_next_181 : decode cX14_next 181 = .ok (.invokestatic 50, 3) := by decide +kernel
theorem dr_cX14_next_184 : decode cX14_next 184 = .ok (.ifCond .eq 23, 3) := by decide +kernel
theorem dr_cX14_next_187 : decode cX14_next 187 = .ok (.aload_n 0, 1) := by decide +kernel
theorem dr_cX14_next_188 : decode cX14_next 188 = .ok (.getfield 41, 3) := by decide +kernel
theorem dr_cX14_next_191 : decode cX14_next 191 = .ok (.iconst 2, 1) := by decide +kernel
theorem dr_cX14_next_192 : decode cX14_next 192 = .ok (.if_icmp .eq 15, 3) := by decide +kernel
theorem dr_cX14_next_195 : decode cX14_next 195 = .ok (.aload_n 0, 1) := by decide +kernel
theorem dr_cX14_next_196 : decode cX14_next 196 = .ok (.getfield 41, 3) := by decide +kernel
theorem dr_cX14_next_199 : decode cX14_next 199 = .ok (.iconst 4, 1) := by decide +kernel
theorem dr_cX14_next_200 : decode cX14_next 200 = .ok (.if_icmp .eq 7, 3) := by decide +kernel
theorem dr_cX14_next_203 : decode cX14_next 203 = .ok (.iconst 1, 1) := by decide +kernel
theorem dr_cX14_next_204 : decode cX14_next 204 = .ok (.goto 4, 3) := by decide +kernel
theorem dr_cX14_next_135 : decode cX14_next 135 = .ok (.aload_n 0, 1) := by decide +kernel
theorem dr_cX14_next_136 : decode cX14_next 136 = .ok (.iconst 0, 1) := by decide +kernel
theorem dr_cX14_next_137 : decode cX14_next 137 = .ok (.putfield 38, 3) := by decide +kernel
theorem dr_cX14_next_140 : decode cX14_next 140 = .ok (.return_, 1) := by decide +kernel
theorem dr_cX14_next_19 : decode cX14_next 19 = .ok (.aload_n 0, 1) := by decide +kernel
theorem dr_cX14_next_20 : decode cX14_next 20 = .ok (.getfield 28, 3) := by decide +kernel
theorem dr_cX14_next_23 : decode cX14_next 23 = .ok (.aload_n 0, 1) := by decide +kernel
theorem dr_cX14_next_24 : decode cX14_next 24 = .ok (.getfield 44, 3) := by decide +kernel
theorem dr_cX14_next_27 : decode cX14_next 27 = .ok (.baload, 1) := by decide +kernel
theorem dr_cX14_next_28 : decode cX14_next 28 = .ok (.istore_n 1, 1) := by decide +kernel
theorem dr_cX14_next_29 : decode cX14_next 29 = .ok (.iload_n 1, 1) := by decide +kernel
theorem dr_cX14_next_30 : decode cX14_next 30 = .ok (.bipush 59, 2) := by decide +kernel
theorem dr_cX14_next_32 : decode cX14_next 32 = .ok (.if_icmp .ne 41, 3) := by decide +kernel
theorem dr_cX14_next_73 : decode cX14_next 73 = .ok (.iload_n 1, 1) := by decide +kernel
theorem dr_cX14_next_74 : decode cX14_next 74 = .ok (.bipush 9, 2) := by decide +kernel
theorem dr_cX14_next_76 : decode cX14_next 76 = .ok (.if_icmp .eq 21, 3) := by decide +kernel
theorem dr_cX14_next_97 : decode cX14_next 97 = .ok (.aload_n 0, 1) := by decide +kernel
theorem dr_cX14_next_98 : decode cX14_next 98 = .ok (.dup, 1) := by decide +kernel
theorem dr_cX14_next_99 : decode cX14_next 99 = .ok (.getfield 44, 3) := by decide +kernel
theorem dr_cX14_next_102 : decode cX14_next 102 = .ok (.iconst 1, 1) := by decide +kernel
theorem dr_cX14_next_103 : decode cX14_next 103 = .ok (.iadd, 1) := by decide +kernel
theorem dr_cX14_next_104 : decode cX14_next 104 = .ok (.putfield 44, 3) := by decide +kernel
theorem dr_cX14_next_107 : decode cX14_next 107 = .ok (.goto (-99), 3) := by decide +kernel
theorem dr_cX14_next_79 : decode cX14_next 79 = .ok (.iload_n 1, 1) := by decide +kernel
theorem dr_cX14_next_80 : decode cX14_next 80 = .ok (.bipush 10, 2) := by decide +kernel
theorem dr_cX14_next_82 : decode cX14_next 82 = .ok (.if_icmp .eq 15, 3) := by decide +kernel
theorem dr_cX14_next_85 : decode cX14_next 85 = .ok (.iload_n 1, 1) := by decide +kernel
theorem dr_cX14_next_86 : decode cX14_next 86 = .ok (.bipush 13, 2) := by decide +kernel
theorem dr_cX14_next_88 : decode cX14_next 88 = .ok (.if_icmp .eq 9, 3) := by decide +kernel
theorem dr_cX14_next_91 : decode cX14_next 91 = .ok (.iload_n 1, 1) := by decide +kernel
theorem dr_cX14_next_92 : decode cX14_next 92 = .ok (.bipush 32, 2) := by decide +kernel
theorem dr_cX14_next_94 : decode cX14_next 94 = .ok (.if_icmp .ne 16, 3) := by decide +kernel
theorem dr_cX14_next_35 : decode cX14_next 35 = .ok (.aload_n 0, 1) := by decide +kernel
theorem dr_cX14_next_36 : decode cX14_next 36 = .ok (.getfield 44, 3) := by decide +kernel
theorem dr_cX14_next_39 : decode cX14_next 39 = .ok (.aload_n 0, 1) := by decide +kernel
theorem dr_cX14_next_40 : decode cX14_next 40 = .ok (.getfield 32, 3) := by decide +kernel
theorem dr_cX14_next_43 : decode cX14_next 43 = .ok (.if_icmp .ge 64, 3) := by decide +kernel
theorem dr_cX14_next_46 : decode cX14_next 46 = .ok (.aload_n 0, 1) := by decide +kernel
theorem dr_cX14_next_47 : decode cX14_next 47 = .ok (.getfield 28, 3) := by decide +kernel
theorem dr_cX14_next_50 : decode cX14_next 50 = .ok (.aload_n 0, 1) := by decide +kernel
theorem dr_cX14_next_51 : decode cX14_next 51 = .ok (.getfield 44, 3) := by decide +kernel
theorem dr_cX14_next_54 : decode cX14_next 54 = .ok (.baload, 1) := by decide +kernel
theorem dr_cX14_next_55 : decode cX14_next 55 = .ok (.bipush 10, 2) := by decide +kernel
theorem dr_cX14_next_57 : decode cX14_next 57 = .ok (.if_icmp .eq 50, 3) := by decide +kernel
theorem dr_cX14_next_60 : decode cX14_next 60 = .ok (.aload_n 0, 1) := by decide +kernel
theorem dr_cX14_next_61 : decode cX14_next 61 = .ok (.dup, 1) := by decide +kernel
theorem dr_cX14_next_62 : decode cX14_next 62 = .ok (.getfield 44, 3) := by decide +kernel
theorem dr_cX14_next_65 : decode cX14_next 65 = .ok (.iconst 1, 1) := by decide +kernel
theorem dr_cX14_next_66 : decode cX14_next 66 = .ok (.iadd, 1) := by decide +kernel
theorem dr_cX14_next_67 : decode cX14_next 67 = .ok (.putfield 44, 3) := by decide +kernel
theorem dr_cX14_next_70 : decode cX14_next 70 = .ok (.goto (-35), 3) := by decide +kernel
abbrev ky_669625_Reader_next : gKey := (cX14_next, 3, "SpillForgeModel$Reader", none, [], "next", fun _ _ => True)
def pp_669625_Reader_next (D : va_G) (I : FieldType → ClassId) (P669604 : List Nat) (F669605 : Nat → va_E) (q669606 : Nat) (q669607 : Nat) (p669608 : Int32) (p669609 : Int32) (p669610 : Int32) (p669611 : Int32) (p669612 : Int32) (p669613 : Int32) (qo669614 : Nat) (p669615 : Int32) (p669616 : Int32) (p669617 : Int32) (qo669618 : Nat) (qo669619 : Nat) (p669620 : Int32) (f669621 : Nat → Int32) : Option Value → va_W → Nat → Nat → Prop := fun r w dc ds => ∃ (P671344 : List Nat) (F671345 : Nat → va_E) (o671339 : Int32) (o671340 : Int32) (o671341 : Int32) (o671342 : Int32) (q671343 : Nat) (xt671346 : gTx), r = none ∧ w = va_pl P671344 F671345 ∧ rSub P669604 P671344 ∧ rFr [q669606] P669604 F669605 F671345 ∧ F671345 q669606 = .inr (19, [.ref q669607, .int p669608, .int o671339, .int o671340, .int o671341, .int o671342, .int p669610, .ref q671343, .int p669615, .int p669616, .int p669617, .ref qo669618, .ref qo669619, .int p669620]) ∧ F671345 q669607 = .inl (I .byte, 8192, .inl f669621) ∧ dc ≤ (16 * (o671339.toInt - p669609.toInt)).toNat ∧ ds ≤ (160 * (o671339.toInt - p669609.toInt)).toNat ∧ gB o671339 0 8192 ∧ gB o671340 0 6 ∧ gB o671341 0 8192 ∧ p669609.toInt ≤ o671339.toInt ∧ prP o671340 p669609 o671339 ∧ o671339.toInt ≤ p669608.toInt ∧ tP I P671344 F671345 o671340 q671343 qo669619 qo669618 xt671346 ∧ vP o671340 o671342 ∧ tr_RReader_next p669608 p669609 p669610 p669612 f669621 o671339 o671340 o671341 o671342 xt671346
set_option maxRecDepth 100000 in
set_option maxHeartbeats 4000000 in
theorem cp_669625_Reader_next (l : Launch) (hl0 : l.stackTraces = false) (D : va_G) (I : FieldType → ClassId) (P669604 : List Nat) (F669605 : Nat → va_E) (q669606 : Nat) (q669607 : Nat) (p669608 : Int32) (p669609 : Int32) (p669610 : Int32) (p669611 : Int32) (p669612 : Int32) (p669613 : Int32) (qo669614 : Nat) (p669615 : Int32) (p669616 : Int32) (p669617 : Int32) (qo669618 : Nat) (qo669619 : Nat) (p669620 : Int32) (f669621 : Nat → Int32) (hmq669606 : q669606 ∈ P669604) (hmq669607 : q669607 ∈ P669604) (heq669606 : F669605 q669606 = .inr (19, [.ref q669607, .int p669608, .int p669609, .int p669610, .int p669611, .int p669612, .int p669613, .ref qo669614, .int p669615, .int p669616, .int p669617, .ref qo669618, .ref qo669619, .int p669620])) (heq669607 : F669605 q669607 = .inl (I .byte, 8192, .inl f669621)) (bp669608 : gB p669608 0 8192) (bp669609 : gB p669609 0 8192) (bp669610 : gB p669610 0 6) (bp669611 : gB p669611 0 8192) (bp669613 : gB p669613 0 6) (bp669615 : gB p669615 (-1) 8192) (bp669616 : gB p669616 0 4) (bp669617 : gB p669617 0 1000000) (bp669620 : gB p669620 0 1000000) (bf669621 : gF f669621 (-128) 127) (x669622 : p669609.toInt ≤ p669608.toInt) (x669623 : qo669619 ∈ P669604) (x669624 : qo669618 ∈ P669604) : CtA (gV D I) l yX14_next cX14_next 3 none 7 155 ((16 * (p669608.toInt - p669609.toInt)).toNat) ((160 * (p669608.toInt - p669609.toInt)).toNat) [.ref q669606] (va_pl P669604 F669605) (pp_669625_Reader_next D I P669604 F669605 q669606 q669607 p669608 p669609 p669610 p669611 p669612 p669613 qo669614 p669615 p669616 p669617 qo669618 qo669619 p669620 f669621) gNA := by
  refine CtA_of hl0 (by decide) (Nat.le_of_ble_eq_true rfl) ?_
  have bp669612 := gB_any p669612
  refine G_aload_n 0 dr_cX14_next_0 rfl ?_
  refine G_aload_n 0 dr_cX14_next_1 rfl ?_
  refine Gp_get 3 hmq669606 heq669606 dr_cX14_next_2 (gk_X14 D I) (Nat.le_of_ble_eq_true rfl) wr_9_39 rfl ?_
  refine Gp_put 6 hmq669606 heq669606 dr_cX14_next_5 (gk_X14 D I) (Nat.le_of_ble_eq_true rfl) wr_9_42 rfl rfl rfl (Nat.le_of_ble_eq_true rfl) (fun F669626 e669627 n669628 => ?_)
  have he669629 : F669626 q669607 = .inl (I .byte, 8192, .inl f669621) := (n669628 q669607 (rn_ao heq669607 heq669606)).trans heq669607
  have he669630 : F669626 q669606 = .inr (19, [.ref q669607, .int p669608, .int p669609, .int p669610, .int p669611, .int p669612, .int p669610, .ref qo669614, .int p669615, .int p669616, .int p669617, .ref qo669618, .ref qo669619, .int p669620]) := e669627
  have hfr669631 : rFr [q669606] P669604 F669605 F669626 := rFr_put (rFr_rf (W := []) (P := P669604) (F := F669605)) n669628
  have hlp8_670765 : ∀ (n8_670765 : Nat) (F670760 : Nat → va_E) (g670759 : Int32), gB g670759 0 8192 → rFr [q669606] P669604 F669605 F670760 → F670760 q669606 = .inr (19, [.ref q669607, .int p669608, .int g670759, .int p669610, .int p669611, .int p669612, .int p669610, .ref qo669614, .int p669615, .int p669616, .int p669617, .ref qo669618, .ref qo669619, .int p669620]) → F670760 q669607 = .inl (I .byte, 8192, .inl f669621) → p669609.toInt ≤ g670759.toInt → g670759.toInt ≤ p669608.toInt → (∀ (k : Nat) (e1 : Int32), tl_RReader_next_8 p669608 f669621 g670759 k e1 → tl_RReader_next_8 p669608 f669621 p669609 k e1) → ((p669608.toInt : Int) + 1 - g670759.toInt).toNat < n8_670765 → G (gV D I) l (gRm 7 155 ((16 * (p669608.toInt - p669609.toInt)).toNat) ((160 * (p669608.toInt - p669609.toInt)).toNat)) (gMA (gV D I) (pp_669625_Reader_next D I P669604 F669605 q669606 q669607 p669608 p669609 p669610 p669611 p669612 p669613 qo669614 p669615 p669616 p669617 qo669618 qo669619 p669620 f669621) gNA ((16 * (p669608.toInt - p669609.toInt)).toNat) ((160 * (p669608.toInt - p669609.toInt)).toNat)) ky_669625_Reader_next 8 [(0, .ref q669606)] [] (va_pl P669604 F670760) 0 0 := by
    intro n8_670765
    induction n8_670765 with
    | zero => intro F670760 g670759 bg670759 hfr670763 he670761 he670762 x670764 x670765 kt8_670765 hm8_670765; exact absurd hm8_670765 (Nat.not_lt_zero _)
    | succ n8_670765 ih8_670765 =>
      intro F670760 g670759 bg670759 hfr670763 he670761 he670762 x670764 x670765 kt8_670765 hm8_670765
      refine G_aload_n 0 dr_cX14_next_8 rfl ?_
      refine Gp_get 2 hmq669606 he670761 dr_cX14_next_9 (gk_X14 D I) (Nat.le_of_ble_eq_true rfl) wr_9_38 rfl ?_
      refine G_aload_n 0 dr_cX14_next_12 rfl ?_
      refine Gp_get 1 hmq669606 he670761 dr_cX14_next_13 (gk_X14 D I) (Nat.le_of_ble_eq_true rfl) wr_9_37 rfl ?_
      refine G_icmp_ge 110 dr_cX14_next_16 (by decide +kernel) (fun hc670766 => ?_) (fun hc670766 => ?_)
      · have r670767 : p669608.toInt ≤ g670759.toInt := gC_le hc670766
        have hx670768 : tl_RReader_next_8 p669608 f669621 p669609 110 g670759 := kt8_670765 110 g670759 (fun R c1 c2 c3 c4 c5 c6 c7 => c1 g670759 bg670759 r670767)
        clear he669629 he669630 hfr669631
        refine G_aload_n 0 dr_cX14_next_110 rfl ?_
        refine G_aload_n 0 dr_cX14_next_111 rfl ?_
        refine Gp_get 2 hmq669606 he670761 dr_cX14_next_112 (gk_X14 D I) (Nat.le_of_ble_eq_true rfl) wr_9_38 rfl ?_
        refine Gp_put 4 hmq669606 he670761 dr_cX14_next_115 (gk_X14 D I) (Nat.le_of_ble_eq_true rfl) wr_9_40 rfl rfl rfl (Nat.le_of_ble_eq_true rfl) (fun F670769 e670770 n670771 => ?_)
        have he670772 : F670769 q669607 = .inl (I .byte, 8192, .inl f669621) := (n670771 q669607 (rn_ao he670762 he670761)).trans he670762
        have he670773 : F670769 q669606 = .inr (19, [.ref q669607, .int p669608, .int g670759, .int p669610, .int g670759, .int p669612, .int p669610, .ref qo669614, .int p669615, .int p669616, .int p669617, .ref qo669618, .ref qo669619, .int p669620]) := e670770
        have hfr670774 : rFr [q669606] P669604 F669605 F670769 := rFr_put' List.mem_cons_self hfr670763 n670771
        refine G_aload_n 0 dr_cX14_next_118 rfl ?_
        refine G_ldcK (a := D.2 1000 32) dr_cX14_next_119 (fun _ _ _ h => gx_vk 32 rfl rfl h) ?_
        have hl32_670774 : (sb_32.length : Int) = 0 := rfl
        refine Gp_put 7 hmq669606 he670773 dr_cX14_next_121 (gk_X14 D I) (Nat.le_of_ble_eq_true rfl) wr_9_43 rfl rfl rfl (Nat.le_of_ble_eq_true rfl) (fun F670776 e670777 n670778 => ?_)
        have he670779 : F670776 q669607 = .inl (I .byte, 8192, .inl f669621) := (n670778 q669607 (rn_ao he670772 he670773)).trans he670772
        have he670780 : F670776 q669606 = .inr (19, [.ref q669607, .int p669608, .int g670759, .int p669610, .int g670759, .int p669612, .int p669610, .ref (D.2 1000 32), .int p669615, .int p669616, .int p669617, .ref qo669618, .ref qo669619, .int p669620]) := e670777
        have hfr670781 : rFr [q669606] P669604 F669605 F670776 := rFr_put' List.mem_cons_self hfr670774 n670778
        clear he670772 he670773 hfr670774
        refine G_aload_n 0 dr_cX14_next_124 rfl ?_
        refine Gp_get 2 hmq669606 he670780 dr_cX14_next_125 (gk_X14 D I) (Nat.le_of_ble_eq_true rfl) wr_9_38 rfl ?_
        refine G_aload_n 0 dr_cX14_next_128 rfl ?_
        refine Gp_get 1 hmq669606 he670780 dr_cX14_next_129 (gk_X14 D I) (Nat.le_of_ble_eq_true rfl) wr_9_37 rfl ?_
        refine G_icmp_ne 141 dr_cX14_next_132 (by decide +kernel) (fun hc670782 => ?_) (fun hc670782 => ?_)
        · have r670783 : g670759.toInt ≠ p669608.toInt := gC_ne hc670782
          refine G_aload_n 0 dr_cX14_next_141 rfl ?_
          refine Gp_get 0 hmq669606 he670780 dr_cX14_next_142 (gk_X14 D I) (Nat.le_of_ble_eq_true rfl) wr_9_36 rfl ?_
          refine G_aload_n 0 dr_cX14_next_145 rfl ?_
          refine Gp_get 2 hmq669606 he670780 dr_cX14_next_146 (gk_X14 D I) (Nat.le_of_ble_eq_true rfl) wr_9_38 rfl ?_
          refine Gp_bald 1 hmq669607 he670779 dr_cX14_next_149 rfl (gB_inr (by omega) (by omega)) (G_nam fun z670784 hz670784 => ?_)
          have bz670784 : gB z670784 (-128) 127 := by rw [hz670784]; exact bf669621 _
          refine G_istore_n (L' := [(1, .int z670784), (0, .ref q669606)]) dr_cX14_next_150 (Nat.le_of_ble_eq_true rfl) rfl ?_
          have jn670785 : ((z670784.toInt ≠ 45) ∨ (∃ (y1 : Int32), z670784.toInt = 45 ∧ y1.toInt = g670759.toInt + 1 ∧ p669608.toInt ≤ y1.toInt) ∨ (∃ (y1 : Int32) (y2 : Int32) (y3 : Int32), z670784.toInt = 45 ∧ y1.toInt = g670759.toInt + 1 ∧ y1.toInt < p669608.toInt ∧ y2 = f669621 y1.toNatClampNeg ∧ gB y2 (-128) 127 ∧ gB y3 0 1 ∧ tr_RReader_isDigit2 y2 y3 ∧ y3.toInt = 0) ∨ (∃ (y1 : Int32) (y2 : Int32) (y3 : Int32), z670784.toInt = 45 ∧ y1.toInt = g670759.toInt + 1 ∧ y1.toInt < p669608.toInt ∧ y2 = f669621 y1.toNatClampNeg ∧ gB y2 (-128) 127 ∧ gB y3 0 1 ∧ tr_RReader_isDigit2 y2 y3 ∧ y3.toInt ≠ 0 ∧ p669610.toInt = 2) ∨ (∃ (y1 : Int32) (y2 : Int32) (y3 : Int32), z670784.toInt = 45 ∧ y1.toInt = g670759.toInt + 1 ∧ y1.toInt < p669608.toInt ∧ y2 = f669621 y1.toNatClampNeg ∧ gB y2 (-128) 127 ∧ gB y3 0 1 ∧ tr_RReader_isDigit2 y2 y3 ∧ y3.toInt ≠ 0 ∧ p669610.toInt ≠ 2 ∧ p669610.toInt = 4)) → G (gV D I) l (gRm 7 155 ((16 * (p669608.toInt - p669609.toInt)).toNat) ((160 * (p669608.toInt - p669609.toInt)).toNat)) (gMA (gV D I) (pp_669625_Reader_next D I P669604 F669605 q669606 q669607 p669608 p669609 p669610 p669611 p669612 p669613 qo669614 p669615 p669616 p669617 qo669618 qo669619 p669620 f669621) gNA ((16 * (p669608.toInt - p669609.toInt)).toNat) ((160 * (p669608.toInt - p669609.toInt)).toNat)) ky_669625_Reader_next 209 [(2, .int 0), (1, .int z670784), (0, .ref q669606)] [] (va_pl P669604 F670776) 0 0 := by
            intro hJ670786
            refine G_iload_n 1 dr_cX14_next_209 rfl ?_
            refine Gw_callS (As := [.int z670784]) (gV_ok D I) (cp_667320_Reader_isLetter l hl0 D I P669604 F670776 z670784 ) dr_cX14_next_210 ⟨wr_7_222, wr_1_32, wr_7_224, by decide, rfl, (Nat.le_of_ble_eq_true rfl), (Nat.le_of_ble_eq_true rfl)⟩ wr_7_223 (show 0 + 0 ≤ ((16 * (p669608.toInt - p669609.toInt)).toNat) by first | omega | decide) (show 0 + 0 ≤ ((160 * (p669608.toInt - p669609.toInt)).toNat) by first | omega | decide) (Nat.le_of_ble_eq_true rfl) (fun r670790 w670791 dc670787 ds670788 hp670789 => ?_) (fun _ _ _ _ _ z => z.elim)
            obtain ⟨o670792, rfl, rfl, hdc, hds, bo670792, x670793, ht670794⟩ := hp670789
            change G _ _ _ _ _ _ _ (.int o670792 :: _) _ _ _
            refine G_widen (cs' := 0) (sl' := 0) (by omega) (by omega) ?_
            refine G_if_eq 223 dr_cX14_next_213 (by decide +kernel) (fun hc670795 => ?_) (fun hc670795 => ?_)
            · have r670796 : o670792.toInt = 0 := gj_eq hc670795 (show Int32.toInt 0 = 0 by decide)
              have bo670792' : gB o670792 0 0 := ⟨by omega, by omega⟩
              clear bo670792'; try clear r670790; try clear w670791; try clear dc670787; try clear ds670788; try clear hp670789; try clear x670793
              refine G_iload_n 1 dr_cX14_next_223 rfl ?_
              refine Gw_callS (As := [.int z670784]) (gV_ok D I) (cp_665370_Reader_isDigit l hl0 D I P669604 F670776 z670784 ) dr_cX14_next_224 ⟨wr_7_219, wr_1_32, wr_7_221, by decide, rfl, (Nat.le_of_ble_eq_true rfl), (Nat.le_of_ble_eq_true rfl)⟩ wr_7_220 (show 0 + 0 ≤ ((16 * (p669608.toInt - p669609.toInt)).toNat) by first | omega | decide) (show 0 + 0 ≤ ((160 * (p669608.toInt - p669609.toInt)).toNat) by first | omega | decide) (Nat.le_of_ble_eq_true rfl) (fun r670800 w670801 dc670797 ds670798 hp670799 => ?_) (fun _ _ _ _ _ z => z.elim)
              obtain ⟨o670802, rfl, rfl, hdc, hds, bo670802, x670803, ht670804⟩ := hp670799
              change G _ _ _ _ _ _ _ (.int o670802 :: _) _ _ _
              refine G_widen (cs' := 0) (sl' := 0) (by omega) (by omega) ?_
              refine G_if_ne 234 dr_cX14_next_227 (by decide +kernel) (fun hc670805 => ?_) (fun hc670805 => ?_)
              · have r670806 : o670802.toInt ≠ 0 := gj_neq hc670805 (show Int32.toInt 0 = 0 by decide)
                have bo670802' : gB o670802 1 1 := ⟨by omega, by omega⟩
                have bi670807 : gB z670784 48 57 := isP_1 x670803 (by omega)
                refine G_aload_n 2 dr_cX14_next_234 rfl ?_
                refine G_iload_n 0 dr_cX14_next_235 rfl ?_
                refine Gw_callV (As := [.int 0]) (gV_ok D I) (cp_665334_Reader_number l hl0 D I P669604 F670776 q669606 q669607 0 p669608 g670759 p669610 g670759 p669612 p669610 (D.2 1000 32) p669615 p669616 p669617 qo669618 qo669619 p669620 f669621 hmq669606 hmq669607 he670780 he670779 (gB_w (gBl (show Int32.toInt 0 = 0 by decide)) (by decide) (by decide)) bp669608 bg670759 bp669610 bg670759 bp669610 bp669615 bp669616 bp669617 bp669620 bf669621 (by have qa0 : Int32.toInt 0 = 0 := (by decide); omega) (by have qa0 : Int32.toInt 0 = 0 := (by decide); omega) (by first | assumption | exact cDg_no (by omega) | exact cDg_no (by decide) | exact cDg_of (by assumption) (by omega) (by omega)) x669623 x669624) dr_cX14_next_236 ⟨wr_8_218, wr_1_32, wr_8_221, by decide, rfl, (Nat.le_of_ble_eq_true rfl), (Nat.le_of_ble_eq_true rfl)⟩ wr_8_220 wr_p_77 hmq669606 he670780 rfl (show 0 + ((16 * (p669608.toInt - g670759.toInt)).toNat) ≤ ((16 * (p669608.toInt - p669609.toInt)).toNat) by first | omega | decide) (show 0 + ((160 * (p669608.toInt - g670759.toInt)).toNat) ≤ ((160 * (p669608.toInt - p669609.toInt)).toNat) by first | omega | decide) (Nat.le_of_ble_eq_true rfl) (fun r670811 w670812 dc670808 ds670809 hp670810 => ?_) (fun _ _ _ _ _ z => z.elim)
                obtain ⟨F670822, o670813, o670814, o670815, xt670821, rfl, rfl, hfr670824, he670825, he670826, hdc, hds, bo670813, bo670814, x670816, x670817, x670818, x670819, ht670820⟩ := hp670810
                have hfr670827 : rFr [q669606] P669604 F669605 F670822 := rFr_call (rSub_rf (P := P669604)) hfr670781 hfr670824 (fun b hb hn => ⟨(nm_c (fun e => hn (e ▸ List.mem_cons_self)) nm_n), (nm_c (fun e => hn (e ▸ List.mem_cons_self)) nm_n)⟩)
                have bo670815 := gB_any o670815
                change G _ _ _ _ _ _ _ _ _ _ _
                refine G_widen (cs' := (16 * (o670813.toInt - g670759.toInt)).toNat) (sl' := (160 * (o670813.toInt - g670759.toInt)).toNat) (by omega) (by omega) ?_
                refine G_goto 247 dr_cX14_next_239 (by decide +kernel) ?_
                exact G_vretA dr_cX14_next_247 rfl (show (16 * (o670813.toInt - g670759.toInt)).toNat ≤ ((16 * (p669608.toInt - p669609.toInt)).toNat) by omega) (show (160 * (o670813.toInt - g670759.toInt)).toNat ≤ ((160 * (p669608.toInt - p669609.toInt)).toNat) by omega) ⟨P669604, F670822, o670813, o670814, g670759, o670815, (D.2 1000 32), xt670821, rfl, rfl, (rSub_rf (P := P669604)), hfr670827, he670825, he670826, (by omega), (by omega), bo670813, (gB_w bo670814 (by decide) (by decide)), bg670759, (by have qa0 : Int32.toInt 0 = 0 := (by decide); omega), (Or.inr (by omega)), (by have qa0 : Int32.toInt 0 = 0 := (by decide); omega), (by first | exact tP_no (by omega) (by omega) | assumption), x670819, (fun R c1 c2 c3 c4 c5 c6 c7 c8 c9 c10 c11 c12 c13 => c1 g670759 z670784 o670792 o670802 xt670821 o670813 o670814 o670815 hx670768 r670783 hz670784 bz670784 hJ670786 bo670792 ht670794 r670796 bo670802 ht670804 r670806 bo670813 bo670814 ht670820)⟩
              · have r670828 : o670802.toInt = 0 := gj_eq hc670805 (show Int32.toInt 0 = 0 by decide)
                have bo670802' : gB o670802 0 0 := ⟨by omega, by omega⟩
                refine G_iload_n 0 dr_cX14_next_230 rfl ?_
                refine G_if_eq 242 dr_cX14_next_231 (by decide +kernel) (fun _ => ?_) (fun hc => absurd hc (by decide))
                refine G_aload_n 2 dr_cX14_next_242 rfl ?_
                refine G_iload_n 1 dr_cX14_next_243 rfl ?_
                refine Gw_callV (As := [.int z670784]) (gV_ok D I) (cp_665957_Reader_symbol l hl0 D I P669604 F670776 q669606 q669607 z670784 p669608 g670759 p669610 g670759 p669612 p669610 (D.2 1000 32) p669615 p669616 p669617 qo669618 qo669619 p669620 f669621 hmq669606 hmq669607 he670780 he670779 bz670784 bp669608 bg670759 bp669610 bg670759 bp669610 bp669615 bp669616 bp669617 bp669620 bf669621 (by have qa0 : Int32.toInt 0 = 0 := (by decide); omega) (by have qa0 : Int32.toInt 0 = 0 := (by decide); omega) x669623 x669624) dr_cX14_next_244 ⟨wr_8_223, wr_1_32, wr_8_226, by decide, rfl, (Nat.le_of_ble_eq_true rfl), (Nat.le_of_ble_eq_true rfl)⟩ wr_8_225 wr_p_78 hmq669606 he670780 rfl (show 0 + ((16 * (p669608.toInt - g670759.toInt)).toNat) ≤ ((16 * (p669608.toInt - p669609.toInt)).toNat) by first | omega | decide) (show 0 + ((160 * (p669608.toInt - g670759.toInt)).toNat) ≤ ((160 * (p669608.toInt - p669609.toInt)).toNat) by first | omega | decide) (Nat.le_of_ble_eq_true rfl) (fun r670832 w670833 dc670829 ds670830 hp670831 => ?_) (fun _ _ _ _ _ z => z.elim)
                obtain ⟨P670843, F670844, o670834, o670835, q670836, xt670842, rfl, rfl, hsb670845, hfr670846, he670847, he670848, hdc, hds, bo670834, bo670835, x670837, x670838, x670839, x670840, ht670841⟩ := hp670831
                have hm670849 : q669606 ∈ P670843 := hsb670845 q669606 hmq669606
                have hm670850 : q669607 ∈ P670843 := hsb670845 q669607 hmq669607
                have hsb670851 : rSub P669604 P670843 := rSub_tr (rSub_rf (P := P669604)) hsb670845
                have hfr670852 : rFr [q669606] P669604 F669605 F670844 := rFr_call (rSub_rf (P := P669604)) hfr670781 hfr670846 (fun b hb hn => ⟨(nm_c (fun e => hn (e ▸ List.mem_cons_self)) nm_n), (nm_c (fun e => hn (e ▸ List.mem_cons_self)) nm_n)⟩)
                change G _ _ _ _ _ _ _ _ _ _ _
                refine G_widen (cs' := (16 * (o670834.toInt - g670759.toInt)).toNat) (sl' := (160 * (o670834.toInt - g670759.toInt)).toNat) (by omega) (by omega) ?_
                exact G_vretA dr_cX14_next_247 rfl (show (16 * (o670834.toInt - g670759.toInt)).toNat ≤ ((16 * (p669608.toInt - p669609.toInt)).toNat) by omega) (show (160 * (o670834.toInt - g670759.toInt)).toNat ≤ ((160 * (p669608.toInt - p669609.toInt)).toNat) by omega) ⟨P670843, F670844, o670834, o670835, g670759, p669612, q670836, xt670842, rfl, rfl, hsb670851, hfr670852, he670847, he670848, (by omega), (by omega), (gB_w bo670834 (by decide) (by decide)), (gB_w bo670835 (by decide) (by decide)), bg670759, (by have qa0 : Int32.toInt 0 = 0 := (by decide); omega), (Or.inr (by omega)), (by have qa0 : Int32.toInt 0 = 0 := (by decide); omega), x670839, x670840, (fun R c1 c2 c3 c4 c5 c6 c7 c8 c9 c10 c11 c12 c13 => c2 g670759 z670784 o670792 o670802 xt670842 o670834 o670835 hx670768 r670783 hz670784 bz670784 hJ670786 bo670792 ht670794 r670796 bo670802 ht670804 r670828 bo670834 bo670835 ht670841)⟩
            · have r670853 : o670792.toInt ≠ 0 := gj_neq hc670795 (show Int32.toInt 0 = 0 by decide)
              have bo670792' : gB o670792 1 1 := ⟨by omega, by omega⟩
              have bi670854 : gB z670784 97 122 := isP_1 x670793 (by omega)
              refine G_aload_n 2 dr_cX14_next_216 rfl ?_
              refine Gw_callV (As := []) (gV_ok D I) (cp_666976_Reader_word l hl0 D I P669604 F670776 q669606 q669607 p669608 g670759 p669610 g670759 p669612 p669610 (D.2 1000 32) p669615 p669616 p669617 qo669618 qo669619 p669620 f669621 hmq669606 hmq669607 he670780 he670779 bp669608 bg670759 bp669610 bg670759 bp669610 bp669615 bp669616 bp669617 bp669620 bf669621 (by have qa0 : Int32.toInt 0 = 0 := (by decide); omega) (by have qa0 : Int32.toInt 0 = 0 := (by decide); omega) (by first | assumption | exact cLt_of (by assumption) (by omega) (by omega)) x669623 x669624) dr_cX14_next_217 ⟨wr_7_225, wr_1_32, wr_7_228, by decide, rfl, (Nat.le_of_ble_eq_true rfl), (Nat.le_of_ble_eq_true rfl)⟩ wr_7_227 wr_p_76 hmq669606 he670780 rfl (show 0 + ((16 * (p669608.toInt - g670759.toInt)).toNat) ≤ ((16 * (p669608.toInt - p669609.toInt)).toNat) by first | omega | decide) (show 0 + ((160 * (p669608.toInt - g670759.toInt)).toNat) ≤ ((160 * (p669608.toInt - p669609.toInt)).toNat) by first | omega | decide) (Nat.le_of_ble_eq_true rfl) (fun r670858 w670859 dc670855 ds670856 hp670857 => ?_) (fun _ _ _ _ _ z => z.elim)
              obtain ⟨P670870, F670871, o670860, o670861, o670862, q670863, xt670869, rfl, rfl, hsb670872, hfr670873, he670874, he670875, hdc, hds, bo670860, bo670861, x670864, x670865, x670866, x670867, ht670868⟩ := hp670857
              have hm670876 : q669606 ∈ P670870 := hsb670872 q669606 hmq669606
              have hm670877 : q669607 ∈ P670870 := hsb670872 q669607 hmq669607
              have hsb670878 : rSub P669604 P670870 := rSub_tr (rSub_rf (P := P669604)) hsb670872
              have hfr670879 : rFr [q669606] P669604 F669605 F670871 := rFr_call (rSub_rf (P := P669604)) hfr670781 hfr670873 (fun b hb hn => ⟨(nm_c (fun e => hn (e ▸ List.mem_cons_self)) nm_n), (nm_c (fun e => hn (e ▸ List.mem_cons_self)) nm_n)⟩)
              have bo670862 := gB_any o670862
              change G _ _ _ _ _ _ _ _ _ _ _
              refine G_widen (cs' := (16 * (o670860.toInt - g670759.toInt)).toNat) (sl' := (160 * (o670860.toInt - g670759.toInt)).toNat) (by omega) (by omega) ?_
              refine G_goto 247 dr_cX14_next_220 (by decide +kernel) ?_
              exact G_vretA dr_cX14_next_247 rfl (show (16 * (o670860.toInt - g670759.toInt)).toNat ≤ ((16 * (p669608.toInt - p669609.toInt)).toNat) by omega) (show (160 * (o670860.toInt - g670759.toInt)).toNat ≤ ((160 * (p669608.toInt - p669609.toInt)).toNat) by omega) ⟨P670870, F670871, o670860, o670861, g670759, o670862, q670863, xt670869, rfl, rfl, hsb670878, hfr670879, he670874, he670875, (by omega), (by omega), bo670860, (gB_w bo670861 (by decide) (by decide)), bg670759, (by have qa0 : Int32.toInt 0 = 0 := (by decide); omega), (Or.inr (by omega)), (by have qa0 : Int32.toInt 0 = 0 := (by decide); omega), x670866, x670867, (fun R c1 c2 c3 c4 c5 c6 c7 c8 c9 c10 c11 c12 c13 => c3 g670759 z670784 o670792 xt670869 o670860 o670861 o670862 hx670768 r670783 hz670784 bz670784 hJ670786 bo670792 ht670794 r670853 bo670860 bo670861 ht670868)⟩
          refine G_iload_n 0 dr_cX14_next_151 rfl ?_
          refine G_bipush 45 dr_cX14_next_152 (by decide +kernel) ?_
          refine G_icmp_ne 207 dr_cX14_next_154 (by decide +kernel) (fun hc670880 => ?_) (fun hc670880 => ?_)
          · have r670881 : z670784.toInt ≠ 45 := gj_neq hc670880 (show Int32.toInt 45 = 45 by decide)
            refine G_iconst 0 dr_cX14_next_207 (by decide +kernel) ?_
            refine G_istore_n (L' := [(2, .int 0), (1, .int z670784), (0, .ref q669606)]) dr_cX14_next_208 (Nat.le_of_ble_eq_true rfl) rfl ?_
            refine G_lv (L' := [(2, .int 0), (1, .int z670784), (0, .ref q669606)]) [0, 1, 2] rfl ?_
            exact jn670785 (Or.inl r670881)
          · have r670882 : z670784.toInt = 45 := gj_eq hc670880 (show Int32.toInt 45 = 45 by decide)
            have bz670784' : gB z670784 45 45 := ⟨by omega, by omega⟩
            refine G_aload_n 1 dr_cX14_next_157 rfl ?_
            refine Gp_get 2 hmq669606 he670780 dr_cX14_next_158 (gk_X14 D I) (Nat.le_of_ble_eq_true rfl) wr_9_38 rfl ?_
            refine G_iconst 1 dr_cX14_next_161 (by decide +kernel) ?_
            refine G_iadd dr_cX14_next_162 (G_nam fun z670883 hz670883 => ?_)
            have ez670883 : z670883.toInt = g670759.toInt + 1 := by rw [gI_add hz670883 bg670759 (gBl (show Int32.toInt 1 = 1 by decide)) (by decide) (by decide), show Int32.toInt 1 = 1 from by decide]
            have bz670883 : gB z670883 1 8193 := gB_add (gI_add hz670883 bg670759 (gBl (show Int32.toInt 1 = 1 by decide)) (by decide) (by decide)) bg670759 (gBl (show Int32.toInt 1 = 1 by decide)) (by decide) (by decide)
            refine G_aload_n 1 dr_cX14_next_163 rfl ?_
            refine Gp_get 1 hmq669606 he670780 dr_cX14_next_164 (gk_X14 D I) (Nat.le_of_ble_eq_true rfl) wr_9_37 rfl ?_
            refine G_icmp_ge 207 dr_cX14_next_167 (by decide +kernel) (fun hc670884 => ?_) (fun hc670884 => ?_)
            · have r670885 : p669608.toInt ≤ z670883.toInt := gC_le hc670884
              refine G_iconst 0 dr_cX14_next_207 (by decide +kernel) ?_
              refine G_istore_n (L' := [(2, .int 0), (1, .int z670784), (0, .ref q669606)]) dr_cX14_next_208 (Nat.le_of_ble_eq_true rfl) rfl ?_
              refine G_lv (L' := [(2, .int 0), (1, .int z670784), (0, .ref q669606)]) [0, 1, 2] rfl ?_
              exact jn670785 (Or.inr (Or.inl ⟨z670883, r670882, ez670883, r670885⟩))
            · have r670886 : z670883.toInt < p669608.toInt := gC_nle hc670884
              have bz670883' : gB z670883 1 8191 := ⟨by omega, by omega⟩
              have bp669608' : gB p669608 2 8192 := ⟨by omega, by omega⟩
              refine G_aload_n 1 dr_cX14_next_170 rfl ?_
              refine Gp_get 0 hmq669606 he670780 dr_cX14_next_171 (gk_X14 D I) (Nat.le_of_ble_eq_true rfl) wr_9_36 rfl ?_
              refine G_aload_n 1 dr_cX14_next_174 rfl ?_
              refine Gp_get 2 hmq669606 he670780 dr_cX14_next_175 (gk_X14 D I) (Nat.le_of_ble_eq_true rfl) wr_9_38 rfl ?_
              refine G_iconst 1 dr_cX14_next_178 (by decide +kernel) ?_
              refine G_iadd dr_cX14_next_179 (G_eqi (y := z670883) hz670883.symm ?_)
              refine Gp_bald 1 hmq669607 he670779 dr_cX14_next_180 rfl (gB_in bz670883' (by decide) (by decide)) (G_nam fun z670887 hz670887 => ?_)
              have bz670887 : gB z670887 (-128) 127 := by rw [hz670887]; exact bf669621 _
              refine Gw_callS (As := [.int z670887]) (gV_ok D I) (cp_665370_Reader_isDigit l hl0 D I P669604 F670776 z670887 ) dr_cX14_next_181 ⟨wr_7_219, wr_1_32, wr_7_221, by decide, rfl, (Nat.le_of_ble_eq_true rfl), (Nat.le_of_ble_eq_true rfl)⟩ wr_7_220 (show 0 + 0 ≤ ((16 * (p669608.toInt - p669609.toInt)).toNat) by first | omega | decide) (show 0 + 0 ≤ ((160 * (p669608.toInt - p669609.toInt)).toNat) by first | omega | decide) (Nat.le_of_ble_eq_true rfl) (fun r670891 w670892 dc670888 ds670889 hp670890 => ?_) (fun _ _ _ _ _ z => z.elim)
              obtain ⟨o670893, rfl, rfl, hdc, hds, bo670893, x670894, ht670895⟩ := hp670890
              change G _ _ _ _ _ _ _ (.int o670893 :: _) _ _ _
              refine G_widen (cs' := 0) (sl' := 0) (by omega) (by omega) ?_
              refine G_if_eq 207 dr_cX14_next_184 (by decide +kernel) (fun hc670896 => ?_) (fun hc670896 => ?_)
              · have r670897 : o670893.toInt = 0 := gj_eq hc670896 (show Int32.toInt 0 = 0 by decide)
                have bo670893' : gB o670893 0 0 := ⟨by omega, by omega⟩
                refine G_iconst 0 dr_cX14_next_207 (by decide +kernel) ?_
                refine G_istore_n (L' := [(2, .int 0), (1, .int z670784), (0, .ref q669606)]) dr_cX14_next_208 (Nat.le_of_ble_eq_true rfl) rfl ?_
                refine G_lv (L' := [(2, .int 0), (1, .int z670784), (0, .ref q669606)]) [0, 1, 2] rfl ?_
                exact jn670785 (Or.inr (Or.inr (Or.inl ⟨z670883, z670887, o670893, r670882, ez670883, r670886, hz670887, bz670887, bo670893, ht670895, r670897⟩)))
              · have r670898 : o670893.toInt ≠ 0 := gj_neq hc670896 (show Int32.toInt 0 = 0 by decide)
                have bo670893' : gB o670893 1 1 := ⟨by omega, by omega⟩
                have bi670899 : gB z670887 48 57 := isP_1 x670894 (by omega)
                refine G_aload_n 1 dr_cX14_next_187 rfl ?_
                refine Gp_get 6 hmq669606 he670780 dr_cX14_next_188 (gk_X14 D I) (Nat.le_of_ble_eq_true rfl) wr_9_42 rfl ?_
                refine G_iconst 2 dr_cX14_next_191 (by decide +kernel) ?_
                refine G_icmp_eq 207 dr_cX14_next_192 (by decide +kernel) (fun hc670900 => ?_) (fun hc670900 => ?_)
                · have r670901 : p669610.toInt = 2 := gj_eq hc670900 (show Int32.toInt 2 = 2 by decide)
                  have bp669610' : gB p669610 2 2 := ⟨by omega, by omega⟩
                  refine G_iconst 0 dr_cX14_next_207 (by decide +kernel) ?_
                  refine G_istore_n (L' := [(2, .int 0), (1, .int z670784), (0, .ref q669606)]) dr_cX14_next_208 (Nat.le_of_ble_eq_true rfl) rfl ?_
                  refine G_lv (L' := [(2, .int 0), (1, .int z670784), (0, .ref q669606)]) [0, 1, 2] rfl ?_
                  exact jn670785 (Or.inr (Or.inr (Or.inr (Or.inl ⟨z670883, z670887, o670893, r670882, ez670883, r670886, hz670887, bz670887, bo670893, ht670895, r670898, r670901⟩))))
                · have r670902 : p669610.toInt ≠ 2 := gj_neq hc670900 (show Int32.toInt 2 = 2 by decide)
                  refine G_aload_n 1 dr_cX14_next_195 rfl ?_
                  refine Gp_get 6 hmq669606 he670780 dr_cX14_next_196 (gk_X14 D I) (Nat.le_of_ble_eq_true rfl) wr_9_42 rfl ?_
                  refine G_iconst 4 dr_cX14_next_199 (by decide +kernel) ?_
                  refine G_icmp_eq 207 dr_cX14_next_200 (by decide +kernel) (fun hc670903 => ?_) (fun hc670903 => ?_)
                  · have r670904 : p669610.toInt = 4 := gj_eq hc670903 (show Int32.toInt 4 = 4 by decide)
                    have bp669610' : gB p669610 4 4 := ⟨by omega, by omega⟩
                    refine G_iconst 0 dr_cX14_next_207 (by decide +kernel) ?_
                    refine G_istore_n (L' := [(2, .int 0), (1, .int z670784), (0, .ref q669606)]) dr_cX14_next_208 (Nat.le_of_ble_eq_true rfl) rfl ?_
                    refine G_lv (L' := [(2, .int 0), (1, .int z670784), (0, .ref q669606)]) [0, 1, 2] rfl ?_
                    exact jn670785 (Or.inr (Or.inr (Or.inr (Or.inr (⟨z670883, z670887, o670893, r670882, ez670883, r670886, hz670887, bz670887, bo670893, ht670895, r670898, r670902, r670904⟩)))))
                  · have r670905 : p669610.toInt ≠ 4 := gj_neq hc670903 (show Int32.toInt 4 = 4 by decide)
                    refine G_iconst 1 dr_cX14_next_203 (by decide +kernel) ?_
                    refine G_goto 208 dr_cX14_next_204 (by decide +kernel) ?_
                    refine G_istore_n (L' := [(2, .int 1), (1, .int z670784), (0, .ref q669606)]) dr_cX14_next_208 (Nat.le_of_ble_eq_true rfl) rfl ?_
                    clear jn670785 bz670883 bo670893'; try clear r670891; try clear w670892; try clear dc670888; try clear ds670889; try clear hp670890; try clear x670894
                    refine G_iload_n 1 dr_cX14_next_209 rfl ?_
                    refine Gw_callS (As := [.int z670784]) (gV_ok D I) (cp_667320_Reader_isLetter l hl0 D I P669604 F670776 z670784 ) dr_cX14_next_210 ⟨wr_7_222, wr_1_32, wr_7_224, by decide, rfl, (Nat.le_of_ble_eq_true rfl), (Nat.le_of_ble_eq_true rfl)⟩ wr_7_223 (show 0 + 0 ≤ ((16 * (p669608.toInt - p669609.toInt)).toNat) by first | omega | decide) (show 0 + 0 ≤ ((160 * (p669608.toInt - p669609.toInt)).toNat) by first | omega | decide) (Nat.le_of_ble_eq_true rfl) (fun r670909 w670910 dc670906 ds670907 hp670908 => ?_) (fun _ _ _ _ _ z => z.elim)
                    obtain ⟨o670911, rfl, rfl, hdc, hds, bo670911, x670912, ht670913⟩ := hp670908
                    change G _ _ _ _ _ _ _ (.int o670911 :: _) _ _ _
                    refine G_widen (cs' := 0) (sl' := 0) (by omega) (by omega) ?_
                    refine G_if_eq 223 dr_cX14_next_213 (by decide +kernel) (fun hc670914 => ?_) (fun hc670914 => ?_)
                    · have r670915 : o670911.toInt = 0 := gj_eq hc670914 (show Int32.toInt 0 = 0 by decide)
                      have bo670911' : gB o670911 0 0 := ⟨by omega, by omega⟩
                      clear bo670911'; try clear r670909; try clear w670910; try clear dc670906; try clear ds670907; try clear hp670908; try clear x670912
                      refine G_iload_n 1 dr_cX14_next_223 rfl ?_
                      refine Gw_callS (As := [.int z670784]) (gV_ok D I) (cp_665370_Reader_isDigit l hl0 D I P669604 F670776 z670784 ) dr_cX14_next_224 ⟨wr_7_219, wr_1_32, wr_7_221, by decide, rfl, (Nat.le_of_ble_eq_true rfl), (Nat.le_of_ble_eq_true rfl)⟩ wr_7_220 (show 0 + 0 ≤ ((16 * (p669608.toInt - p669609.toInt)).toNat) by first | omega | decide) (show 0 + 0 ≤ ((160 * (p669608.toInt - p669609.toInt)).toNat) by first | omega | decide) (Nat.le_of_ble_eq_true rfl) (fun r670919 w670920 dc670916 ds670917 hp670918 => ?_) (fun _ _ _ _ _ z => z.elim)
                      obtain ⟨o670921, rfl, rfl, hdc, hds, bo670921, x670922, ht670923⟩ := hp670918
                      change G _ _ _ _ _ _ _ (.int o670921 :: _) _ _ _
                      refine G_widen (cs' := 0) (sl' := 0) (by omega) (by omega) ?_
                      refine G_if_ne 234 dr_cX14_next_227 (by decide +kernel) (fun hc670924 => ?_) (fun hc670924 => ?_)
                      · have r670925 : o670921.toInt ≠ 0 := gj_neq hc670924 (show Int32.toInt 0 = 0 by decide)
                        have bo670921' : gB o670921 1 1 := ⟨by omega, by omega⟩
                        have bi670926 : gB z670784 48 57 := isP_1 x670922 (by omega)
                        refine G_aload_n 2 dr_cX14_next_234 rfl ?_
                        refine G_iload_n 0 dr_cX14_next_235 rfl ?_
                        refine Gw_callV (As := [.int 1]) (gV_ok D I) (cp_665334_Reader_number l hl0 D I P669604 F670776 q669606 q669607 1 p669608 g670759 p669610 g670759 p669612 p669610 (D.2 1000 32) p669615 p669616 p669617 qo669618 qo669619 p669620 f669621 hmq669606 hmq669607 he670780 he670779 (gB_w (gBl (show Int32.toInt 1 = 1 by decide)) (by decide) (by decide)) (gB_w bp669608' (by decide) (by decide)) bg670759 bp669610 bg670759 bp669610 bp669615 bp669616 bp669617 bp669620 bf669621 (by have qa0 : Int32.toInt 1 = 1 := (by decide); omega) (by have qa0 : Int32.toInt 1 = 1 := (by decide); omega) (by first | assumption | exact cDg_no (by omega) | exact cDg_no (by decide) | exact cDg_of (by assumption) (by omega) (by omega)) x669623 x669624) dr_cX14_next_236 ⟨wr_8_218, wr_1_32, wr_8_221, by decide, rfl, (Nat.le_of_ble_eq_true rfl), (Nat.le_of_ble_eq_true rfl)⟩ wr_8_220 wr_p_77 hmq669606 he670780 rfl (show 0 + ((16 * (p669608.toInt - g670759.toInt)).toNat) ≤ ((16 * (p669608.toInt - p669609.toInt)).toNat) by first | omega | decide) (show 0 + ((160 * (p669608.toInt - g670759.toInt)).toNat) ≤ ((160 * (p669608.toInt - p669609.toInt)).toNat) by first | omega | decide) (Nat.le_of_ble_eq_true rfl) (fun r670930 w670931 dc670927 ds670928 hp670929 => ?_) (fun _ _ _ _ _ z => z.elim)
                        obtain ⟨F670941, o670932, o670933, o670934, xt670940, rfl, rfl, hfr670943, he670944, he670945, hdc, hds, bo670932, bo670933, x670935, x670936, x670937, x670938, ht670939⟩ := hp670929
                        have hfr670946 : rFr [q669606] P669604 F669605 F670941 := rFr_call (rSub_rf (P := P669604)) hfr670781 hfr670943 (fun b hb hn => ⟨(nm_c (fun e => hn (e ▸ List.mem_cons_self)) nm_n), (nm_c (fun e => hn (e ▸ List.mem_cons_self)) nm_n)⟩)
                        have bo670934 := gB_any o670934
                        change G _ _ _ _ _ _ _ _ _ _ _
                        refine G_widen (cs' := (16 * (o670932.toInt - g670759.toInt)).toNat) (sl' := (160 * (o670932.toInt - g670759.toInt)).toNat) (by omega) (by omega) ?_
                        refine G_goto 247 dr_cX14_next_239 (by decide +kernel) ?_
                        exact G_vretA dr_cX14_next_247 rfl (show (16 * (o670932.toInt - g670759.toInt)).toNat ≤ ((16 * (p669608.toInt - p669609.toInt)).toNat) by omega) (show (160 * (o670932.toInt - g670759.toInt)).toNat ≤ ((160 * (p669608.toInt - p669609.toInt)).toNat) by omega) ⟨P669604, F670941, o670932, o670933, g670759, o670934, (D.2 1000 32), xt670940, rfl, rfl, (rSub_rf (P := P669604)), hfr670946, he670944, he670945, (by omega), (by omega), bo670932, (gB_w bo670933 (by decide) (by decide)), bg670759, (by have qa0 : Int32.toInt 1 = 1 := (by decide); omega), (Or.inr (by omega)), (by have qa0 : Int32.toInt 1 = 1 := (by decide); omega), (by first | exact tP_no (by omega) (by omega) | assumption), x670938, (fun R c1 c2 c3 c4 c5 c6 c7 c8 c9 c10 c11 c12 c13 => c4 g670759 z670784 z670883 z670887 o670893 o670911 o670921 xt670940 o670932 o670933 o670934 hx670768 r670783 hz670784 bz670784 r670882 ez670883 r670886 hz670887 bz670887 bo670893 ht670895 r670898 r670902 r670905 bo670911 ht670913 r670915 bo670921 ht670923 r670925 bo670932 bo670933 ht670939)⟩
                      · have r670947 : o670921.toInt = 0 := gj_eq hc670924 (show Int32.toInt 0 = 0 by decide)
                        have bo670921' : gB o670921 0 0 := ⟨by omega, by omega⟩
                        refine G_iload_n 0 dr_cX14_next_230 rfl ?_
                        refine G_if_eq 242 dr_cX14_next_231 (by decide +kernel) (fun hc => absurd hc (by decide)) (fun _ => ?_)
                        refine G_aload_n 2 dr_cX14_next_234 rfl ?_
                        refine G_iload_n 0 dr_cX14_next_235 rfl ?_
                        refine Gw_callV (As := [.int 1]) (gV_ok D I) (cp_665334_Reader_number l hl0 D I P669604 F670776 q669606 q669607 1 p669608 g670759 p669610 g670759 p669612 p669610 (D.2 1000 32) p669615 p669616 p669617 qo669618 qo669619 p669620 f669621 hmq669606 hmq669607 he670780 he670779 (gB_w (gBl (show Int32.toInt 1 = 1 by decide)) (by decide) (by decide)) (gB_w bp669608' (by decide) (by decide)) bg670759 bp669610 bg670759 bp669610 bp669615 bp669616 bp669617 bp669620 bf669621 (by have qa0 : Int32.toInt 1 = 1 := (by decide); omega) (by have qa0 : Int32.toInt 1 = 1 := (by decide); omega) (by first | assumption | exact cDg_no (by omega) | exact cDg_no (by decide) | exact cDg_of (by assumption) (by omega) (by omega)) x669623 x669624) dr_cX14_next_236 ⟨wr_8_218, wr_1_32, wr_8_221, by decide, rfl, (Nat.le_of_ble_eq_true rfl), (Nat.le_of_ble_eq_true rfl)⟩ wr_8_220 wr_p_77 hmq669606 he670780 rfl (show 0 + ((16 * (p669608.toInt - g670759.toInt)).toNat) ≤ ((16 * (p669608.toInt - p669609.toInt)).toNat) by first | omega | decide) (show 0 + ((160 * (p669608.toInt - g670759.toInt)).toNat) ≤ ((160 * (p669608.toInt - p669609.toInt)).toNat) by first | omega | decide) (Nat.le_of_ble_eq_true rfl) (fun r670951 w670952 dc670948 ds670949 hp670950 => ?_) (fun _ _ _ _ _ z => z.elim)
                        obtain ⟨F670962, o670953, o670954, o670955, xt670961, rfl, rfl, hfr670964, he670965, he670966, hdc, hds, bo670953, bo670954, x670956, x670957, x670958, x670959, ht670960⟩ := hp670950
                        have hfr670967 : rFr [q669606] P669604 F669605 F670962 := rFr_call (rSub_rf (P := P669604)) hfr670781 hfr670964 (fun b hb hn => ⟨(nm_c (fun e => hn (e ▸ List.mem_cons_self)) nm_n), (nm_c (fun e => hn (e ▸ List.mem_cons_self)) nm_n)⟩)
                        have bo670955 := gB_any o670955
                        change G _ _ _ _ _ _ _ _ _ _ _
                        refine G_widen (cs' := (16 * (o670953.toInt - g670759.toInt)).toNat) (sl' := (160 * (o670953.toInt - g670759.toInt)).toNat) (by omega) (by omega) ?_
                        refine G_goto 247 dr_cX14_next_239 (by decide +kernel) ?_
                        exact G_vretA dr_cX14_next_247 rfl (show (16 * (o670953.toInt - g670759.toInt)).toNat ≤ ((16 * (p669608.toInt - p669609.toInt)).toNat) by omega) (show (160 * (o670953.toInt - g670759.toInt)).toNat ≤ ((160 * (p669608.toInt - p669609.toInt)).toNat) by omega) ⟨P669604, F670962, o670953, o670954, g670759, o670955, (D.2 1000 32), xt670961, rfl, rfl, (rSub_rf (P := P669604)), hfr670967, he670965, he670966, (by omega), (by omega), bo670953, (gB_w bo670954 (by decide) (by decide)), bg670759, (by have qa0 : Int32.toInt 1 = 1 := (by decide); omega), (Or.inr (by omega)), (by have qa0 : Int32.toInt 1 = 1 := (by decide); omega), (by first | exact tP_no (by omega) (by omega) | assumption), x670959, (fun R c1 c2 c3 c4 c5 c6 c7 c8 c9 c10 c11 c12 c13 => c5 g670759 z670784 z670883 z670887 o670893 o670911 o670921 xt670961 o670953 o670954 o670955 hx670768 r670783 hz670784 bz670784 r670882 ez670883 r670886 hz670887 bz670887 bo670893 ht670895 r670898 r670902 r670905 bo670911 ht670913 r670915 bo670921 ht670923 r670947 bo670953 bo670954 ht670960)⟩
                    · have r670968 : o670911.toInt ≠ 0 := gj_neq hc670914 (show Int32.toInt 0 = 0 by decide)
                      have bo670911' : gB o670911 1 1 := ⟨by omega, by omega⟩
                      have bi670969 : gB z670784 97 122 := isP_1 x670912 (by omega)
                      refine G_aload_n 2 dr_cX14_next_216 rfl ?_
                      refine Gw_callV (As := []) (gV_ok D I) (cp_666976_Reader_word l hl0 D I P669604 F670776 q669606 q669607 p669608 g670759 p669610 g670759 p669612 p669610 (D.2 1000 32) p669615 p669616 p669617 qo669618 qo669619 p669620 f669621 hmq669606 hmq669607 he670780 he670779 (gB_w bp669608' (by decide) (by decide)) bg670759 bp669610 bg670759 bp669610 bp669615 bp669616 bp669617 bp669620 bf669621 (by have qa0 : Int32.toInt 1 = 1 := (by decide); omega) (by have qa0 : Int32.toInt 1 = 1 := (by decide); omega) (by first | assumption | exact cLt_of (by assumption) (by omega) (by omega)) x669623 x669624) dr_cX14_next_217 ⟨wr_7_225, wr_1_32, wr_7_228, by decide, rfl, (Nat.le_of_ble_eq_true rfl), (Nat.le_of_ble_eq_true rfl)⟩ wr_7_227 wr_p_76 hmq669606 he670780 rfl (show 0 + ((16 * (p669608.toInt - g670759.toInt)).toNat) ≤ ((16 * (p669608.toInt - p669609.toInt)).toNat) by first | omega | decide) (show 0 + ((160 * (p669608.toInt - g670759.toInt)).toNat) ≤ ((160 * (p669608.toInt - p669609.toInt)).toNat) by first | omega | decide) (Nat.le_of_ble_eq_true rfl) (fun r670973 w670974 dc670970 ds670971 hp670972 => ?_) (fun _ _ _ _ _ z => z.elim)
                      obtain ⟨P670985, F670986, o670975, o670976, o670977, q670978, xt670984, rfl, rfl, hsb670987, hfr670988, he670989, he670990, hdc, hds, bo670975, bo670976, x670979, x670980, x670981, x670982, ht670983⟩ := hp670972
                      have hm670991 : q669606 ∈ P670985 := hsb670987 q669606 hmq669606
                      have hm670992 : q669607 ∈ P670985 := hsb670987 q669607 hmq669607
                      have hsb670993 : rSub P669604 P670985 := rSub_tr (rSub_rf (P := P669604)) hsb670987
                      have hfr670994 : rFr [q669606] P669604 F669605 F670986 := rFr_call (rSub_rf (P := P669604)) hfr670781 hfr670988 (fun b hb hn => ⟨(nm_c (fun e => hn (e ▸ List.mem_cons_self)) nm_n), (nm_c (fun e => hn (e ▸ List.mem_cons_self)) nm_n)⟩)
                      have bo670977 := gB_any o670977
                      change G _ _ _ _ _ _ _ _ _ _ _
                      refine G_widen (cs' := (16 * (o670975.toInt - g670759.toInt)).toNat) (sl' := (160 * (o670975.toInt - g670759.toInt)).toNat) (by omega) (by omega) ?_
                      refine G_goto 247 dr_cX14_next_220 (by decide +kernel) ?_
                      exact G_vretA dr_cX14_next_247 rfl (show (16 * (o670975.toInt - g670759.toInt)).toNat ≤ ((16 * (p669608.toInt - p669609.toInt)).toNat) by omega) (show (160 * (o670975.toInt - g670759.toInt)).toNat ≤ ((160 * (p669608.toInt - p669609.toInt)).toNat) by omega) ⟨P670985, F670986, o670975, o670976, g670759, o670977, q670978, xt670984, rfl, rfl, hsb670993, hfr670994, he670989, he670990, (by omega), (by omega), bo670975, (gB_w bo670976 (by decide) (by decide)), bg670759, (by have qa0 : Int32.toInt 1 = 1 := (by decide); omega), (Or.inr (by omega)), (by have qa0 : Int32.toInt 1 = 1 := (by decide); omega), x670981, x670982, (fun R c1 c2 c3 c4 c5 c6 c7 c8 c9 c10 c11 c12 c13 => c6 g670759 z670784 z670883 z670887 o670893 o670911 xt670984 o670975 o670976 o670977 hx670768 r670783 hz670784 bz670784 r670882 ez670883 r670886 hz670887 bz670887 bo670893 ht670895 r670898 r670902 r670905 bo670911 ht670913 r670968 bo670975 bo670976 ht670983)⟩
        · have r670995 : g670759.toInt = p669608.toInt := gC_eq hc670782
          refine G_aload_n 0 dr_cX14_next_135 rfl ?_
          refine G_iconst 0 dr_cX14_next_136 (by decide +kernel) ?_
          refine Gp_put 3 hmq669606 he670780 dr_cX14_next_137 (gk_X14 D I) (Nat.le_of_ble_eq_true rfl) wr_9_39 rfl rfl rfl (Nat.le_of_ble_eq_true rfl) (fun F670996 e670997 n670998 => ?_)
          have he670999 : F670996 q669607 = .inl (I .byte, 8192, .inl f669621) := (n670998 q669607 (rn_ao he670779 he670780)).trans he670779
          have he671000 : F670996 q669606 = .inr (19, [.ref q669607, .int p669608, .int g670759, .int 0, .int g670759, .int p669612, .int p669610, .ref (D.2 1000 32), .int p669615, .int p669616, .int p669617, .ref qo669618, .ref qo669619, .int p669620]) := e670997
          have hfr671001 : rFr [q669606] P669604 F669605 F670996 := rFr_put' List.mem_cons_self hfr670781 n670998
          exact G_vretA dr_cX14_next_140 rfl (show 0 ≤ ((16 * (p669608.toInt - p669609.toInt)).toNat) by omega) (show 0 ≤ ((160 * (p669608.toInt - p669609.toInt)).toNat) by omega) ⟨P669604, F670996, g670759, 0, g670759, p669612, (D.2 1000 32), (0, fun _ => 0), rfl, rfl, (rSub_rf (P := P669604)), hfr671001, he671000, he670999, (by omega), (by omega), bg670759, (gB_w (gBl (show Int32.toInt 0 = 0 by decide)) (by decide) (by decide)), bg670759, (by have qa0 : Int32.toInt 0 = 0 := (by decide); omega), (Or.inl (by decide)), (by have qa0 : Int32.toInt 0 = 0 := (by decide); omega), (tP_no (by decide) (by decide)), (vP_no (by decide) (by decide)), (fun R c1 c2 c3 c4 c5 c6 c7 c8 c9 c10 c11 c12 c13 => c7 g670759 hx670768 r670995)⟩
      · have r671002 : g670759.toInt < p669608.toInt := gC_nle hc670766
        have bg670759' : gB g670759 0 8191 := ⟨by omega, by omega⟩
        have bp669608' : gB p669608 1 8192 := ⟨by omega, by omega⟩
        refine G_aload_n 0 dr_cX14_next_19 rfl ?_
        refine Gp_get 0 hmq669606 he670761 dr_cX14_next_20 (gk_X14 D I) (Nat.le_of_ble_eq_true rfl) wr_9_36 rfl ?_
        refine G_aload_n 0 dr_cX14_next_23 rfl ?_
        refine Gp_get 2 hmq669606 he670761 dr_cX14_next_24 (gk_X14 D I) (Nat.le_of_ble_eq_true rfl) wr_9_38 rfl ?_
        refine Gp_bald 1 hmq669607 he670762 dr_cX14_next_27 rfl (gB_in bg670759' (by decide) (by decide)) (G_nam fun z671003 hz671003 => ?_)
        have bz671003 : gB z671003 (-128) 127 := by rw [hz671003]; exact bf669621 _
        refine G_istore_n (L' := [(1, .int z671003), (0, .ref q669606)]) dr_cX14_next_28 (Nat.le_of_ble_eq_true rfl) rfl ?_
        refine G_iload_n 0 dr_cX14_next_29 rfl ?_
        refine G_bipush 59 dr_cX14_next_30 (by decide +kernel) ?_
        refine G_icmp_ne 73 dr_cX14_next_32 (by decide +kernel) (fun hc671004 => ?_) (fun hc671004 => ?_)
        · have r671005 : z671003.toInt ≠ 59 := gj_neq hc671004 (show Int32.toInt 59 = 59 by decide)
          refine G_iload_n 0 dr_cX14_next_73 rfl ?_
          refine G_bipush 9 dr_cX14_next_74 (by decide +kernel) ?_
          refine G_icmp_eq 97 dr_cX14_next_76 (by decide +kernel) (fun hc671006 => ?_) (fun hc671006 => ?_)
          · have r671007 : z671003.toInt = 9 := gj_eq hc671006 (show Int32.toInt 9 = 9 by decide)
            have bz671003' : gB z671003 9 9 := ⟨by omega, by omega⟩
            refine G_aload_n 1 dr_cX14_next_97 rfl ?_
            refine G_dup dr_cX14_next_98 rfl ?_
            refine Gp_get 2 hmq669606 he670761 dr_cX14_next_99 (gk_X14 D I) (Nat.le_of_ble_eq_true rfl) wr_9_38 rfl ?_
            refine G_iconst 1 dr_cX14_next_102 (by decide +kernel) ?_
            refine G_iadd dr_cX14_next_103 (G_nam fun z671008 hz671008 => ?_)
            have ez671008 : z671008.toInt = g670759.toInt + 1 := by rw [gI_add hz671008 bg670759' (gBl (show Int32.toInt 1 = 1 by decide)) (by decide) (by decide), show Int32.toInt 1 = 1 from by decide]
            have bz671008 : gB z671008 1 8192 := gB_add (gI_add hz671008 bg670759' (gBl (show Int32.toInt 1 = 1 by decide)) (by decide) (by decide)) bg670759' (gBl (show Int32.toInt 1 = 1 by decide)) (by decide) (by decide)
            refine Gp_put 2 hmq669606 he670761 dr_cX14_next_104 (gk_X14 D I) (Nat.le_of_ble_eq_true rfl) wr_9_38 rfl rfl rfl (Nat.le_of_ble_eq_true rfl) (fun F671009 e671010 n671011 => ?_)
            have he671012 : F671009 q669607 = .inl (I .byte, 8192, .inl f669621) := (n671011 q669607 (rn_ao he670762 he670761)).trans he670762
            have he671013 : F671009 q669606 = .inr (19, [.ref q669607, .int p669608, .int z671008, .int p669610, .int p669611, .int p669612, .int p669610, .ref qo669614, .int p669615, .int p669616, .int p669617, .ref qo669618, .ref qo669619, .int p669620]) := e671010
            have hfr671014 : rFr [q669606] P669604 F669605 F671009 := rFr_put' List.mem_cons_self hfr670763 n671011
            have x671015 : g670759.toInt < z671008.toInt := by first | omega | exact chNe (a := g670759) (b := z671008) (by assumption) (by assumption) (by omega) (by omega)
            refine G_goto 8 dr_cX14_next_107 (by decide +kernel) ?_
            refine G_lv (L' := [(0, .ref q669606)]) [1] rfl ?_
            exact ih8_670765 F671009 z671008 (gB_w bz671008 (by decide) (by decide)) hfr671014 he671013 he671012 (by omega) (by omega) (fun k e1 ht => kt8_670765 k e1 (fun R c1 c2 c3 c4 c5 c6 c7 => c2 g670759 z671003 z671008 k e1 bg670759 r671002 hz671003 bz671003 r671005 r671007 ez671008 (ht R c1 c2 c3 c4 c5 c6 c7))) (by omega)
          · have r671016 : z671003.toInt ≠ 9 := gj_neq hc671006 (show Int32.toInt 9 = 9 by decide)
            refine G_iload_n 0 dr_cX14_next_79 rfl ?_
            refine G_bipush 10 dr_cX14_next_80 (by decide +kernel) ?_
            refine G_icmp_eq 97 dr_cX14_next_82 (by decide +kernel) (fun hc671017 => ?_) (fun hc671017 => ?_)
            · have r671018 : z671003.toInt = 10 := gj_eq hc671017 (show Int32.toInt 10 = 10 by decide)
              have bz671003' : gB z671003 10 10 := ⟨by omega, by omega⟩
              refine G_aload_n 1 dr_cX14_next_97 rfl ?_
              refine G_dup dr_cX14_next_98 rfl ?_
              refine Gp_get 2 hmq669606 he670761 dr_cX14_next_99 (gk_X14 D I) (Nat.le_of_ble_eq_true rfl) wr_9_38 rfl ?_
              refine G_iconst 1 dr_cX14_next_102 (by decide +kernel) ?_
              refine G_iadd dr_cX14_next_103 (G_nam fun z671019 hz671019 => ?_)
              have ez671019 : z671019.toInt = g670759.toInt + 1 := by rw [gI_add hz671019 bg670759' (gBl (show Int32.toInt 1 = 1 by decide)) (by decide) (by decide), show Int32.toInt 1 = 1 from by decide]
              have bz671019 : gB z671019 1 8192 := gB_add (gI_add hz671019 bg670759' (gBl (show Int32.toInt 1 = 1 by decide)) (by decide) (by decide)) bg670759' (gBl (show Int32.toInt 1 = 1 by decide)) (by decide) (by decide)
              refine Gp_put 2 hmq669606 he670761 dr_cX14_next_104 (gk_X14 D I) (Nat.le_of_ble_eq_true rfl) wr_9_38 rfl rfl rfl (Nat.le_of_ble_eq_true rfl) (fun F671020 e671021 n671022 => ?_)
              have he671023 : F671020 q669607 = .inl (I .byte, 8192, .inl f669621) := (n671022 q669607 (rn_ao he670762 he670761)).trans he670762
              have he671024 : F671020 q669606 = .inr (19, [.ref q669607, .int p669608, .int z671019, .int p669610, .int p669611, .int p669612, .int p669610, .ref qo669614, .int p669615, .int p669616, .int p669617, .ref qo669618, .ref qo669619, .int p669620]) := e671021
              have hfr671025 : rFr [q669606] P669604 F669605 F671020 := rFr_put' List.mem_cons_self hfr670763 n671022
              have x671026 : g670759.toInt < z671019.toInt := by first | omega | exact chNe (a := g670759) (b := z671019) (by assumption) (by assumption) (by omega) (by omega)
              refine G_goto 8 dr_cX14_next_107 (by decide +kernel) ?_
              refine G_lv (L' := [(0, .ref q669606)]) [1] rfl ?_
              exact ih8_670765 F671020 z671019 (gB_w bz671019 (by decide) (by decide)) hfr671025 he671024 he671023 (by omega) (by omega) (fun k e1 ht => kt8_670765 k e1 (fun R c1 c2 c3 c4 c5 c6 c7 => c3 g670759 z671003 z671019 k e1 bg670759 r671002 hz671003 bz671003 r671005 r671016 r671018 ez671019 (ht R c1 c2 c3 c4 c5 c6 c7))) (by omega)
            · have r671027 : z671003.toInt ≠ 10 := gj_neq hc671017 (show Int32.toInt 10 = 10 by decide)
              refine G_iload_n 0 dr_cX14_next_85 rfl ?_
              refine G_bipush 13 dr_cX14_next_86 (by decide +kernel) ?_
              refine G_icmp_eq 97 dr_cX14_next_88 (by decide +kernel) (fun hc671028 => ?_) (fun hc671028 => ?_)
              · have r671029 : z671003.toInt = 13 := gj_eq hc671028 (show Int32.toInt 13 = 13 by decide)
                have bz671003' : gB z671003 13 13 := ⟨by omega, by omega⟩
                refine G_aload_n 1 dr_cX14_next_97 rfl ?_
                refine G_dup dr_cX14_next_98 rfl ?_
                refine Gp_get 2 hmq669606 he670761 dr_cX14_next_99 (gk_X14 D I) (Nat.le_of_ble_eq_true rfl) wr_9_38 rfl ?_
                refine G_iconst 1 dr_cX14_next_102 (by decide +kernel) ?_
                refine G_iadd dr_cX14_next_103 (G_nam fun z671030 hz671030 => ?_)
                have ez671030 : z671030.toInt = g670759.toInt + 1 := by rw [gI_add hz671030 bg670759' (gBl (show Int32.toInt 1 = 1 by decide)) (by decide) (by decide), show Int32.toInt 1 = 1 from by decide]
                have bz671030 : gB z671030 1 8192 := gB_add (gI_add hz671030 bg670759' (gBl (show Int32.toInt 1 = 1 by decide)) (by decide) (by decide)) bg670759' (gBl (show Int32.toInt 1 = 1 by decide)) (by decide) (by decide)
                refine Gp_put 2 hmq669606 he670761 dr_cX14_next_104 (gk_X14 D I) (Nat.le_of_ble_eq_true rfl) wr_9_38 rfl rfl rfl (Nat.le_of_ble_eq_true rfl) (fun F671031 e671032 n671033 => ?_)
                have he671034 : F671031 q669607 = .inl (I .byte, 8192, .inl f669621) := (n671033 q669607 (rn_ao he670762 he670761)).trans he670762
                have he671035 : F671031 q669606 = .inr (19, [.ref q669607, .int p669608, .int z671030, .int p669610, .int p669611, .int p669612, .int p669610, .ref qo669614, .int p669615, .int p669616, .int p669617, .ref qo669618, .ref qo669619, .int p669620]) := e671032
                have hfr671036 : rFr [q669606] P669604 F669605 F671031 := rFr_put' List.mem_cons_self hfr670763 n671033
                have x671037 : g670759.toInt < z671030.toInt := by first | omega | exact chNe (a := g670759) (b := z671030) (by assumption) (by assumption) (by omega) (by omega)
                refine G_goto 8 dr_cX14_next_107 (by decide +kernel) ?_
                refine G_lv (L' := [(0, .ref q669606)]) [1] rfl ?_
                exact ih8_670765 F671031 z671030 (gB_w bz671030 (by decide) (by decide)) hfr671036 he671035 he671034 (by omega) (by omega) (fun k e1 ht => kt8_670765 k e1 (fun R c1 c2 c3 c4 c5 c6 c7 => c4 g670759 z671003 z671030 k e1 bg670759 r671002 hz671003 bz671003 r671005 r671016 r671027 r671029 ez671030 (ht R c1 c2 c3 c4 c5 c6 c7))) (by omega)
              · have r671038 : z671003.toInt ≠ 13 := gj_neq hc671028 (show Int32.toInt 13 = 13 by decide)
                refine G_iload_n 0 dr_cX14_next_91 rfl ?_
                refine G_bipush 32 dr_cX14_next_92 (by decide +kernel) ?_
                refine G_icmp_ne 110 dr_cX14_next_94 (by decide +kernel) (fun hc671039 => ?_) (fun hc671039 => ?_)
                · have r671040 : z671003.toInt ≠ 32 := gj_neq hc671039 (show Int32.toInt 32 = 32 by decide)
                  have hx671041 : tl_RReader_next_8 p669608 f669621 p669609 110 g670759 := kt8_670765 110 g670759 (fun R c1 c2 c3 c4 c5 c6 c7 => c5 g670759 z671003 bg670759 r671002 hz671003 bz671003 r671005 r671016 r671027 r671038 r671040)
                  clear he669629 he669630 hfr669631
                  refine G_aload_n 1 dr_cX14_next_110 rfl ?_
                  refine G_aload_n 1 dr_cX14_next_111 rfl ?_
                  refine Gp_get 2 hmq669606 he670761 dr_cX14_next_112 (gk_X14 D I) (Nat.le_of_ble_eq_true rfl) wr_9_38 rfl ?_
                  refine Gp_put 4 hmq669606 he670761 dr_cX14_next_115 (gk_X14 D I) (Nat.le_of_ble_eq_true rfl) wr_9_40 rfl rfl rfl (Nat.le_of_ble_eq_true rfl) (fun F671042 e671043 n671044 => ?_)
                  have he671045 : F671042 q669607 = .inl (I .byte, 8192, .inl f669621) := (n671044 q669607 (rn_ao he670762 he670761)).trans he670762
                  have he671046 : F671042 q669606 = .inr (19, [.ref q669607, .int p669608, .int g670759, .int p669610, .int g670759, .int p669612, .int p669610, .ref qo669614, .int p669615, .int p669616, .int p669617, .ref qo669618, .ref qo669619, .int p669620]) := e671043
                  have hfr671047 : rFr [q669606] P669604 F669605 F671042 := rFr_put' List.mem_cons_self hfr670763 n671044
                  refine G_aload_n 1 dr_cX14_next_118 rfl ?_
                  refine G_ldcK (a := D.2 1000 32) dr_cX14_next_119 (fun _ _ _ h => gx_vk 32 rfl rfl h) ?_
                  have hl32_671047 : (sb_32.length : Int) = 0 := rfl
                  refine Gp_put 7 hmq669606 he671046 dr_cX14_next_121 (gk_X14 D I) (Nat.le_of_ble_eq_true rfl) wr_9_43 rfl rfl rfl (Nat.le_of_ble_eq_true rfl) (fun F671049 e671050 n671051 => ?_)
                  have he671052 : F671049 q669607 = .inl (I .byte, 8192, .inl f669621) := (n671051 q669607 (rn_ao he671045 he671046)).trans he671045
                  have he671053 : F671049 q669606 = .inr (19, [.ref q669607, .int p669608, .int g670759, .int p669610, .int g670759, .int p669612, .int p669610, .ref (D.2 1000 32), .int p669615, .int p669616, .int p669617, .ref qo669618, .ref qo669619, .int p669620]) := e671050
                  have hfr671054 : rFr [q669606] P669604 F669605 F671049 := rFr_put' List.mem_cons_self hfr671047 n671051
                  clear he671045 he671046 hfr671047
                  refine G_aload_n 1 dr_cX14_next_124 rfl ?_
                  refine Gp_get 2 hmq669606 he671053 dr_cX14_next_125 (gk_X14 D I) (Nat.le_of_ble_eq_true rfl) wr_9_38 rfl ?_
                  refine G_aload_n 1 dr_cX14_next_128 rfl ?_
                  refine Gp_get 1 hmq669606 he671053 dr_cX14_next_129 (gk_X14 D I) (Nat.le_of_ble_eq_true rfl) wr_9_37 rfl ?_
                  refine G_icmp_ne 141 dr_cX14_next_132 (by decide +kernel) (fun hc671055 => ?_) (fun hc671055 => ?_)
                  · have r671056 : g670759.toInt ≠ p669608.toInt := gC_ne hc671055
                    refine G_aload_n 1 dr_cX14_next_141 rfl ?_
                    refine Gp_get 0 hmq669606 he671053 dr_cX14_next_142 (gk_X14 D I) (Nat.le_of_ble_eq_true rfl) wr_9_36 rfl ?_
                    refine G_aload_n 1 dr_cX14_next_145 rfl ?_
                    refine Gp_get 2 hmq669606 he671053 dr_cX14_next_146 (gk_X14 D I) (Nat.le_of_ble_eq_true rfl) wr_9_38 rfl ?_
                    refine Gp_bald 1 hmq669607 he671052 dr_cX14_next_149 rfl (gB_in bg670759' (by decide) (by decide)) (G_eqi (y := z671003) hz671003.symm ?_)
                    refine G_istore_n (L' := [(1, .int z671003), (0, .ref q669606)]) dr_cX14_next_150 (Nat.le_of_ble_eq_true rfl) rfl ?_
                    have jn671057 : ((z671003.toInt ≠ 45) ∨ (∃ (y1 : Int32), z671003.toInt = 45 ∧ y1.toInt = g670759.toInt + 1 ∧ p669608.toInt ≤ y1.toInt) ∨ (∃ (y1 : Int32) (y2 : Int32) (y3 : Int32), z671003.toInt = 45 ∧ y1.toInt = g670759.toInt + 1 ∧ y1.toInt < p669608.toInt ∧ y2 = f669621 y1.toNatClampNeg ∧ gB y2 (-128) 127 ∧ gB y3 0 1 ∧ tr_RReader_isDigit2 y2 y3 ∧ y3.toInt = 0) ∨ (∃ (y1 : Int32) (y2 : Int32) (y3 : Int32), z671003.toInt = 45 ∧ y1.toInt = g670759.toInt + 1 ∧ y1.toInt < p669608.toInt ∧ y2 = f669621 y1.toNatClampNeg ∧ gB y2 (-128) 127 ∧ gB y3 0 1 ∧ tr_RReader_isDigit2 y2 y3 ∧ y3.toInt ≠ 0 ∧ p669610.toInt = 2) ∨ (∃ (y1 : Int32) (y2 : Int32) (y3 : Int32), z671003.toInt = 45 ∧ y1.toInt = g670759.toInt + 1 ∧ y1.toInt < p669608.toInt ∧ y2 = f669621 y1.toNatClampNeg ∧ gB y2 (-128) 127 ∧ gB y3 0 1 ∧ tr_RReader_isDigit2 y2 y3 ∧ y3.toInt ≠ 0 ∧ p669610.toInt ≠ 2 ∧ p669610.toInt = 4)) → G (gV D I) l (gRm 7 155 ((16 * (p669608.toInt - p669609.toInt)).toNat) ((160 * (p669608.toInt - p669609.toInt)).toNat)) (gMA (gV D I) (pp_669625_Reader_next D I P669604 F669605 q669606 q669607 p669608 p669609 p669610 p669611 p669612 p669613 qo669614 p669615 p669616 p669617 qo669618 qo669619 p669620 f669621) gNA ((16 * (p669608.toInt - p669609.toInt)).toNat) ((160 * (p669608.toInt - p669609.toInt)).toNat)) ky_669625_Reader_next 209 [(2, .int 0), (1, .int z671003), (0, .ref q669606)] [] (va_pl P669604 F671049) 0 0 := by
                      intro hJ671058
                      refine G_iload_n 1 dr_cX14_next_209 rfl ?_
                      refine Gw_callS (As := [.int z671003]) (gV_ok D I) (cp_667320_Reader_isLetter l hl0 D I P669604 F671049 z671003 ) dr_cX14_next_210 ⟨wr_7_222, wr_1_32, wr_7_224, by decide, rfl, (Nat.le_of_ble_eq_true rfl), (Nat.le_of_ble_eq_true rfl)⟩ wr_7_223 (show 0 + 0 ≤ ((16 * (p669608.toInt - p669609.toInt)).toNat) by first | omega | decide) (show 0 + 0 ≤ ((160 * (p669608.toInt - p669609.toInt)).toNat) by first | omega | decide) (Nat.le_of_ble_eq_true rfl) (fun r671062 w671063 dc671059 ds671060 hp671061 => ?_) (fun _ _ _ _ _ z => z.elim)
                      obtain ⟨o671064, rfl, rfl, hdc, hds, bo671064, x671065, ht671066⟩ := hp671061
                      change G _ _ _ _ _ _ _ (.int o671064 :: _) _ _ _
                      refine G_widen (cs' := 0) (sl' := 0) (by omega) (by omega) ?_
                      refine G_if_eq 223 dr_cX14_next_213 (by decide +kernel) (fun hc671067 => ?_) (fun hc671067 => ?_)
                      · have r671068 : o671064.toInt = 0 := gj_eq hc671067 (show Int32.toInt 0 = 0 by decide)
                        have bo671064' : gB o671064 0 0 := ⟨by omega, by omega⟩
                        clear bo671064'; try clear r671062; try clear w671063; try clear dc671059; try clear ds671060; try clear hp671061; try clear x671065
                        refine G_iload_n 1 dr_cX14_next_223 rfl ?_
                        refine Gw_callS (As := [.int z671003]) (gV_ok D I) (cp_665370_Reader_isDigit l hl0 D I P669604 F671049 z671003 ) dr_cX14_next_224 ⟨wr_7_219, wr_1_32, wr_7_221, by decide, rfl, (Nat.le_of_ble_eq_true rfl), (Nat.le_of_ble_eq_true rfl)⟩ wr_7_220 (show 0 + 0 ≤ ((16 * (p669608.toInt - p669609.toInt)).toNat) by first | omega | decide) (show 0 + 0 ≤ ((160 * (p669608.toInt - p669609.toInt)).toNat) by first | omega | decide) (Nat.le_of_ble_eq_true rfl) (fun r671072 w671073 dc671069 ds671070 hp671071 => ?_) (fun _ _ _ _ _ z => z.elim)
                        obtain ⟨o671074, rfl, rfl, hdc, hds, bo671074, x671075, ht671076⟩ := hp671071
                        change G _ _ _ _ _ _ _ (.int o671074 :: _) _ _ _
                        refine G_widen (cs' := 0) (sl' := 0) (by omega) (by omega) ?_
                        refine G_if_ne 234 dr_cX14_next_227 (by decide +kernel) (fun hc671077 => ?_) (fun hc671077 => ?_)
                        · have r671078 : o671074.toInt ≠ 0 := gj_neq hc671077 (show Int32.toInt 0 = 0 by decide)
                          have bo671074' : gB o671074 1 1 := ⟨by omega, by omega⟩
                          have bi671079 : gB z671003 48 57 := isP_1 x671075 (by omega)
                          refine G_aload_n 2 dr_cX14_next_234 rfl ?_
                          refine G_iload_n 0 dr_cX14_next_235 rfl ?_
                          refine Gw_callV (As := [.int 0]) (gV_ok D I) (cp_665334_Reader_number l hl0 D I P669604 F671049 q669606 q669607 0 p669608 g670759 p669610 g670759 p669612 p669610 (D.2 1000 32) p669615 p669616 p669617 qo669618 qo669619 p669620 f669621 hmq669606 hmq669607 he671053 he671052 (gB_w (gBl (show Int32.toInt 0 = 0 by decide)) (by decide) (by decide)) (gB_w bp669608' (by decide) (by decide)) (gB_w bg670759' (by decide) (by decide)) bp669610 (gB_w bg670759' (by decide) (by decide)) bp669610 bp669615 bp669616 bp669617 bp669620 bf669621 (by have qa0 : Int32.toInt 0 = 0 := (by decide); omega) (by have qa0 : Int32.toInt 0 = 0 := (by decide); omega) (by first | assumption | exact cDg_no (by omega) | exact cDg_no (by decide) | exact cDg_of (by assumption) (by omega) (by omega)) x669623 x669624) dr_cX14_next_236 ⟨wr_8_218, wr_1_32, wr_8_221, by decide, rfl, (Nat.le_of_ble_eq_true rfl), (Nat.le_of_ble_eq_true rfl)⟩ wr_8_220 wr_p_77 hmq669606 he671053 rfl (show 0 + ((16 * (p669608.toInt - g670759.toInt)).toNat) ≤ ((16 * (p669608.toInt - p669609.toInt)).toNat) by first | omega | decide) (show 0 + ((160 * (p669608.toInt - g670759.toInt)).toNat) ≤ ((160 * (p669608.toInt - p669609.toInt)).toNat) by first | omega | decide) (Nat.le_of_ble_eq_true rfl) (fun r671083 w671084 dc671080 ds671081 hp671082 => ?_) (fun _ _ _ _ _ z => z.elim)
                          obtain ⟨F671094, o671085, o671086, o671087, xt671093, rfl, rfl, hfr671096, he671097, he671098, hdc, hds, bo671085, bo671086, x671088, x671089, x671090, x671091, ht671092⟩ := hp671082
                          have hfr671099 : rFr [q669606] P669604 F669605 F671094 := rFr_call (rSub_rf (P := P669604)) hfr671054 hfr671096 (fun b hb hn => ⟨(nm_c (fun e => hn (e ▸ List.mem_cons_self)) nm_n), (nm_c (fun e => hn (e ▸ List.mem_cons_self)) nm_n)⟩)
                          have bo671087 := gB_any o671087
                          change G _ _ _ _ _ _ _ _ _ _ _
                          refine G_widen (cs' := (16 * (o671085.toInt - g670759.toInt)).toNat) (sl' := (160 * (o671085.toInt - g670759.toInt)).toNat) (by omega) (by omega) ?_
                          refine G_goto 247 dr_cX14_next_239 (by decide +kernel) ?_
                          exact G_vretA dr_cX14_next_247 rfl (show (16 * (o671085.toInt - g670759.toInt)).toNat ≤ ((16 * (p669608.toInt - p669609.toInt)).toNat) by omega) (show (160 * (o671085.toInt - g670759.toInt)).toNat ≤ ((160 * (p669608.toInt - p669609.toInt)).toNat) by omega) ⟨P669604, F671094, o671085, o671086, g670759, o671087, (D.2 1000 32), xt671093, rfl, rfl, (rSub_rf (P := P669604)), hfr671099, he671097, he671098, (by omega), (by omega), bo671085, (gB_w bo671086 (by decide) (by decide)), (gB_w bg670759' (by decide) (by decide)), (by have qa0 : Int32.toInt 0 = 0 := (by decide); omega), (Or.inr (by omega)), (by have qa0 : Int32.toInt 0 = 0 := (by decide); omega), (by first | exact tP_no (by omega) (by omega) | assumption), x671091, (fun R c1 c2 c3 c4 c5 c6 c7 c8 c9 c10 c11 c12 c13 => c8 g670759 z671003 o671064 o671074 xt671093 o671085 o671086 o671087 hx671041 r671056 hz671003 hJ671058 bo671064 ht671066 r671068 bo671074 ht671076 r671078 bo671085 bo671086 ht671092)⟩
                        · have r671100 : o671074.toInt = 0 := gj_eq hc671077 (show Int32.toInt 0 = 0 by decide)
                          have bo671074' : gB o671074 0 0 := ⟨by omega, by omega⟩
                          refine G_iload_n 0 dr_cX14_next_230 rfl ?_
                          refine G_if_eq 242 dr_cX14_next_231 (by decide +kernel) (fun _ => ?_) (fun hc => absurd hc (by decide))
                          refine G_aload_n 2 dr_cX14_next_242 rfl ?_
                          refine G_iload_n 1 dr_cX14_next_243 rfl ?_
                          refine Gw_callV (As := [.int z671003]) (gV_ok D I) (cp_665957_Reader_symbol l hl0 D I P669604 F671049 q669606 q669607 z671003 p669608 g670759 p669610 g670759 p669612 p669610 (D.2 1000 32) p669615 p669616 p669617 qo669618 qo669619 p669620 f669621 hmq669606 hmq669607 he671053 he671052 bz671003 (gB_w bp669608' (by decide) (by decide)) (gB_w bg670759' (by decide) (by decide)) bp669610 (gB_w bg670759' (by decide) (by decide)) bp669610 bp669615 bp669616 bp669617 bp669620 bf669621 (by have qa0 : Int32.toInt 0 = 0 := (by decide); omega) (by have qa0 : Int32.toInt 0 = 0 := (by decide); omega) x669623 x669624) dr_cX14_next_244 ⟨wr_8_223, wr_1_32, wr_8_226, by decide, rfl, (Nat.le_of_ble_eq_true rfl), (Nat.le_of_ble_eq_true rfl)⟩ wr_8_225 wr_p_78 hmq669606 he671053 rfl (show 0 + ((16 * (p669608.toInt - g670759.toInt)).toNat) ≤ ((16 * (p669608.toInt - p669609.toInt)).toNat) by first | omega | decide) (show 0 + ((160 * (p669608.toInt - g670759.toInt)).toNat) ≤ ((160 * (p669608.toInt - p669609.toInt)).toNat) by first | omega | decide) (Nat.le_of_ble_eq_true rfl) (fun r671104 w671105 dc671101 ds671102 hp671103 => ?_) (fun _ _ _ _ _ z => z.elim)
                          obtain ⟨P671115, F671116, o671106, o671107, q671108, xt671114, rfl, rfl, hsb671117, hfr671118, he671119, he671120, hdc, hds, bo671106, bo671107, x671109, x671110, x671111, x671112, ht671113⟩ := hp671103
                          have hm671121 : q669606 ∈ P671115 := hsb671117 q669606 hmq669606
                          have hm671122 : q669607 ∈ P671115 := hsb671117 q669607 hmq669607
                          have hsb671123 : rSub P669604 P671115 := rSub_tr (rSub_rf (P := P669604)) hsb671117
                          have hfr671124 : rFr [q669606] P669604 F669605 F671116 := rFr_call (rSub_rf (P := P669604)) hfr671054 hfr671118 (fun b hb hn => ⟨(nm_c (fun e => hn (e ▸ List.mem_cons_self)) nm_n), (nm_c (fun e => hn (e ▸ List.mem_cons_self)) nm_n)⟩)
                          change G _ _ _ _ _ _ _ _ _ _ _
                          refine G_widen (cs' := (16 * (o671106.toInt - g670759.toInt)).toNat) (sl' := (160 * (o671106.toInt - g670759.toInt)).toNat) (by omega) (by omega) ?_
                          exact G_vretA dr_cX14_next_247 rfl (show (16 * (o671106.toInt - g670759.toInt)).toNat ≤ ((16 * (p669608.toInt - p669609.toInt)).toNat) by omega) (show (160 * (o671106.toInt - g670759.toInt)).toNat ≤ ((160 * (p669608.toInt - p669609.toInt)).toNat) by omega) ⟨P671115, F671116, o671106, o671107, g670759, p669612, q671108, xt671114, rfl, rfl, hsb671123, hfr671124, he671119, he671120, (by omega), (by omega), (gB_w bo671106 (by decide) (by decide)), (gB_w bo671107 (by decide) (by decide)), (gB_w bg670759' (by decide) (by decide)), (by have qa0 : Int32.toInt 0 = 0 := (by decide); omega), (Or.inr (by omega)), (by have qa0 : Int32.toInt 0 = 0 := (by decide); omega), x671111, x671112, (fun R c1 c2 c3 c4 c5 c6 c7 c8 c9 c10 c11 c12 c13 => c9 g670759 z671003 o671064 o671074 xt671114 o671106 o671107 hx671041 r671056 hz671003 hJ671058 bo671064 ht671066 r671068 bo671074 ht671076 r671100 bo671106 bo671107 ht671113)⟩
                      · have r671125 : o671064.toInt ≠ 0 := gj_neq hc671067 (show Int32.toInt 0 = 0 by decide)
                        have bo671064' : gB o671064 1 1 := ⟨by omega, by omega⟩
                        have bi671126 : gB z671003 97 122 := isP_1 x671065 (by omega)
                        refine G_aload_n 2 dr_cX14_next_216 rfl ?_
                        refine Gw_callV (As := []) (gV_ok D I) (cp_666976_Reader_word l hl0 D I P669604 F671049 q669606 q669607 p669608 g670759 p669610 g670759 p669612 p669610 (D.2 1000 32) p669615 p669616 p669617 qo669618 qo669619 p669620 f669621 hmq669606 hmq669607 he671053 he671052 (gB_w bp669608' (by decide) (by decide)) (gB_w bg670759' (by decide) (by decide)) bp669610 (gB_w bg670759' (by decide) (by decide)) bp669610 bp669615 bp669616 bp669617 bp669620 bf669621 (by have qa0 : Int32.toInt 0 = 0 := (by decide); omega) (by have qa0 : Int32.toInt 0 = 0 := (by decide); omega) (by first | assumption | exact cLt_of (by assumption) (by omega) (by omega)) x669623 x669624) dr_cX14_next_217 ⟨wr_7_225, wr_1_32, wr_7_228, by decide, rfl, (Nat.le_of_ble_eq_true rfl), (Nat.le_of_ble_eq_true rfl)⟩ wr_7_227 wr_p_76 hmq669606 he671053 rfl (show 0 + ((16 * (p669608.toInt - g670759.toInt)).toNat) ≤ ((16 * (p669608.toInt - p669609.toInt)).toNat) by first | omega | decide) (show 0 + ((160 * (p669608.toInt - g670759.toInt)).toNat) ≤ ((160 * (p669608.toInt - p669609.toInt)).toNat) by first | omega | decide) (Nat.le_of_ble_eq_true rfl) (fun r671130 w671131 dc671127 ds671128 hp671129 => ?_) (fun _ _ _ _ _ z => z.elim)
                        obtain ⟨P671142, F671143, o671132, o671133, o671134, q671135, xt671141, rfl, rfl, hsb671144, hfr671145, he671146, he671147, hdc, hds, bo671132, bo671133, x671136, x671137, x671138, x671139, ht671140⟩ := hp671129
                        have hm671148 : q669606 ∈ P671142 := hsb671144 q669606 hmq669606
                        have hm671149 : q669607 ∈ P671142 := hsb671144 q669607 hmq669607
                        have hsb671150 : rSub P669604 P671142 := rSub_tr (rSub_rf (P := P669604)) hsb671144
                        have hfr671151 : rFr [q669606] P669604 F669605 F671143 := rFr_call (rSub_rf (P := P669604)) hfr671054 hfr671145 (fun b hb hn => ⟨(nm_c (fun e => hn (e ▸ List.mem_cons_self)) nm_n), (nm_c (fun e => hn (e ▸ List.mem_cons_self)) nm_n)⟩)
                        have bo671134 := gB_any o671134
                        change G _ _ _ _ _ _ _ _ _ _ _
                        refine G_widen (cs' := (16 * (o671132.toInt - g670759.toInt)).toNat) (sl' := (160 * (o671132.toInt - g670759.toInt)).toNat) (by omega) (by omega) ?_
                        refine G_goto 247 dr_cX14_next_220 (by decide +kernel) ?_
                        exact G_vretA dr_cX14_next_247 rfl (show (16 * (o671132.toInt - g670759.toInt)).toNat ≤ ((16 * (p669608.toInt - p669609.toInt)).toNat) by omega) (show (160 * (o671132.toInt - g670759.toInt)).toNat ≤ ((160 * (p669608.toInt - p669609.toInt)).toNat) by omega) ⟨P671142, F671143, o671132, o671133, g670759, o671134, q671135, xt671141, rfl, rfl, hsb671150, hfr671151, he671146, he671147, (by omega), (by omega), bo671132, (gB_w bo671133 (by decide) (by decide)), (gB_w bg670759' (by decide) (by decide)), (by have qa0 : Int32.toInt 0 = 0 := (by decide); omega), (Or.inr (by omega)), (by have qa0 : Int32.toInt 0 = 0 := (by decide); omega), x671138, x671139, (fun R c1 c2 c3 c4 c5 c6 c7 c8 c9 c10 c11 c12 c13 => c10 g670759 z671003 o671064 xt671141 o671132 o671133 o671134 hx671041 r671056 hz671003 hJ671058 bo671064 ht671066 r671125 bo671132 bo671133 ht671140)⟩
                    refine G_iload_n 0 dr_cX14_next_151 rfl ?_
                    refine G_bipush 45 dr_cX14_next_152 (by decide +kernel) ?_
                    refine G_icmp_ne 207 dr_cX14_next_154 (by decide +kernel) (fun hc671152 => ?_) (fun hc671152 => ?_)
                    · have r671153 : z671003.toInt ≠ 45 := gj_neq hc671152 (show Int32.toInt 45 = 45 by decide)
                      refine G_iconst 0 dr_cX14_next_207 (by decide +kernel) ?_
                      refine G_istore_n (L' := [(2, .int 0), (1, .int z671003), (0, .ref q669606)]) dr_cX14_next_208 (Nat.le_of_ble_eq_true rfl) rfl ?_
                      refine G_lv (L' := [(2, .int 0), (1, .int z671003), (0, .ref q669606)]) [0, 1, 2] rfl ?_
                      exact jn671057 (Or.inl r671153)
                    · have r671154 : z671003.toInt = 45 := gj_eq hc671152 (show Int32.toInt 45 = 45 by decide)
                      have bz671003' : gB z671003 45 45 := ⟨by omega, by omega⟩
                      refine G_aload_n 1 dr_cX14_next_157 rfl ?_
                      refine Gp_get 2 hmq669606 he671053 dr_cX14_next_158 (gk_X14 D I) (Nat.le_of_ble_eq_true rfl) wr_9_38 rfl ?_
                      refine G_iconst 1 dr_cX14_next_161 (by decide +kernel) ?_
                      refine G_iadd dr_cX14_next_162 (G_nam fun z671155 hz671155 => ?_)
                      have ez671155 : z671155.toInt = g670759.toInt + 1 := by rw [gI_add hz671155 bg670759' (gBl (show Int32.toInt 1 = 1 by decide)) (by decide) (by decide), show Int32.toInt 1 = 1 from by decide]
                      have bz671155 : gB z671155 1 8192 := gB_add (gI_add hz671155 bg670759' (gBl (show Int32.toInt 1 = 1 by decide)) (by decide) (by decide)) bg670759' (gBl (show Int32.toInt 1 = 1 by decide)) (by decide) (by decide)
                      refine G_aload_n 1 dr_cX14_next_163 rfl ?_
                      refine Gp_get 1 hmq669606 he671053 dr_cX14_next_164 (gk_X14 D I) (Nat.le_of_ble_eq_true rfl) wr_9_37 rfl ?_
                      refine G_icmp_ge 207 dr_cX14_next_167 (by decide +kernel) (fun hc671156 => ?_) (fun hc671156 => ?_)
                      · have r671157 : p669608.toInt ≤ z671155.toInt := gC_le hc671156
                        refine G_iconst 0 dr_cX14_next_207 (by decide +kernel) ?_
                        refine G_istore_n (L' := [(2, .int 0), (1, .int z671003), (0, .ref q669606)]) dr_cX14_next_208 (Nat.le_of_ble_eq_true rfl) rfl ?_
                        refine G_lv (L' := [(2, .int 0), (1, .int z671003), (0, .ref q669606)]) [0, 1, 2] rfl ?_
                        exact jn671057 (Or.inr (Or.inl ⟨z671155, r671154, ez671155, r671157⟩))
                      · have r671158 : z671155.toInt < p669608.toInt := gC_nle hc671156
                        have bz671155' : gB z671155 1 8191 := ⟨by omega, by omega⟩
                        have bp669608'' : gB p669608 2 8192 := ⟨by omega, by omega⟩
                        refine G_aload_n 1 dr_cX14_next_170 rfl ?_
                        refine Gp_get 0 hmq669606 he671053 dr_cX14_next_171 (gk_X14 D I) (Nat.le_of_ble_eq_true rfl) wr_9_36 rfl ?_
                        refine G_aload_n 1 dr_cX14_next_174 rfl ?_
                        refine Gp_get 2 hmq669606 he671053 dr_cX14_next_175 (gk_X14 D I) (Nat.le_of_ble_eq_true rfl) wr_9_38 rfl ?_
                        refine G_iconst 1 dr_cX14_next_178 (by decide +kernel) ?_
                        refine G_iadd dr_cX14_next_179 (G_eqi (y := z671155) hz671155.symm ?_)
                        refine Gp_bald 1 hmq669607 he671052 dr_cX14_next_180 rfl (gB_in bz671155' (by decide) (by decide)) (G_nam fun z671159 hz671159 => ?_)
                        have bz671159 : gB z671159 (-128) 127 := by rw [hz671159]; exact bf669621 _
                        refine Gw_callS (As := [.int z671159]) (gV_ok D I) (cp_665370_Reader_isDigit l hl0 D I P669604 F671049 z671159 ) dr_cX14_next_181 ⟨wr_7_219, wr_1_32, wr_7_221, by decide, rfl, (Nat.le_of_ble_eq_true rfl), (Nat.le_of_ble_eq_true rfl)⟩ wr_7_220 (show 0 + 0 ≤ ((16 * (p669608.toInt - p669609.toInt)).toNat) by first | omega | decide) (show 0 + 0 ≤ ((160 * (p669608.toInt - p669609.toInt)).toNat) by first | omega | decide) (Nat.le_of_ble_eq_true rfl) (fun r671163 w671164 dc671160 ds671161 hp671162 => ?_) (fun _ _ _ _ _ z => z.elim)
                        obtain ⟨o671165, rfl, rfl, hdc, hds, bo671165, x671166, ht671167⟩ := hp671162
                        change G _ _ _ _ _ _ _ (.int o671165 :: _) _ _ _
                        refine G_widen (cs' := 0) (sl' := 0) (by omega) (by omega) ?_
                        refine G_if_eq 207 dr_cX14_next_184 (by decide +kernel) (fun hc671168 => ?_) (fun hc671168 => ?_)
                        · have r671169 : o671165.toInt = 0 := gj_eq hc671168 (show Int32.toInt 0 = 0 by decide)
                          have bo671165' : gB o671165 0 0 := ⟨by omega, by omega⟩
                          refine G_iconst 0 dr_cX14_next_207 (by decide +kernel) ?_
                          refine G_istore_n (L' := [(2, .int 0), (1, .int z671003), (0, .ref q669606)]) dr_cX14_next_208 (Nat.le_of_ble_eq_true rfl) rfl ?_
                          refine G_lv (L' := [(2, .int 0), (1, .int z671003), (0, .ref q669606)]) [0, 1, 2] rfl ?_
                          exact jn671057 (Or.inr (Or.inr (Or.inl ⟨z671155, z671159, o671165, r671154, ez671155, r671158, hz671159, bz671159, bo671165, ht671167, r671169⟩)))
                        · have r671170 : o671165.toInt ≠ 0 := gj_neq hc671168 (show Int32.toInt 0 = 0 by decide)
                          have bo671165' : gB o671165 1 1 := ⟨by omega, by omega⟩
                          have bi671171 : gB z671159 48 57 := isP_1 x671166 (by omega)
                          refine G_aload_n 1 dr_cX14_next_187 rfl ?_
                          refine Gp_get 6 hmq669606 he671053 dr_cX14_next_188 (gk_X14 D I) (Nat.le_of_ble_eq_true rfl) wr_9_42 rfl ?_
                          refine G_iconst 2 dr_cX14_next_191 (by decide +kernel) ?_
                          refine G_icmp_eq 207 dr_cX14_next_192 (by decide +kernel) (fun hc671172 => ?_) (fun hc671172 => ?_)
                          · have r671173 : p669610.toInt = 2 := gj_eq hc671172 (show Int32.toInt 2 = 2 by decide)
                            have bp669610' : gB p669610 2 2 := ⟨by omega, by omega⟩
                            refine G_iconst 0 dr_cX14_next_207 (by decide +kernel) ?_
                            refine G_istore_n (L' := [(2, .int 0), (1, .int z671003), (0, .ref q669606)]) dr_cX14_next_208 (Nat.le_of_ble_eq_true rfl) rfl ?_
                            refine G_lv (L' := [(2, .int 0), (1, .int z671003), (0, .ref q669606)]) [0, 1, 2] rfl ?_
                            exact jn671057 (Or.inr (Or.inr (Or.inr (Or.inl ⟨z671155, z671159, o671165, r671154, ez671155, r671158, hz671159, bz671159, bo671165, ht671167, r671170, r671173⟩))))
                          · have r671174 : p669610.toInt ≠ 2 := gj_neq hc671172 (show Int32.toInt 2 = 2 by decide)
                            refine G_aload_n 1 dr_cX14_next_195 rfl ?_
                            refine Gp_get 6 hmq669606 he671053 dr_cX14_next_196 (gk_X14 D I) (Nat.le_of_ble_eq_true rfl) wr_9_42 rfl ?_
                            refine G_iconst 4 dr_cX14_next_199 (by decide +kernel) ?_
                            refine G_icmp_eq 207 dr_cX14_next_200 (by decide +kernel) (fun hc671175 => ?_) (fun hc671175 => ?_)
                            · have r671176 : p669610.toInt = 4 := gj_eq hc671175 (show Int32.toInt 4 = 4 by decide)
                              have bp669610' : gB p669610 4 4 := ⟨by omega, by omega⟩
                              refine G_iconst 0 dr_cX14_next_207 (by decide +kernel) ?_
                              refine G_istore_n (L' := [(2, .int 0), (1, .int z671003), (0, .ref q669606)]) dr_cX14_next_208 (Nat.le_of_ble_eq_true rfl) rfl ?_
                              refine G_lv (L' := [(2, .int 0), (1, .int z671003), (0, .ref q669606)]) [0, 1, 2] rfl ?_
                              exact jn671057 (Or.inr (Or.inr (Or.inr (Or.inr (⟨z671155, z671159, o671165, r671154, ez671155, r671158, hz671159, bz671159, bo671165, ht671167, r671170, r671174, r671176⟩)))))
                            · have r671177 : p669610.toInt ≠ 4 := gj_neq hc671175 (show Int32.toInt 4 = 4 by decide)
                              refine G_iconst 1 dr_cX14_next_203 (by decide +kernel) ?_
                              refine G_goto 208 dr_cX14_next_204 (by decide +kernel) ?_
                              refine G_istore_n (L' := [(2, .int 1), (1, .int z671003), (0, .ref q669606)]) dr_cX14_next_208 (Nat.le_of_ble_eq_true rfl) rfl ?_
                              clear bp669608' bz671003 jn671057 bz671155 bo671165'; try clear r671163; try clear w671164; try clear dc671160; try clear ds671161; try clear hp671162; try clear x671166
                              refine G_iload_n 1 dr_cX14_next_209 rfl ?_
                              refine Gw_callS (As := [.int z671003]) (gV_ok D I) (cp_667320_Reader_isLetter l hl0 D I P669604 F671049 z671003 ) dr_cX14_next_210 ⟨wr_7_222, wr_1_32, wr_7_224, by decide, rfl, (Nat.le_of_ble_eq_true rfl), (Nat.le_of_ble_eq_true rfl)⟩ wr_7_223 (show 0 + 0 ≤ ((16 * (p669608.toInt - p669609.toInt)).toNat) by first | omega | decide) (show 0 + 0 ≤ ((160 * (p669608.toInt - p669609.toInt)).toNat) by first | omega | decide) (Nat.le_of_ble_eq_true rfl) (fun r671181 w671182 dc671178 ds671179 hp671180 => ?_) (fun _ _ _ _ _ z => z.elim)
                              obtain ⟨o671183, rfl, rfl, hdc, hds, bo671183, x671184, ht671185⟩ := hp671180
                              change G _ _ _ _ _ _ _ (.int o671183 :: _) _ _ _
                              refine G_widen (cs' := 0) (sl' := 0) (by omega) (by omega) ?_
                              refine G_if_eq 223 dr_cX14_next_213 (by decide +kernel) (fun hc671186 => ?_) (fun hc671186 => ?_)
                              · have r671187 : o671183.toInt = 0 := gj_eq hc671186 (show Int32.toInt 0 = 0 by decide)
                                have bo671183' : gB o671183 0 0 := ⟨by omega, by omega⟩
                                clear bo671183'; try clear r671181; try clear w671182; try clear dc671178; try clear ds671179; try clear hp671180; try clear x671184
                                refine G_iload_n 1 dr_cX14_next_223 rfl ?_
                                refine Gw_callS (As := [.int z671003]) (gV_ok D I) (cp_665370_Reader_isDigit l hl0 D I P669604 F671049 z671003 ) dr_cX14_next_224 ⟨wr_7_219, wr_1_32, wr_7_221, by decide, rfl, (Nat.le_of_ble_eq_true rfl), (Nat.le_of_ble_eq_true rfl)⟩ wr_7_220 (show 0 + 0 ≤ ((16 * (p669608.toInt - p669609.toInt)).toNat) by first | omega | decide) (show 0 + 0 ≤ ((160 * (p669608.toInt - p669609.toInt)).toNat) by first | omega | decide) (Nat.le_of_ble_eq_true rfl) (fun r671191 w671192 dc671188 ds671189 hp671190 => ?_) (fun _ _ _ _ _ z => z.elim)
                                obtain ⟨o671193, rfl, rfl, hdc, hds, bo671193, x671194, ht671195⟩ := hp671190
                                change G _ _ _ _ _ _ _ (.int o671193 :: _) _ _ _
                                refine G_widen (cs' := 0) (sl' := 0) (by omega) (by omega) ?_
                                refine G_if_ne 234 dr_cX14_next_227 (by decide +kernel) (fun hc671196 => ?_) (fun hc671196 => ?_)
                                · have r671197 : o671193.toInt ≠ 0 := gj_neq hc671196 (show Int32.toInt 0 = 0 by decide)
                                  have bo671193' : gB o671193 1 1 := ⟨by omega, by omega⟩
                                  have bi671198 : gB z671003 48 57 := isP_1 x671194 (by omega)
                                  refine G_aload_n 2 dr_cX14_next_234 rfl ?_
                                  refine G_iload_n 0 dr_cX14_next_235 rfl ?_
                                  refine Gw_callV (As := [.int 1]) (gV_ok D I) (cp_665334_Reader_number l hl0 D I P669604 F671049 q669606 q669607 1 p669608 g670759 p669610 g670759 p669612 p669610 (D.2 1000 32) p669615 p669616 p669617 qo669618 qo669619 p669620 f669621 hmq669606 hmq669607 he671053 he671052 (gB_w (gBl (show Int32.toInt 1 = 1 by decide)) (by decide) (by decide)) (gB_w bp669608'' (by decide) (by decide)) (gB_w bg670759' (by decide) (by decide)) bp669610 (gB_w bg670759' (by decide) (by decide)) bp669610 bp669615 bp669616 bp669617 bp669620 bf669621 (by have qa0 : Int32.toInt 1 = 1 := (by decide); omega) (by have qa0 : Int32.toInt 1 = 1 := (by decide); omega) (by first | assumption | exact cDg_no (by omega) | exact cDg_no (by decide) | exact cDg_of (by assumption) (by omega) (by omega)) x669623 x669624) dr_cX14_next_236 ⟨wr_8_218, wr_1_32, wr_8_221, by decide, rfl, (Nat.le_of_ble_eq_true rfl), (Nat.le_of_ble_eq_true rfl)⟩ wr_8_220 wr_p_77 hmq669606 he671053 rfl (show 0 + ((16 * (p669608.toInt - g670759.toInt)).toNat) ≤ ((16 * (p669608.toInt - p669609.toInt)).toNat) by first | omega | decide) (show 0 + ((160 * (p669608.toInt - g670759.toInt)).toNat) ≤ ((160 * (p669608.toInt - p669609.toInt)).toNat) by first | omega | decide) (Nat.le_of_ble_eq_true rfl) (fun r671202 w671203 dc671199 ds671200 hp671201 => ?_) (fun _ _ _ _ _ z => z.elim)
                                  obtain ⟨F671213, o671204, o671205, o671206, xt671212, rfl, rfl, hfr671215, he671216, he671217, hdc, hds, bo671204, bo671205, x671207, x671208, x671209, x671210, ht671211⟩ := hp671201
                                  have hfr671218 : rFr [q669606] P669604 F669605 F671213 := rFr_call (rSub_rf (P := P669604)) hfr671054 hfr671215 (fun b hb hn => ⟨(nm_c (fun e => hn (e ▸ List.mem_cons_self)) nm_n), (nm_c (fun e => hn (e ▸ List.mem_cons_self)) nm_n)⟩)
                                  have bo671206 := gB_any o671206
                                  change G _ _ _ _ _ _ _ _ _ _ _
                                  refine G_widen (cs' := (16 * (o671204.toInt - g670759.toInt)).toNat) (sl' := (160 * (o671204.toInt - g670759.toInt)).toNat) (by omega) (by omega) ?_
                                  refine G_goto 247 dr_cX14_next_239 (by decide +kernel) ?_
                                  exact G_vretA dr_cX14_next_247 rfl (show (16 * (o671204.toInt - g670759.toInt)).toNat ≤ ((16 * (p669608.toInt - p669609.toInt)).toNat) by omega) (show (160 * (o671204.toInt - g670759.toInt)).toNat ≤ ((160 * (p669608.toInt - p669609.toInt)).toNat) by omega) ⟨P669604, F671213, o671204, o671205, g670759, o671206, (D.2 1000 32), xt671212, rfl, rfl, (rSub_rf (P := P669604)), hfr671218, he671216, he671217, (by omega), (by omega), bo671204, (gB_w bo671205 (by decide) (by decide)), (gB_w bg670759' (by decide) (by decide)), (by have qa0 : Int32.toInt 1 = 1 := (by decide); omega), (Or.inr (by omega)), (by have qa0 : Int32.toInt 1 = 1 := (by decide); omega), (by first | exact tP_no (by omega) (by omega) | assumption), x671210, (fun R c1 c2 c3 c4 c5 c6 c7 c8 c9 c10 c11 c12 c13 => c11 g670759 z671003 z671155 z671159 o671165 o671183 o671193 xt671212 o671204 o671205 o671206 hx671041 r671056 hz671003 r671154 ez671155 r671158 hz671159 bz671159 bo671165 ht671167 r671170 r671174 r671177 bo671183 ht671185 r671187 bo671193 ht671195 r671197 bo671204 bo671205 ht671211)⟩
                                · have r671219 : o671193.toInt = 0 := gj_eq hc671196 (show Int32.toInt 0 = 0 by decide)
                                  have bo671193' : gB o671193 0 0 := ⟨by omega, by omega⟩
                                  refine G_iload_n 0 dr_cX14_next_230 rfl ?_
                                  refine G_if_eq 242 dr_cX14_next_231 (by decide +kernel) (fun hc => absurd hc (by decide)) (fun _ => ?_)
                                  refine G_aload_n 2 dr_cX14_next_234 rfl ?_
                                  refine G_iload_n 0 dr_cX14_next_235 rfl ?_
                                  refine Gw_callV (As := [.int 1]) (gV_ok D I) (cp_665334_Reader_number l hl0 D I P669604 F671049 q669606 q669607 1 p669608 g670759 p669610 g670759 p669612 p669610 (D.2 1000 32) p669615 p669616 p669617 qo669618 qo669619 p669620 f669621 hmq669606 hmq669607 he671053 he671052 (gB_w (gBl (show Int32.toInt 1 = 1 by decide)) (by decide) (by decide)) (gB_w bp669608'' (by decide) (by decide)) (gB_w bg670759' (by decide) (by decide)) bp669610 (gB_w bg670759' (by decide) (by decide)) bp669610 bp669615 bp669616 bp669617 bp669620 bf669621 (by have qa0 : Int32.toInt 1 = 1 := (by decide); omega) (by have qa0 : Int32.toInt 1 = 1 := (by decide); omega) (by first | assumption | exact cDg_no (by omega) | exact cDg_no (by decide) | exact cDg_of (by assumption) (by omega) (by omega)) x669623 x669624) dr_cX14_next_236 ⟨wr_8_218, wr_1_32, wr_8_221, by decide, rfl, (Nat.le_of_ble_eq_true rfl), (Nat.le_of_ble_eq_true rfl)⟩ wr_8_220 wr_p_77 hmq669606 he671053 rfl (show 0 + ((16 * (p669608.toInt - g670759.toInt)).toNat) ≤ ((16 * (p669608.toInt - p669609.toInt)).toNat) by first | omega | decide) (show 0 + ((160 * (p669608.toInt - g670759.toInt)).toNat) ≤ ((160 * (p669608.toInt - p669609.toInt)).toNat) by first | omega | decide) (Nat.le_of_ble_eq_true rfl) (fun r671223 w671224 dc671220 ds671221 hp671222 => ?_) (fun _ _ _ _ _ z => z.elim)
                                  obtain ⟨F671234, o671225, o671226, o671227, xt671233, rfl, rfl, hfr671236, he671237, he671238, hdc, hds, bo671225, bo671226, x671228, x671229, x671230, x671231, ht671232⟩ := hp671222
                                  have hfr671239 : rFr [q669606] P669604 F669605 F671234 := rFr_call (rSub_rf (P := P669604)) hfr671054 hfr671236 (fun b hb hn => ⟨(nm_c (fun e => hn (e ▸ List.mem_cons_self)) nm_n), (nm_c (fun e => hn (e ▸ List.mem_cons_self)) nm_n)⟩)
                                  have bo671227 := gB_any o671227
                                  change G _ _ _ _ _ _ _ _ _ _ _
                                  refine G_widen (cs' := (16 * (o671225.toInt - g670759.toInt)).toNat) (sl' := (160 * (o671225.toInt - g670759.toInt)).toNat) (by omega) (by omega) ?_
                                  refine G_goto 247 dr_cX14_next_239 (by decide +kernel) ?_
                                  exact G_vretA dr_cX14_next_247 rfl (show (16 * (o671225.toInt - g670759.toInt)).toNat ≤ ((16 * (p669608.toInt - p669609.toInt)).toNat) by omega) (show (160 * (o671225.toInt - g670759.toInt)).toNat ≤ ((160 * (p669608.toInt - p669609.toInt)).toNat) by omega) ⟨P669604, F671234, o671225, o671226, g670759, o671227, (D.2 1000 32), xt671233, rfl, rfl, (rSub_rf (P := P669604)), hfr671239, he671237, he671238, (by omega), (by omega), bo671225, (gB_w bo671226 (by decide) (by decide)), (gB_w bg670759' (by decide) (by decide)), (by have qa0 : Int32.toInt 1 = 1 := (by decide); omega), (Or.inr (by omega)), (by have qa0 : Int32.toInt 1 = 1 := (by decide); omega), (by first | exact tP_no (by omega) (by omega) | assumption), x671231, (fun R c1 c2 c3 c4 c5 c6 c7 c8 c9 c10 c11 c12 c13 => c12 g670759 z671003 z671155 z671159 o671165 o671183 o671193 xt671233 o671225 o671226 o671227 hx671041 r671056 hz671003 r671154 ez671155 r671158 hz671159 bz671159 bo671165 ht671167 r671170 r671174 r671177 bo671183 ht671185 r671187 bo671193 ht671195 r671219 bo671225 bo671226 ht671232)⟩
                              · have r671240 : o671183.toInt ≠ 0 := gj_neq hc671186 (show Int32.toInt 0 = 0 by decide)
                                have bo671183' : gB o671183 1 1 := ⟨by omega, by omega⟩
                                have bi671241 : gB z671003 97 122 := isP_1 x671184 (by omega)
                                refine G_aload_n 2 dr_cX14_next_216 rfl ?_
                                refine Gw_callV (As := []) (gV_ok D I) (cp_666976_Reader_word l hl0 D I P669604 F671049 q669606 q669607 p669608 g670759 p669610 g670759 p669612 p669610 (D.2 1000 32) p669615 p669616 p669617 qo669618 qo669619 p669620 f669621 hmq669606 hmq669607 he671053 he671052 (gB_w bp669608'' (by decide) (by decide)) (gB_w bg670759' (by decide) (by decide)) bp669610 (gB_w bg670759' (by decide) (by decide)) bp669610 bp669615 bp669616 bp669617 bp669620 bf669621 (by have qa0 : Int32.toInt 1 = 1 := (by decide); omega) (by have qa0 : Int32.toInt 1 = 1 := (by decide); omega) (by first | assumption | exact cLt_of (by assumption) (by omega) (by omega)) x669623 x669624) dr_cX14_next_217 ⟨wr_7_225, wr_1_32, wr_7_228, by decide, rfl, (Nat.le_of_ble_eq_true rfl), (Nat.le_of_ble_eq_true rfl)⟩ wr_7_227 wr_p_76 hmq669606 he671053 rfl (show 0 + ((16 * (p669608.toInt - g670759.toInt)).toNat) ≤ ((16 * (p669608.toInt - p669609.toInt)).toNat) by first | omega | decide) (show 0 + ((160 * (p669608.toInt - g670759.toInt)).toNat) ≤ ((160 * (p669608.toInt - p669609.toInt)).toNat) by first | omega | decide) (Nat.le_of_ble_eq_true rfl) (fun r671245 w671246 dc671242 ds671243 hp671244 => ?_) (fun _ _ _ _ _ z => z.elim)
                                obtain ⟨P671257, F671258, o671247, o671248, o671249, q671250, xt671256, rfl, rfl, hsb671259, hfr671260, he671261, he671262, hdc, hds, bo671247, bo671248, x671251, x671252, x671253, x671254, ht671255⟩ := hp671244
                                have hm671263 : q669606 ∈ P671257 := hsb671259 q669606 hmq669606
                                have hm671264 : q669607 ∈ P671257 := hsb671259 q669607 hmq669607
                                have hsb671265 : rSub P669604 P671257 := rSub_tr (rSub_rf (P := P669604)) hsb671259
                                have hfr671266 : rFr [q669606] P669604 F669605 F671258 := rFr_call (rSub_rf (P := P669604)) hfr671054 hfr671260 (fun b hb hn => ⟨(nm_c (fun e => hn (e ▸ List.mem_cons_self)) nm_n), (nm_c (fun e => hn (e ▸ List.mem_cons_self)) nm_n)⟩)
                                have bo671249 := gB_any o671249
                                change G _ _ _ _ _ _ _ _ _ _ _
                                refine G_widen (cs' := (16 * (o671247.toInt - g670759.toInt)).toNat) (sl' := (160 * (o671247.toInt - g670759.toInt)).toNat) (by omega) (by omega) ?_
                                refine G_goto 247 dr_cX14_next_220 (by decide +kernel) ?_
                                exact G_vretA dr_cX14_next_247 rfl (show (16 * (o671247.toInt - g670759.toInt)).toNat ≤ ((16 * (p669608.toInt - p669609.toInt)).toNat) by omega) (show (160 * (o671247.toInt - g670759.toInt)).toNat ≤ ((160 * (p669608.toInt - p669609.toInt)).toNat) by omega) ⟨P671257, F671258, o671247, o671248, g670759, o671249, q671250, xt671256, rfl, rfl, hsb671265, hfr671266, he671261, he671262, (by omega), (by omega), bo671247, (gB_w bo671248 (by decide) (by decide)), (gB_w bg670759' (by decide) (by decide)), (by have qa0 : Int32.toInt 1 = 1 := (by decide); omega), (Or.inr (by omega)), (by have qa0 : Int32.toInt 1 = 1 := (by decide); omega), x671253, x671254, (fun R c1 c2 c3 c4 c5 c6 c7 c8 c9 c10 c11 c12 c13 => c13 g670759 z671003 z671155 z671159 o671165 o671183 xt671256 o671247 o671248 o671249 hx671041 r671056 hz671003 r671154 ez671155 r671158 hz671159 bz671159 bo671165 ht671167 r671170 r671174 r671177 bo671183 ht671185 r671240 bo671247 bo671248 ht671255)⟩
                  · have r671267 : g670759.toInt = p669608.toInt := gC_eq hc671055
                    have bg670759'' : gB g670759 1 8191 := ⟨by omega, by omega⟩
                    have bp669608'' : gB p669608 1 8191 := ⟨by omega, by omega⟩
                    refine G_aload_n 1 dr_cX14_next_135 rfl ?_
                    refine G_iconst 0 dr_cX14_next_136 (by decide +kernel) ?_
                    refine Gp_put 3 hmq669606 he671053 dr_cX14_next_137 (gk_X14 D I) (Nat.le_of_ble_eq_true rfl) wr_9_39 rfl rfl rfl (Nat.le_of_ble_eq_true rfl) (fun F671268 e671269 n671270 => ?_)
                    have he671271 : F671268 q669607 = .inl (I .byte, 8192, .inl f669621) := (n671270 q669607 (rn_ao he671052 he671053)).trans he671052
                    have he671272 : F671268 q669606 = .inr (19, [.ref q669607, .int p669608, .int g670759, .int 0, .int g670759, .int p669612, .int p669610, .ref (D.2 1000 32), .int p669615, .int p669616, .int p669617, .ref qo669618, .ref qo669619, .int p669620]) := e671269
                    have hfr671273 : rFr [q669606] P669604 F669605 F671268 := rFr_put' List.mem_cons_self hfr671054 n671270
                    exact G_vretA dr_cX14_next_140 rfl (show 0 ≤ ((16 * (p669608.toInt - p669609.toInt)).toNat) by omega) (show 0 ≤ ((160 * (p669608.toInt - p669609.toInt)).toNat) by omega) ⟨P669604, F671268, g670759, 0, g670759, p669612, (D.2 1000 32), (0, fun _ => 0), rfl, rfl, (rSub_rf (P := P669604)), hfr671273, he671272, he671271, (by omega), (by omega), (gB_w bg670759'' (by decide) (by decide)), (gB_w (gBl (show Int32.toInt 0 = 0 by decide)) (by decide) (by decide)), (gB_w bg670759'' (by decide) (by decide)), (by have qa0 : Int32.toInt 0 = 0 := (by decide); omega), (Or.inl (by decide)), (by have qa0 : Int32.toInt 0 = 0 := (by decide); omega), (tP_no (by decide) (by decide)), (vP_no (by decide) (by decide)), (fun R c1 c2 c3 c4 c5 c6 c7 c8 c9 c10 c11 c12 c13 => c7 g670759 hx671041 r671267)⟩
                · have r671274 : z671003.toInt = 32 := gj_eq hc671039 (show Int32.toInt 32 = 32 by decide)
                  have bz671003' : gB z671003 32 32 := ⟨by omega, by omega⟩
                  refine G_aload_n 1 dr_cX14_next_97 rfl ?_
                  refine G_dup dr_cX14_next_98 rfl ?_
                  refine Gp_get 2 hmq669606 he670761 dr_cX14_next_99 (gk_X14 D I) (Nat.le_of_ble_eq_true rfl) wr_9_38 rfl ?_
                  refine G_iconst 1 dr_cX14_next_102 (by decide +kernel) ?_
                  refine G_iadd dr_cX14_next_103 (G_nam fun z671275 hz671275 => ?_)
                  have ez671275 : z671275.toInt = g670759.toInt + 1 := by rw [gI_add hz671275 bg670759' (gBl (show Int32.toInt 1 = 1 by decide)) (by decide) (by decide), show Int32.toInt 1 = 1 from by decide]
                  have bz671275 : gB z671275 1 8192 := gB_add (gI_add hz671275 bg670759' (gBl (show Int32.toInt 1 = 1 by decide)) (by decide) (by decide)) bg670759' (gBl (show Int32.toInt 1 = 1 by decide)) (by decide) (by decide)
                  refine Gp_put 2 hmq669606 he670761 dr_cX14_next_104 (gk_X14 D I) (Nat.le_of_ble_eq_true rfl) wr_9_38 rfl rfl rfl (Nat.le_of_ble_eq_true rfl) (fun F671276 e671277 n671278 => ?_)
                  have he671279 : F671276 q669607 = .inl (I .byte, 8192, .inl f669621) := (n671278 q669607 (rn_ao he670762 he670761)).trans he670762
                  have he671280 : F671276 q669606 = .inr (19, [.ref q669607, .int p669608, .int z671275, .int p669610, .int p669611, .int p669612, .int p669610, .ref qo669614, .int p669615, .int p669616, .int p669617, .ref qo669618, .ref qo669619, .int p669620]) := e671277
                  have hfr671281 : rFr [q669606] P669604 F669605 F671276 := rFr_put' List.mem_cons_self hfr670763 n671278
                  have x671282 : g670759.toInt < z671275.toInt := by first | omega | exact chNe (a := g670759) (b := z671275) (by assumption) (by assumption) (by omega) (by omega)
                  refine G_goto 8 dr_cX14_next_107 (by decide +kernel) ?_
                  refine G_lv (L' := [(0, .ref q669606)]) [1] rfl ?_
                  exact ih8_670765 F671276 z671275 (gB_w bz671275 (by decide) (by decide)) hfr671281 he671280 he671279 (by omega) (by omega) (fun k e1 ht => kt8_670765 k e1 (fun R c1 c2 c3 c4 c5 c6 c7 => c6 g670759 z671003 z671275 k e1 bg670759 r671002 hz671003 bz671003 r671005 r671016 r671027 r671038 r671274 ez671275 (ht R c1 c2 c3 c4 c5 c6 c7))) (by omega)
        · have r671283 : z671003.toInt = 59 := gj_eq hc671004 (show Int32.toInt 59 = 59 by decide)
          have bz671003' : gB z671003 59 59 := ⟨by omega, by omega⟩
          have hlp35_671320 : ∀ (n35_671320 : Nat) (F671314 : Nat → va_E) (g671313 : Int32), gB g671313 0 8192 → rFr [q669606] P669604 F669605 F671314 → F671314 q669606 = .inr (19, [.ref q669607, .int p669608, .int g671313, .int p669610, .int p669611, .int p669612, .int p669610, .ref qo669614, .int p669615, .int p669616, .int p669617, .ref qo669618, .ref qo669619, .int p669620]) → F671314 q669607 = .inl (I .byte, 8192, .inl f669621) → p669609.toInt ≤ g671313.toInt → g671313.toInt ≤ p669608.toInt → g670759.toInt ≤ g671313.toInt → (∀ (k : Nat) (e1 : Int32), tl_RReader_next_35 p669608 f669621 g671313 k e1 → tl_RReader_next_35 p669608 f669621 g670759 k e1) → ((p669608.toInt : Int) + 1 - g671313.toInt).toNat < n35_671320 → G (gV D I) l (gRm 7 155 ((16 * (p669608.toInt - p669609.toInt)).toNat) ((160 * (p669608.toInt - p669609.toInt)).toNat)) (gMA (gV D I) (pp_669625_Reader_next D I P669604 F669605 q669606 q669607 p669608 p669609 p669610 p669611 p669612 p669613 qo669614 p669615 p669616 p669617 qo669618 qo669619 p669620 f669621) gNA ((16 * (p669608.toInt - p669609.toInt)).toNat) ((160 * (p669608.toInt - p669609.toInt)).toNat)) ky_669625_Reader_next 35 [(1, .int z671003), (0, .ref q669606)] [] (va_pl P669604 F671314) 0 0 := by
            intro n35_671320
            induction n35_671320 with
            | zero => intro F671314 g671313 bg671313 hfr671317 he671315 he671316 x671318 x671319 x671320 kt35_671320 hm35_671320; exact absurd hm35_671320 (Nat.not_lt_zero _)
            | succ n35_671320 ih35_671320 =>
              intro F671314 g671313 bg671313 hfr671317 he671315 he671316 x671318 x671319 x671320 kt35_671320 hm35_671320
              refine G_aload_n 1 dr_cX14_next_35 rfl ?_
              refine Gp_get 2 hmq669606 he671315 dr_cX14_next_36 (gk_X14 D I) (Nat.le_of_ble_eq_true rfl) wr_9_38 rfl ?_
              refine G_aload_n 1 dr_cX14_next_39 rfl ?_
              refine Gp_get 1 hmq669606 he671315 dr_cX14_next_40 (gk_X14 D I) (Nat.le_of_ble_eq_true rfl) wr_9_37 rfl ?_
              refine G_icmp_ge 107 dr_cX14_next_43 (by decide +kernel) (fun hc671321 => ?_) (fun hc671321 => ?_)
              · have r671322 : p669608.toInt ≤ g671313.toInt := gC_le hc671321
                have bg671313' : gB g671313 1 8192 := ⟨by omega, by omega⟩
                have hx671323 : tl_RReader_next_35 p669608 f669621 g670759 107 g671313 := kt35_671320 107 g671313 (fun R c1 c2 c3 => c1 g671313 bg671313 r671322)
                have x671324 : g670759.toInt < g671313.toInt := by first | omega | exact chNe (a := g670759) (b := g671313) (by assumption) (by assumption) (by omega) (by omega)
                refine G_goto 8 dr_cX14_next_107 (by decide +kernel) ?_
                refine G_lv (L' := [(0, .ref q669606)]) [1] rfl ?_
                exact ih8_670765 F671314 g671313 (gB_w bg671313' (by decide) (by decide)) hfr671317 he671315 he671316 (by omega) (by omega) (fun k e1 ht => kt8_670765 k e1 (fun R c1 c2 c3 c4 c5 c6 c7 => c7 g670759 z671003 g671313 k e1 bg670759 r671002 hz671003 bz671003 r671283 hx671323 (ht R c1 c2 c3 c4 c5 c6 c7))) (by omega)
              · have r671325 : g671313.toInt < p669608.toInt := gC_nle hc671321
                have bg671313' : gB g671313 0 8191 := ⟨by omega, by omega⟩
                refine G_aload_n 1 dr_cX14_next_46 rfl ?_
                refine Gp_get 0 hmq669606 he671315 dr_cX14_next_47 (gk_X14 D I) (Nat.le_of_ble_eq_true rfl) wr_9_36 rfl ?_
                refine G_aload_n 1 dr_cX14_next_50 rfl ?_
                refine Gp_get 2 hmq669606 he671315 dr_cX14_next_51 (gk_X14 D I) (Nat.le_of_ble_eq_true rfl) wr_9_38 rfl ?_
                refine Gp_bald 1 hmq669607 he671316 dr_cX14_next_54 rfl (gB_in bg671313' (by decide) (by decide)) (G_nam fun z671326 hz671326 => ?_)
                have bz671326 : gB z671326 (-128) 127 := by rw [hz671326]; exact bf669621 _
                refine G_bipush 10 dr_cX14_next_55 (by decide +kernel) ?_
                refine G_icmp_eq 107 dr_cX14_next_57 (by decide +kernel) (fun hc671327 => ?_) (fun hc671327 => ?_)
                · have r671328 : z671326.toInt = 10 := gj_eq hc671327 (show Int32.toInt 10 = 10 by decide)
                  have bz671326' : gB z671326 10 10 := ⟨by omega, by omega⟩
                  have hx671329 : tl_RReader_next_35 p669608 f669621 g670759 107 g671313 := kt35_671320 107 g671313 (fun R c1 c2 c3 => c2 g671313 z671326 bg671313 r671325 hz671326 bz671326 r671328)
                  have x671330 : g670759.toInt < g671313.toInt := by first | omega | exact chNe (a := g670759) (b := g671313) (by assumption) (by assumption) (by omega) (by omega)
                  refine G_goto 8 dr_cX14_next_107 (by decide +kernel) ?_
                  refine G_lv (L' := [(0, .ref q669606)]) [1] rfl ?_
                  exact ih8_670765 F671314 g671313 (gB_w bg671313' (by decide) (by decide)) hfr671317 he671315 he671316 (by omega) (by omega) (fun k e1 ht => kt8_670765 k e1 (fun R c1 c2 c3 c4 c5 c6 c7 => c7 g670759 z671003 g671313 k e1 bg670759 r671002 hz671003 bz671003 r671283 hx671329 (ht R c1 c2 c3 c4 c5 c6 c7))) (by omega)
                · have r671331 : z671326.toInt ≠ 10 := gj_neq hc671327 (show Int32.toInt 10 = 10 by decide)
                  refine G_aload_n 1 dr_cX14_next_60 rfl ?_
                  refine G_dup dr_cX14_next_61 rfl ?_
                  refine Gp_get 2 hmq669606 he671315 dr_cX14_next_62 (gk_X14 D I) (Nat.le_of_ble_eq_true rfl) wr_9_38 rfl ?_
                  refine G_iconst 1 dr_cX14_next_65 (by decide +kernel) ?_
                  refine G_iadd dr_cX14_next_66 (G_nam fun z671332 hz671332 => ?_)
                  have ez671332 : z671332.toInt = g671313.toInt + 1 := by rw [gI_add hz671332 bg671313' (gBl (show Int32.toInt 1 = 1 by decide)) (by decide) (by decide), show Int32.toInt 1 = 1 from by decide]
                  have bz671332 : gB z671332 1 8192 := gB_add (gI_add hz671332 bg671313' (gBl (show Int32.toInt 1 = 1 by decide)) (by decide) (by decide)) bg671313' (gBl (show Int32.toInt 1 = 1 by decide)) (by decide) (by decide)
                  refine Gp_put 2 hmq669606 he671315 dr_cX14_next_67 (gk_X14 D I) (Nat.le_of_ble_eq_true rfl) wr_9_38 rfl rfl rfl (Nat.le_of_ble_eq_true rfl) (fun F671333 e671334 n671335 => ?_)
                  have he671336 : F671333 q669607 = .inl (I .byte, 8192, .inl f669621) := (n671335 q669607 (rn_ao he671316 he671315)).trans he671316
                  have he671337 : F671333 q669606 = .inr (19, [.ref q669607, .int p669608, .int z671332, .int p669610, .int p669611, .int p669612, .int p669610, .ref qo669614, .int p669615, .int p669616, .int p669617, .ref qo669618, .ref qo669619, .int p669620]) := e671334
                  have hfr671338 : rFr [q669606] P669604 F669605 F671333 := rFr_put' List.mem_cons_self hfr671317 n671335
                  refine G_goto 35 dr_cX14_next_70 (by decide +kernel) ?_
                  exact ih35_671320 F671333 z671332 (gB_w bz671332 (by decide) (by decide)) hfr671338 he671337 he671336 (by omega) (by omega) (by omega) (fun k e1 ht => kt35_671320 k e1 (fun R c1 c2 c3 => c3 g671313 z671326 z671332 k e1 bg671313 r671325 hz671326 bz671326 r671331 ez671332 (ht R c1 c2 c3))) (by omega)
          exact hlp35_671320 (((p669608.toInt : Int) + 1 - g670759.toInt).toNat + 1) F670760 g670759 (gB_w bg670759' (by decide) (by decide)) hfr670763 he670761 he670762 (by omega) (by omega) (by omega) (fun k e1 ht => ht) (Nat.lt_succ_self _)
  exact hlp8_670765 (((p669608.toInt : Int) + 1 - p669609.toInt).toNat + 1) F669626 p669609 bp669609 hfr669631 he669630 he669629 (by omega) (by omega) (fun k e1 ht => ht) (Nat.lt_succ_self _)
