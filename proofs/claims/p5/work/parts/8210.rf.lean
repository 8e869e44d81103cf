theorem dr_cX14_next_0 : decode cX14_next 0 = .ok (.aload_n 0, 1) := by decide +kernel
theorem dr_cX14_next_1 : decode cX14_next 1 = .ok (.aload_n 0, 1) := by decide +kernel
theorem dr_cX14_next_2 : decode cX14_next 2 = .ok (.getfield 38, 3) := by decide +kernel
theorem dr_cX14_next_5 : decode cX14_next 5 = .ok (.putfield 41, 3) := by decide +kernel
theorem wr_9_38 : (Jvm.Cond.fieldLink "SpillForgeModel$Reader" (41 : Nat) "SpillForgeModel$Reader" "before" "I") ∈ gw := gw_9 38 rfl rfl
theorem dr_cX14_next_8 : decode cX14_next 8 = .ok (.aload_n 0, 1) := by decide +kernel
theorem dr_cX14_next_9 : decode cX14_next 9 = .ok (.getfield 44, 3) := by decide +kernel
theorem dr_cX14_next_12 : decode cX14_next 12 = .ok (.aload_n 0, 1) := by decide +kernel
theorem dr_cX14_next_13 : decode cX14_next 13 = .ok (.getfield 32, 3) := by decide +kernel
theorem dr_cX14_next_16 : decode cX14_next 16 = .ok (.if_icmp .ge 94, 3) := by decide +kernel
theorem dr_cX14_next_110 : decode cX14_next 110 = .ok (.aload_n 0, 1) := by decide +kernel
theorem dr_cX14_next_111 : decode cX14_next 111 = .ok (.aload_n 0, 1) := by decide +kernel
theorem dr_cX14_next_112 : decode cX14_next 112 = .ok (.getfield 44, 3) := by decide +kernel
theorem dr_cX14_next_115 : decode cX14_next 115 = .ok (.putfield 47, 3) := by decide +kernel
theorem wr_9_36 : (Jvm.Cond.fieldLink "SpillForgeModel$Reader" (47 : Nat) "SpillForgeModel$Reader" "place" "I") ∈ gw := gw_9 36 rfl rfl
theorem dr_cX14_next_118 : decode cX14_next 118 = .ok (.aload_n 0, 1) := by decide +kernel
theorem dr_cX14_next_119 : decode cX14_next 119 = .ok (.ldc 9, 2) := by decide +kernel
theorem dr_cX14_next_121 : decode cX14_next 121 = .ok (.putfield 11, 3) := by decide +kernel
theorem dr_cX14_next_124 : decode cX14_next 124 = .ok (.aload_n 0, 1) := by decide +kernel
theorem dr_cX14_next_125 : decode cX14_next 125 = .ok (.getfield 44, 3) := by decide +kernel
theorem dr_cX14_next_128 : decode cX14_next 128 = .ok (.aload_n 0, 1) := by decide +kernel
theorem dr_cX14_next_129 : decode cX14_next 129 = .ok (.getfield 32, 3) := by decide +kernel
theorem dr_cX14_next_132 : decode cX14_next 132 = .ok (.if_icmp .ne 9, 3) := by decide +kernel
theorem dr_cX14_next_141 : decode cX14_next 141 = .ok (.aload_n 0, 1) := by decide +kernel
theorem dr_cX14_next_142 : decode cX14_next 142 = .ok (.getfield 28, 3) := by decide +kernel
theorem dr_cX14_next_145 : decode cX14_next 145 = .ok (.aload_n 0, 1) := by decide +kernel
theorem dr_cX14_next_146 : decode cX14_next 146 = .ok (.getfield 44, 3) := by decide +kernel
theorem dr_cX14_next_149 : decode cX14_next 149 = .ok (.baload, 1) := by decide +kernel
theorem dr_cX14_next_150 : decode cX14_next 150 = .ok (.istore_n 1, 1) := by decide +kernel
theorem dr_cX14_next_209 : decode cX14_next 209 = .ok (.iload_n 1, 1) := by decide +kernel
theorem dr_cX14_next_210 : decode cX14_next 210 = .ok (.invokestatic 54, 3) := by decide +kernel
theorem dr_cX14_next_213 : decode cX14_next 213 = .ok (.ifCond .eq 10, 3) := by decide +kernel
theorem dr_cX14_next_223 : decode cX14_next 223 = .ok (.iload_n 1, 1) := by decide +kernel
theorem dr_cX14_next_224 : decode cX14_next 224 = .ok (.invokestatic 50, 3) := by decide +kernel
theorem dr_cX14_next_227 : decode cX14_next 227 = .ok (.ifCond .ne 7, 3) := by decide +kernel
theorem dr_cX14_next_234 : decode cX14_next 234 = .ok (.aload_n 0, 1) := by decide +kernel
theorem dr_cX14_next_235 : decode cX14_next 235 = .ok (.iload_n 2, 1) := by decide +kernel
theorem dr_cX14_next_236 : decode cX14_next 236 = .ok (.invokevirtual 60, 3) := by decide +kernel
theorem wr_8_214 : (Jvm.Cond.methodLink "SpillForgeModel$Reader" (60 : Nat) ({ cls := "SpillForgeModel$Reader", name := "number", desc := "(Z)V" } : Jvm.MethodName)) ∈ gw := gw_8 214 rfl rfl
theorem wr_8_217 : (Jvm.Cond.code ({ cls := "SpillForgeModel$Reader", name := "number", desc := "(Z)V" } : Jvm.MethodName) prog_17_method_6_code (4 : Nat) (Option.none : Option Jvm.ClassFile.FieldType)) ∈ gw := gw_8 217 rfl rfl
theorem wr_8_216 : (Jvm.Cond.instanceMethod ({ cls := "SpillForgeModel$Reader", name := "number", desc := "(Z)V" } : Jvm.MethodName)) ∈ gw := gw_8 216 rfl rfl
theorem wr_p_77 : Cond.selects "SpillForgeModel$Reader" ⟨"SpillForgeModel$Reader", "number", "(Z)V"⟩ ⟨"SpillForgeModel$Reader", "number", "(Z)V"⟩ ∈ gw := gw_p _ 77 rfl rfl rfl
theorem dr_cX14_next_239 : decode cX14_next 239 = .ok (.goto 8, 3) := by decide +kernel
theorem dr_cX14_next_247 : decode cX14_next 247 = .ok (.return_, 1) := by decide +kernel
theorem dr_cX14_next_230 : decode cX14_next 230 = .ok (.iload_n 2, 1) := by decide +kernel
theorem dr_cX14_next_231 : decode cX14_next 231 = .ok (.ifCond .eq 11, 3) := by decide +kernel
theorem dr_cX14_next_242 : decode cX14_next 242 = .ok (.aload_n 0, 1) := by decide +kernel
theorem dr_cX14_next_243 : decode cX14_next 243 = .ok (.iload_n 1, 1) := by decide +kernel
theorem dr_cX14_next_244 : decode cX14_next 244 = .ok (.invokevirtual 64, 3) := by decide +kernel
theorem wr_8_219 : (Jvm.Cond.methodLink "SpillForgeModel$Reader" (64 : Nat) ({ cls := "SpillForgeModel$Reader", name := "symbol", desc := "(I)V" } : Jvm.MethodName)) ∈ gw := gw_8 219 rfl rfl
theorem wr_8_222 : (Jvm.Cond.code ({ cls := "SpillForgeModel$Reader", name := "symbol", desc := "(I)V" } : Jvm.MethodName) prog_17_method_7_code (4 : Nat) (Option.none : Option Jvm.ClassFile.FieldType)) ∈ gw := gw_8 222 rfl rfl
theorem wr_8_221 : (Jvm.Cond.instanceMethod ({ cls := "SpillForgeModel$Reader", name := "symbol", desc := "(I)V" } : Jvm.MethodName)) ∈ gw := gw_8 221 rfl rfl
theorem wr_p_78 : Cond.selects "SpillForgeModel$Reader" ⟨"SpillForgeModel$Reader", "symbol", "(I)V"⟩ ⟨"SpillForgeModel$Reader", "symbol", "(I)V"⟩ ∈ gw := gw_p _ 78 rfl rfl rfl
theorem dr_cX14_next_216 : decode cX14_next 216 = .ok (.aload_n 0, 1) := by decide +kernel
theorem dr_cX14_next_217 : decode cX14_next 217 = .ok (.invokevirtual 57, 3) := by decide +kernel
theorem wr_7_221 : (Jvm.Cond.methodLink "SpillForgeModel$Reader" (57 : Nat) ({ cls := "SpillForgeModel$Reader", name := "word", desc := "()V" } : Jvm.MethodName)) ∈ gw := gw_7 221 rfl rfl
theorem wr_7_224 : (Jvm.Cond.code ({ cls := "SpillForgeModel$Reader", name := "word", desc := "()V" } : Jvm.MethodName) prog_17_method_5_code (4 : Nat) (Option.none : Option Jvm.ClassFile.FieldType)) ∈ gw := gw_7 224 rfl rfl
theorem wr_7_223 : (Jvm.Cond.instanceMethod ({ cls := "SpillForgeModel$Reader", name := "word", desc := "()V" } : Jvm.MethodName)) ∈ gw := gw_7 223 rfl rfl
theorem wr_p_76 : Cond.selects "SpillForgeModel$Reader" ⟨"SpillForgeModel$Reader", "word", "()V"⟩ ⟨"SpillForgeModel$Reader", "word", "()V"⟩ ∈ gw := gw_p _ 76 rfl rfl rfl
theorem dr_cX14_next_220 : decode cX14_next 220 = .ok (.goto 27, 3) := by decide +kernel
theorem dr_cX14_next_151 : decode cX14_next 151 = .ok (.iload_n 1, 1) := by decide +kernel
theorem dr_cX14_next_152 : decode cX14_next 152 = .ok (.bipush 45, 2) := by decide +kernel
theorem dr_cX14_next_154 : decode cX14_next 154 = .ok (.if_icmp .ne 53, 3) := by decide +kernel
theorem dr_cX14_next_207 : decode cX14_next 207 = .ok (.iconst 0, 1) := by decide +kernel
theorem dr_cX14_next_208 : decode cX14_next 208 = .ok (.istore_n 2, 1) := by decide +kernel
theorem dr_cX14_next_157 : decode cX14_next 157 = .ok (.aload_n 0, 1) := by decide +kernel
theorem dr_cX14_next_158 : decode cX14_next 158 = .ok (.getfield 44, 3) := by decide +kernel
theorem dr_cX14_next_161 : decode cX14_next 161 = .ok (.iconst 1, 1) := by decide +kernel
theorem dr_cX14_next_162 : decode cX14_next 162 = .ok (.iadd, 1) := by decide +kernel
theorem dr_cX14_next_163 : decode cX14_next 163 = .ok (.aload_n 0, 1) := by decide +kernel
theorem dr_cX14_next_164 : decode cX14_next 164 = .ok (.getfield 32, 3) := by decide +kernel
theorem dr_cX14_next_167 : decode cX14_next 167 = .ok (.if_icmp .ge 40, 3) := by decide +kernel
theorem dr_cX14_next_170 : decode cX14_next 170 = .ok (.aload_n 0, 1) := by decide +kernel
theorem dr_cX14_next_171 : decode cX14_next 171 = .ok (.getfield 28, 3) := by decide +kernel
theorem dr_cX14_next_174 : decode cX14_next 174 = .ok (.aload_n 0, 1) := by decide +kernel
theorem dr_cX14_next_175 : decode cX14_next 175 = .ok (.getfield 44, 3) := by decide +kernel
theorem dr_cX14_next_178 : decode cX14_next 178 = .ok (.iconst 1, 1) := by decide +kernel
theorem dr_cX14_next_179 : decode cX14_next 179 = .ok (.iadd, 1) := by decide +kernel
theorem dr_cX14_next_180 : decode cX14_next 180 = .ok (.baload, 1) := by decide +kernel
theorem dr_cX14_next_181 : decode cX14_next 181 = .ok (.invokestatic 50, 3) := by decide +kernel
theorem dr_cX14_next_184 : decode cX14_next 184 = .ok (.ifCond .eq 23, 3) := by decide +kernel
theorem dr_cX14_next_187 : decode cX14_next 187 = .ok (.aload_n 0, 1) := by decide +kernel
theorem dr_cX14_next_188 : decode cX14_next 188 = .ok (.getfield 41, 3) := by decide +kernel
theorem dr_cX14_next_191 : decode cX14_next 191 = .ok (.iconst 2, 1) := by decide +kernel
theorem dr_cX14_next_192 : decode cX14_next 192 = .ok (.if_icmp .eq 15, 3) := by decide +kernel
theorem dr_cX14_next_195 : decode cX14_next 195 = .ok (.aload_n 0, 1) := by decide +kernel
theorem dr_cX14_next_196 : decode cX14_next 196 = .ok (.getfield 41, 3) := by decide +kernel
theorem dr_cX14_next_199 : decode cX14_next 199 = .ok (.iconst 4, 1) := by decide +kernel
theorem dr_cX14_next_200 : decode cX14_next 200 = .ok (.if_icmp .eq 7, 3) := by decide +kernel
theorem dr_cX14_next_203 : decode cX14_next 203 = .ok (.iconst 1, 1) := by decide +kernel
theorem dr_cX14_next_204 : decode cX14_next 204 = .ok (.goto 4, 3) := by decide +kernel
theorem dr_cX14_next_135 : decode cX14_next 135 = .ok (.aload_n 0, 1) := by decide +kernel
theorem dr_cX14_next_136 : decode cX14_next 136 = .ok (.iconst 0, 1) := by decide +kernel
theorem dr_cX14_next_137 : decode cX14_next 137 = .ok (.putfield 38, 3) := by decide +kernel
theorem dr_cX14_next_140 : decode cX14_next 140 = .ok (.return_, 1) := by decide +kernel
theorem dr_cX14_next_19 : decode cX14_next 19 = .ok (.aload_n 0, 1) := by decide +kernel
theorem dr_cX14_next_20 : decode cX14_next 20 = .ok (.getfield 28, 3) := by decide +kernel
theorem dr_cX14_next_23 : decode cX14_next 23 = .ok (.aload_n 0, 1) := by decide +kernel
theorem dr_cX14_next_24 : decode cX14_next 24 = .ok (.getfield 44, 3) := by decide +kernel
theorem dr_cX14_next_27 : decode cX14_next 27 = .ok (.baload, 1) := by decide +kernel
theorem dr_cX14_next_28 : decode cX14_next 28 = .ok (.istore_n 1, 1) := by decide +kernel
theorem dr_cX14_next_29 : decode cX14_next 29 = .ok (.iload_n 1, 1) := by decide +kernel
theorem dr_cX14_next_30 : decode cX14_next 30 = .ok (.bipush 59, 2) := by decide +kernel
theorem dr_cX14_next_32 : decode cX14_next 32 = .ok (.if_icmp .ne 41, 3) := by decide +kernel
theorem dr_cX14_next_73 : decode cX14_next 73 = .ok (.iload_n 1, 1) := by decide +kernel
theorem dr_cX14_next_74 : decode cX14_next 74 = .ok (.bipush 9, 2) := by decide +kernel
theorem dr_cX14_next_76 : decode cX14_next 76 = .ok (.if_icmp .eq 21, 3) := by decide +kernel
theorem dr_cX14_next_97 : decode cX14_next 97 = .ok (.aload_n 0, 1) := by decide +kernel
theorem dr_cX14_next_98 : decode cX14_next 98 = .ok (.dup, 1) := by decide +kernel
theorem dr_cX14_next_99 : decode cX14_next 99 = .ok (.getfield 44, 3) := by decide +kernel
theorem dr_cX14_next_102 : decode cX14_next 102 = .ok (.iconst 1, 1) := by decide +kernel
theorem dr_cX14_next_103 : decode cX14_next 103 = .ok (.iadd, 1) := by decide +kernel
theorem dr_cX14_next_104 : decode cX14_next 104 = .ok (.putfield 44, 3) := by decide +kernel
theorem dr_cX14_next_107 : decode cX14_next 107 = .ok (.goto (-99), 3) := by decide +kernel
theorem dr_cX14_next_79 : decode cX14_next 79 = .ok (.iload_n 1, 1) := by decide +kernel
theorem dr_cX14_next_80 : decode cX14_next 80 = .ok (.bipush 10, 2) := by decide +kernel
theorem dr_cX14_next_82 : decode cX14_next 82 = .ok (.if_icmp .eq 15, 3) := by decide +kernel
theorem dr_cX14_next_85 : decode cX14_next 85 = .ok (.iload_n 1, 1) := by decide +kernel
theorem dr_cX14_next_86 : decode cX14_next 86 = .ok (.bipush 13, 2) := by decide +kernel
theorem dr_cX14_next_88 : decode cX14_next 88 = .ok (.if_icmp .eq 9, 3) := by decide +kernel
theorem dr_cX14_next_91 : decode cX14_next 91 = .ok (.iload_n 1, 1) := by decide +kernel
theorem dr_cX14_next_92 : decode cX14_next 92 = .ok (.bipush 32, 2) := by decide +kernel
theorem dr_cX14_next_94 : decode cX14_next 94 = .ok (.if_icmp .ne 16, 3) := by decide +kernel
theorem dr_cX14_next_35 : decode cX14_next 35 = .ok (.aload_n 0, 1) := by decide +kernel
theorem dr_cX14_next_36 : decode cX14_next 36 = .ok (.getfield 44, 3) := by decide +kernel
theorem dr_cX14_next_39 : decode cX14_next 39 = .ok (.aload_n 0, 1) := by decide +kernel
theorem dr_cX14_next_40 : decode cX14_next 40 = .ok (.getfield 32, 3) := by decide +kernel
theorem dr_cX14_next_43 : decode cX14_next 43 = .ok (.if_icmp .ge 64, 3) := by decide +kernel
theorem dr_cX14_next_46 : decode cX14_next 46 = .ok (.aload_n 0, 1) := by decide +kernel
theorem dr_cX14_next_47 : decode cX14_next 47 = .ok (.getfield 28, 3) := by decide +kernel
theorem dr_cX14_next_50 : decode cX14_next 50 = .ok (.aload_n 0, 1) := by decide +kernel
theorem dr_cX14_next_51 : decode cX14_next 51 = .ok (.getfield 44, 3) := by decide +kernel
theorem dr_cX14_next_54 : decode cX14_next 54 = .ok (.baload, 1) := by decide +kernel
theorem dr_cX14_next_55 : decode cX14_next 55 = .ok (.bipush 10, 2) := by decide +kernel
theorem dr_cX14_next_57 : decode cX14_next 57 = .ok (.if_icmp .eq 50, 3) := by decide +kernel
theorem dr_cX14_next_60 : decode cX14_next 60 = .ok (.aload_n 0, 1) := by decide +kernel
theorem dr_cX14_next_61 : decode cX14_next 61 = .ok (.dup, 1) := by decide +kernel
theorem dr_cX14_next_62 : decode cX14_next 62 = .ok (.getfield 44, 3) := by decide +kernel
theorem dr_cX14_next_65 : decode cX14_next 65 = .ok (.iconst 1, 1) := by decide +kernel
theorem dr_cX14_next_66 : decode cX14_next 66 = .ok (.iadd, 1) := by decide +kernel
theorem dr_cX14_next_67 : decode cX14_next 67 = .ok (.putfield 44, 3) := by decide +kernel
theorem dr_cX14_next_70 : decode cX14_next 70 = .ok (.goto (-35), 3) := by decide +kernel
abbrev ky_653656_Reader_next : gKey := (cX14_next, 3, "SpillForgeModel$Reader", none, [], "next", fun _ _ => True)
def pp_653656_Reader_next (D : va_G) (I : FieldType → ClassId) (P653635 : List Nat) (F653636 : Nat → va_E) (q653637 : Nat) (q653638 : Nat) (p653639 : Int32) (p653640 : Int32) (p653641 : Int32) (p653642 : Int32) (p653643 : Int32) (p653644 : Int32) (qo653645 : Nat) (p653646 : Int32) (p653647 : Int32) (p653648 : Int32) (qo653649 : Nat) (qo653650 : Nat) (p653651 : Int32) (f653652 : Nat → Int32) : Option Value → va_W → Nat → Nat → Prop := fun r w dc ds => ∃ (P655267 : List Nat) (F655268 : Nat → va_E) (o655262 : Int32) (o655263 : Int32) (o655264 : Int32) (o655265 : Int32) (q655266 : Nat), r = none ∧ w = va_pl P655267 F655268 ∧ rSub P653635 P655267 ∧ rFr [q653637] P653635 F653636 F655268 ∧ F655268 q653637 = .inr (19, [.ref q653638, .int p653639, .int o655262, .int o655263, .int o655264, .int o655265, .int p653641, .ref q655266, .int p653646, .int p653647, .int p653648, .ref qo653649, .ref qo653650, .int p653651]) ∧ F655268 q653638 = .inl (I .byte, 8192, .inl f653652) ∧ dc ≤ (16 * (o655262.toInt - p653640.toInt)).toNat ∧ ds ≤ (160 * (o655262.toInt - p653640.toInt)).toNat ∧ gB o655262 0 8192 ∧ gB o655263 0 6 ∧ gB o655264 0 8192 ∧ p653640.toInt ≤ o655262.toInt ∧ prP o655263 p653640 o655262 ∧ o655262.toInt ≤ p653639.toInt ∧ tP I P655267 F655268 o655263 q655266 qo653650 qo653649 ∧ vP o655263 o655265
set_option maxRecDepth 100000 in
set_option maxHeartbeats 4000000 in
theorem cp_653656_Reader_next (l : Launch) (hl0 : l.stackTraces = false) (D : va_G) (I : FieldType → ClassId) (P653635 : List Nat) (F653636 : Nat → va_E) (q653637 : Nat) (q653638 : Nat) (p653639 : Int32) (p653640 : Int32) (p653641 : Int32) (p653642 : Int32) (p653643 : Int32) (p653644 : Int32) (qo653645 : Nat) (p653646 : Int32) (p653647 : Int32) (p653648 : Int32) (qo653649 : Nat) (qo653650 : Nat) (p653651 : Int32) (f653652 : Nat → Int32) (hmq653637 : q653637 ∈ P653635) (hmq653638 : q653638 ∈ P653635) (heq653637 : F653636 q653637 = .inr (19, [.ref q653638, .int p653639, .int p653640, .int p653641, .int p653642, .int p653643, .int p653644, .ref qo653645, .int p653646, .int p653647, .int p653648, .ref qo653649, .ref qo653650, .int p653651])) (heq653638 : F653636 q653638 = .inl (I .byte, 8192, .inl f653652)) (bp653639 : gB p653639 0 8192) (bp653640 : gB p653640 0 8192) (bp653641 : gB p653641 0 6) (bp653642 : gB p653642 0 8192) (bp653644 : gB p653644 0 6) (bp653646 : gB p653646 (-1) 8192) (bp653647 : gB p653647 0 4) (bp653648 : gB p653648 0 1000000) (bp653651 : gB p653651 0 1000000) (bf653652 : gF f653652 (-128) 127) (x653653 : p653640.toInt ≤ p653639.toInt) (x653654 : qo653650 ∈ P653635) (x653655 : qo653649 ∈ P653635) : CtA (gV D I) l yX14_next cX14_next 3 none 7 155 ((16 * (p653639.toInt - p653640.toInt)).toNat) ((160 * (p653639.toInt - p653640.toInt)).toNat) [.ref q653637] (va_pl P653635 F653636) (pp_653656_Reader_next D I P653635 F653636 q653637 q653638 p653639 p653640 p653641 p653642 p653643 p653644 qo653645 p653646 p653647 p653648 qo653649 qo653650 p653651 f653652) gNA := by
  refine CtA_of hl0 (by decide) (Nat.le_of_ble_eq_true rfl) ?_
  have bp653643 := gB_any p653643
  refine G_aload_n 0 dr_cX14_next_0 rfl ?_
  refine G_aload_n 0 dr_cX14_next_1 rfl ?_
  refine Gp_get 3 hmq653637 heq653637 dr_cX14_next_2 (gk_X14 D I) (Nat.le_of_ble_eq_true rfl) wr_9_35 rfl ?_
  refine Gp_put 6 hmq653637 heq653637 dr_cX14_next_5 (gk_X14 D I) (Nat.le_of_ble_eq_true rfl) wr_9_38 rfl rfl rfl (Nat.le_of_ble_eq_true rfl) (fun F653657 e653658 n653659 => ?_)
  have he653660 : F653657 q653638 = .inl (I .byte, 8192, .inl f653652) := (n653659 q653638 (rn_ao heq653638 heq653637)).trans heq653638
  have he653661 : F653657 q653637 = .inr (19, [.ref q653638, .int p653639, .int p653640, .int p653641, .int p653642, .int p653643, .int p653641, .ref qo653645, .int p653646, .int p653647, .int p653648, .ref qo653649, .ref qo653650, .int p653651]) := e653658
  have hfr653662 : rFr [q653637] P653635 F653636 F653657 := rFr_put (rFr_rf (W := []) (P := P653635) (F := F653636)) n653659
  have hlp8_654728 : ∀ (n8_654728 : Nat) (F654723 : Nat → va_E) (g654722 : Int32), gB g654722 0 8192 → rFr [q653637] P653635 F653636 F654723 → F654723 q653637 = .inr (19, [.ref q653638, .int p653639, .int g654722, .int p653641, .int p653642, .int p653643, .int p653641, .ref qo653645, .int p653646, .int p653647, .int p653648, .ref qo653649, .ref qo653650, .int p653651]) → F654723 q653638 = .inl (I .byte, 8192, .inl f653652) → p653640.toInt ≤ g654722.toInt → g654722.toInt ≤ p653639.toInt → ((p653639.toInt : Int) + 1 - g654722.toInt).toNat < n8_654728 → G (gV D I) l (gRm 7 155 ((16 * (p653639.toInt - p653640.toInt)).toNat) ((160 * (p653639.toInt - p653640.toInt)).toNat)) (gMA (gV D I) (pp_653656_Reader_next D I P653635 F653636 q653637 q653638 p653639 p653640 p653641 p653642 p653643 p653644 qo653645 p653646 p653647 p653648 qo653649 qo653650 p653651 f653652) gNA ((16 * (p653639.toInt - p653640.toInt)).toNat) ((160 * (p653639.toInt - p653640.toInt)).toNat)) ky_653656_Reader_next 8 [(0, .ref q653637)] [] (va_pl P653635 F654723) 0 0 := by
    intro n8_654728
    induction n8_654728 with
    | zero => intro F654723 g654722 bg654722 hfr654726 he654724 he654725 x654727 x654728 hm8_654728; exact absurd hm8_654728 (Nat.not_lt_zero _)
    | succ n8_654728 ih8_654728 =>
      intro F654723 g654722 bg654722 hfr654726 he654724 he654725 x654727 x654728 hm8_654728
      refine G_aload_n 0 dr_cX14_next_8 rfl ?_
      refine Gp_get 2 hmq653637 he654724 dr_cX14_next_9 (gk_X14 D I) (Nat.le_of_ble_eq_true rfl) wr_9_34 rfl ?_
      refine G_aload_n 0 dr_cX14_next_12 rfl ?_
      refine Gp_get 1 hmq653637 he654724 dr_cX14_next_13 (gk_X14 D I) (Nat.le_of_ble_eq_true rfl) wr_9_33 rfl ?_
      refine G_icmp_ge 110 dr_cX14_next_16 (by decide +kernel) (fun hc654729 => ?_) (fun hc654729 => ?_)
      · have r654730 : p653639.toInt ≤ g654722.toInt := gC_le hc654729
        clear he653660 he653661 hfr653662
        refine G_aload_n 0 dr_cX14_next_110 rfl ?_
        refine G_aload_n 0 dr_cX14_next_111 rfl ?_
        refine Gp_get 2 hmq653637 he654724 dr_cX14_next_112 (gk_X14 D I) (Nat.le_of_ble_eq_true rfl) wr_9_34 rfl ?_
        refine Gp_put 4 hmq653637 he654724 dr_cX14_next_115 (gk_X14 D I) (Nat.le_of_ble_eq_true rfl) wr_9_36 rfl rfl rfl (Nat.le_of_ble_eq_true rfl) (fun F654731 e654732 n654733 => ?_)
        have he654734 : F654731 q653638 = .inl (I .byte, 8192, .inl f653652) := (n654733 q653638 (rn_ao he654725 he654724)).trans he654725
        have he654735 : F654731 q653637 = .inr (19, [.ref q653638, .int p653639, .int g654722, .int p653641, .int g654722, .int p653643, .int p653641, .ref qo653645, .int p653646, .int p653647, .int p653648, .ref qo653649, .ref qo653650, .int p653651]) := e654732
        have hfr654736 : rFr [q653637] P653635 F653636 F654731 := rFr_put' List.mem_cons_self hfr654726 n654733
        refine G_aload_n 0 dr_cX14_next_118 rfl ?_
        refine G_ldcK (a := D.2 1000 32) dr_cX14_next_119 (fun _ _ _ h => gx_vk 32 rfl rfl h) ?_
        have hl32_654736 : (sb_32.length : Int) = 0 := rfl
        refine Gp_put 7 hmq653637 he654735 dr_cX14_next_121 (gk_X14 D I) (Nat.le_of_ble_eq_true rfl) wr_9_39 rfl rfl rfl (Nat.le_of_ble_eq_true rfl) (fun F654738 e654739 n654740 => ?_)
        have he654741 : F654738 q653638 = .inl (I .byte, 8192, .inl f653652) := (n654740 q653638 (rn_ao he654734 he654735)).trans he654734
        have he654742 : F654738 q653637 = .inr (19, [.ref q653638, .int p653639, .int g654722, .int p653641, .int g654722, .int p653643, .int p653641, .ref (D.2 1000 32), .int p653646, .int p653647, .int p653648, .ref qo653649, .ref qo653650, .int p653651]) := e654739
        have hfr654743 : rFr [q653637] P653635 F653636 F654738 := rFr_put' List.mem_cons_self hfr654736 n654740
        clear he654734 he654735 hfr654736
        refine G_aload_n 0 dr_cX14_next_124 rfl ?_
        refine Gp_get 2 hmq653637 he654742 dr_cX14_next_125 (gk_X14 D I) (Nat.le_of_ble_eq_true rfl) wr_9_34 rfl ?_
        refine G_aload_n 0 dr_cX14_next_128 rfl ?_
        refine Gp_get 1 hmq653637 he654742 dr_cX14_next_129 (gk_X14 D I) (Nat.le_of_ble_eq_true rfl) wr_9_33 rfl ?_
        refine G_icmp_ne 141 dr_cX14_next_132 (by decide +kernel) (fun hc654744 => ?_) (fun hc654744 => ?_)
        · have r654745 : g654722.toInt ≠ p653639.toInt := gC_ne hc654744
          refine G_aload_n 0 dr_cX14_next_141 rfl ?_
          refine Gp_get 0 hmq653637 he654742 dr_cX14_next_142 (gk_X14 D I) (Nat.le_of_ble_eq_true rfl) wr_9_32 rfl ?_
          refine G_aload_n 0 dr_cX14_next_145 rfl ?_
          refine Gp_get 2 hmq653637 he654742 dr_cX14_next_146 (gk_X14 D I) (Nat.le_of_ble_eq_true rfl) wr_9_34 rfl ?_
          refine Gp_bald 1 hmq653638 he654741 dr_cX14_next_149 rfl (gB_inr (by omega) (by omega)) (G_nam fun z654746 hz654746 => ?_)
          have bz654746 : gB z654746 (-128) 127 := by rw [hz654746]; exact bf653652 _
          refine G_istore_n (L' := [(1, .int z654746), (0, .ref q653637)]) dr_cX14_next_150 (Nat.le_of_ble_eq_true rfl) rfl ?_
          have jn654747 : G (gV D I) l (gRm 7 155 ((16 * (p653639.toInt - p653640.toInt)).toNat) ((160 * (p653639.toInt - p653640.toInt)).toNat)) (gMA (gV D I) (pp_653656_Reader_next D I P653635 F653636 q653637 q653638 p653639 p653640 p653641 p653642 p653643 p653644 qo653645 p653646 p653647 p653648 qo653649 qo653650 p653651 f653652) gNA ((16 * (p653639.toInt - p653640.toInt)).toNat) ((160 * (p653639.toInt - p653640.toInt)).toNat)) ky_653656_Reader_next 209 [(2, .int 0), (1, .int z654746), (0, .ref q653637)] [] (va_pl P653635 F654738) 0 0 := by
            refine G_iload_n 1 dr_cX14_next_209 rfl ?_
            refine Gw_callS (As := [.int z654746]) (gV_ok D I) (cp_651412_Reader_isLetter l hl0 D I P653635 F654738 z654746 ) dr_cX14_next_210 ⟨wr_7_218, wr_1_32, wr_7_220, by decide, rfl, (Nat.le_of_ble_eq_true rfl), (Nat.le_of_ble_eq_true rfl)⟩ wr_7_219 (show 0 + 0 ≤ ((16 * (p653639.toInt - p653640.toInt)).toNat) by first | omega | decide) (show 0 + 0 ≤ ((160 * (p653639.toInt - p653640.toInt)).toNat) by first | omega | decide) (Nat.le_of_ble_eq_true rfl) (fun r654751 w654752 dc654748 ds654749 hp654750 => ?_) (fun _ _ _ _ _ z => z.elim)
            obtain ⟨o654753, rfl, rfl, hdc, hds, bo654753, x654754⟩ := hp654750
            change G _ _ _ _ _ _ _ (.int o654753 :: _) _ _ _
            refine G_widen (cs' := 0) (sl' := 0) (by omega) (by omega) ?_
            refine G_if_eq 223 dr_cX14_next_213 (by decide +kernel) (fun hc654755 => ?_) (fun hc654755 => ?_)
            · have r654756 : o654753.toInt = 0 := gj_eq hc654755 (show Int32.toInt 0 = 0 by decide)
              have bo654753' : gB o654753 0 0 := ⟨by omega, by omega⟩
              clear bo654753 bo654753'; try clear r654751; try clear w654752; try clear dc654748; try clear ds654749; try clear hp654750; try clear x654754; try clear r654756
              refine G_iload_n 1 dr_cX14_next_223 rfl ?_
              refine Gw_callS (As := [.int z654746]) (gV_ok D I) (cp_649513_Reader_isDigit l hl0 D I P653635 F654738 z654746 ) dr_cX14_next_224 ⟨wr_7_215, wr_1_32, wr_7_217, by decide, rfl, (Nat.le_of_ble_eq_true rfl), (Nat.le_of_ble_eq_true rfl)⟩ wr_7_216 (show 0 + 0 ≤ ((16 * (p653639.toInt - p653640.toInt)).toNat) by first | omega | decide) (show 0 + 0 ≤ ((160 * (p653639.toInt - p653640.toInt)).toNat) by first | omega | decide) (Nat.le_of_ble_eq_true rfl) (fun r654760 w654761 dc654757 ds654758 hp654759 => ?_) (fun _ _ _ _ _ z => z.elim)
              obtain ⟨o654762, rfl, rfl, hdc, hds, bo654762, x654763⟩ := hp654759
              change G _ _ _ _ _ _ _ (.int o654762 :: _) _ _ _
              refine G_widen (cs' := 0) (sl' := 0) (by omega) (by omega) ?_
              refine G_if_ne 234 dr_cX14_next_227 (by decide +kernel) (fun hc654764 => ?_) (fun hc654764 => ?_)
              · have r654765 : o654762.toInt ≠ 0 := gj_neq hc654764 (show Int32.toInt 0 = 0 by decide)
                have bo654762' : gB o654762 1 1 := ⟨by omega, by omega⟩
                have bi654766 : gB z654746 48 57 := isP_1 x654763 (by omega)
                refine G_aload_n 2 dr_cX14_next_234 rfl ?_
                refine G_iload_n 0 dr_cX14_next_235 rfl ?_
                refine Gw_callV (As := [.int 0]) (gV_ok D I) (cp_649477_Reader_number l hl0 D I P653635 F654738 q653637 q653638 0 p653639 g654722 p653641 g654722 p653643 p653641 (D.2 1000 32) p653646 p653647 p653648 qo653649 qo653650 p653651 f653652 hmq653637 hmq653638 he654742 he654741 (gB_w (gBl (show Int32.toInt 0 = 0 by decide)) (by decide) (by decide)) bp653639 bg654722 bp653641 bg654722 bp653641 bp653646 bp653647 bp653648 bp653651 bf653652 (by have qa0 : Int32.toInt 0 = 0 := (by decide); omega) (by have qa0 : Int32.toInt 0 = 0 := (by decide); omega) (by first | assumption | exact cDg_no (by omega) | exact cDg_no (by decide) | exact cDg_of (by assumption) (by omega) (by omega)) x653654 x653655) dr_cX14_next_236 ⟨wr_8_214, wr_1_32, wr_8_217, by decide, rfl, (Nat.le_of_ble_eq_true rfl), (Nat.le_of_ble_eq_true rfl)⟩ wr_8_216 wr_p_77 hmq653637 he654742 rfl (show 0 + ((16 * (p653639.toInt - g654722.toInt)).toNat) ≤ ((16 * (p653639.toInt - p653640.toInt)).toNat) by first | omega | decide) (show 0 + ((160 * (p653639.toInt - g654722.toInt)).toNat) ≤ ((160 * (p653639.toInt - p653640.toInt)).toNat) by first | omega | decide) (Nat.le_of_ble_eq_true rfl) (fun r654770 w654771 dc654767 ds654768 hp654769 => ?_) (fun _ _ _ _ _ z => z.elim)
                obtain ⟨F654779, o654772, o654773, o654774, rfl, rfl, hfr654781, he654782, he654783, hdc, hds, bo654772, bo654773, x654775, x654776, x654777, x654778⟩ := hp654769
                have hfr654784 : rFr [q653637] P653635 F653636 F654779 := rFr_call (rSub_rf (P := P653635)) hfr654743 hfr654781 (fun b hb hn => ⟨(nm_c (fun e => hn (e ▸ List.mem_cons_self)) nm_n), (nm_c (fun e => hn (e ▸ List.mem_cons_self)) nm_n)⟩)
                have bo654774 := gB_any o654774
                change G _ _ _ _ _ _ _ _ _ _ _
                refine G_widen (cs' := (16 * (o654772.toInt - g654722.toInt)).toNat) (sl' := (160 * (o654772.toInt - g654722.toInt)).toNat) (by omega) (by omega) ?_
                refine G_goto 247 dr_cX14_next_239 (by decide +kernel) ?_
                exact G_vretA dr_cX14_next_247 rfl (show (16 * (o654772.toInt - g654722.toInt)).toNat ≤ ((16 * (p653639.toInt - p653640.toInt)).toNat) by omega) (show (160 * (o654772.toInt - g654722.toInt)).toNat ≤ ((160 * (p653639.toInt - p653640.toInt)).toNat) by omega) ⟨P653635, F654779, o654772, o654773, g654722, o654774, (D.2 1000 32), rfl, rfl, (rSub_rf (P := P653635)), hfr654784, he654782, he654783, (by omega), (by omega), bo654772, (gB_w bo654773 (by decide) (by decide)), bg654722, (by have qa0 : Int32.toInt 0 = 0 := (by decide); omega), (Or.inr (by omega)), (by have qa0 : Int32.toInt 0 = 0 := (by decide); omega), (by first | exact tP_no (by omega) (by omega) | assumption), x654778⟩
              · have r654785 : o654762.toInt = 0 := gj_eq hc654764 (show Int32.toInt 0 = 0 by decide)
                have bo654762' : gB o654762 0 0 := ⟨by omega, by omega⟩
                refine G_iload_n 0 dr_cX14_next_230 rfl ?_
                refine G_if_eq 242 dr_cX14_next_231 (by decide +kernel) (fun _ => ?_) (fun hc => absurd hc (by decide))
                refine G_aload_n 2 dr_cX14_next_242 rfl ?_
                refine G_iload_n 1 dr_cX14_next_243 rfl ?_
                refine Gw_callV (As := [.int z654746]) (gV_ok D I) (cp_650083_Reader_symbol l hl0 D I P653635 F654738 q653637 q653638 z654746 p653639 g654722 p653641 g654722 p653643 p653641 (D.2 1000 32) p653646 p653647 p653648 qo653649 qo653650 p653651 f653652 hmq653637 hmq653638 he654742 he654741 bz654746 bp653639 bg654722 bp653641 bg654722 bp653641 bp653646 bp653647 bp653648 bp653651 bf653652 (by have qa0 : Int32.toInt 0 = 0 := (by decide); omega) (by have qa0 : Int32.toInt 0 = 0 := (by decide); omega) x653654 x653655) dr_cX14_next_244 ⟨wr_8_219, wr_1_32, wr_8_222, by decide, rfl, (Nat.le_of_ble_eq_true rfl), (Nat.le_of_ble_eq_true rfl)⟩ wr_8_221 wr_p_78 hmq653637 he654742 rfl (show 0 + ((16 * (p653639.toInt - g654722.toInt)).toNat) ≤ ((16 * (p653639.toInt - p653640.toInt)).toNat) by first | omega | decide) (show 0 + ((160 * (p653639.toInt - g654722.toInt)).toNat) ≤ ((160 * (p653639.toInt - p653640.toInt)).toNat) by first | omega | decide) (Nat.le_of_ble_eq_true rfl) (fun r654789 w654790 dc654786 ds654787 hp654788 => ?_) (fun _ _ _ _ _ z => z.elim)
                obtain ⟨P654798, F654799, o654791, o654792, q654793, rfl, rfl, hsb654800, hfr654801, he654802, he654803, hdc, hds, bo654791, bo654792, x654794, x654795, x654796, x654797⟩ := hp654788
                have hm654804 : q653637 ∈ P654798 := hsb654800 q653637 hmq653637
                have hm654805 : q653638 ∈ P654798 := hsb654800 q653638 hmq653638
                have hsb654806 : rSub P653635 P654798 := rSub_tr (rSub_rf (P := P653635)) hsb654800
                have hfr654807 : rFr [q653637] P653635 F653636 F654799 := rFr_call (rSub_rf (P := P653635)) hfr654743 hfr654801 (fun b hb hn => ⟨(nm_c (fun e => hn (e ▸ List.mem_cons_self)) nm_n), (nm_c (fun e => hn (e ▸ List.mem_cons_self)) nm_n)⟩)
                change G _ _ _ _ _ _ _ _ _ _ _
                refine G_widen (cs' := (16 * (o654791.toInt - g654722.toInt)).toNat) (sl' := (160 * (o654791.toInt - g654722.toInt)).toNat) (by omega) (by omega) ?_
                exact G_vretA dr_cX14_next_247 rfl (show (16 * (o654791.toInt - g654722.toInt)).toNat ≤ ((16 * (p653639.toInt - p653640.toInt)).toNat) by omega) (show (160 * (o654791.toInt - g654722.toInt)).toNat ≤ ((160 * (p653639.toInt - p653640.toInt)).toNat) by omega) ⟨P654798, F654799, o654791, o654792, g654722, p653643, q654793, rfl, rfl, hsb654806, hfr654807, he654802, he654803, (by omega), (by omega), (gB_w bo654791 (by decide) (by decide)), (gB_w bo654792 (by decide) (by decide)), bg654722, (by have qa0 : Int32.toInt 0 = 0 := (by decide); omega), (Or.inr (by omega)), (by have qa0 : Int32.toInt 0 = 0 := (by decide); omega), x654796, x654797⟩
            · have r654808 : o654753.toInt ≠ 0 := gj_neq hc654755 (show Int32.toInt 0 = 0 by decide)
              have bo654753' : gB o654753 1 1 := ⟨by omega, by omega⟩
              have bi654809 : gB z654746 97 122 := isP_1 x654754 (by omega)
              refine G_aload_n 2 dr_cX14_next_216 rfl ?_
              refine Gw_callV (As := []) (gV_ok D I) (cp_651075_Reader_word l hl0 D I P653635 F654738 q653637 q653638 p653639 g654722 p653641 g654722 p653643 p653641 (D.2 1000 32) p653646 p653647 p653648 qo653649 qo653650 p653651 f653652 hmq653637 hmq653638 he654742 he654741 bp653639 bg654722 bp653641 bg654722 bp653641 bp653646 bp653647 bp653648 bp653651 bf653652 (by have qa0 : Int32.toInt 0 = 0 := (by decide); omega) (by have qa0 : Int32.toInt 0 = 0 := (by decide); omega) (by first | assumption | exact cLt_of (by assumption) (by omega) (by omega)) x653654 x653655) dr_cX14_next_217 ⟨wr_7_221, wr_1_32, wr_7_224, by decide, rfl, (Nat.le_of_ble_eq_true rfl), (Nat.le_of_ble_eq_true rfl)⟩ wr_7_223 wr_p_76 hmq653637 he654742 rfl (show 0 + ((16 * (p653639.toInt - g654722.toInt)).toNat) ≤ ((16 * (p653639.toInt - p653640.toInt)).toNat) by first | omega | decide) (show 0 + ((160 * (p653639.toInt - g654722.toInt)).toNat) ≤ ((160 * (p653639.toInt - p653640.toInt)).toNat) by first | omega | decide) (Nat.le_of_ble_eq_true rfl) (fun r654813 w654814 dc654810 ds654811 hp654812 => ?_) (fun _ _ _ _ _ z => z.elim)
              obtain ⟨P654823, F654824, o654815, o654816, o654817, q654818, rfl, rfl, hsb654825, hfr654826, he654827, he654828, hdc, hds, bo654815, bo654816, x654819, x654820, x654821, x654822⟩ := hp654812
              have hm654829 : q653637 ∈ P654823 := hsb654825 q653637 hmq653637
              have hm654830 : q653638 ∈ P654823 := hsb654825 q653638 hmq653638
              have hsb654831 : rSub P653635 P654823 := rSub_tr (rSub_rf (P := P653635)) hsb654825
              have hfr654832 : rFr [q653637] P653635 F653636 F654824 := rFr_call (rSub_rf (P := P653635)) hfr654743 hfr654826 (fun b hb hn => ⟨(nm_c (fun e => hn (e ▸ List.mem_cons_self)) nm_n), (nm_c (fun e => hn (e ▸ List.mem_cons_self)) nm_n)⟩)
              have bo654817 := gB_any o654817
              change G _ _ _ _ _ _ _ _ _ _ _
              refine G_widen (cs' := (16 * (o654815.toInt - g654722.toInt)).toNat) (sl' := (160 * (o654815.toInt - g654722.toInt)).toNat) (by omega) (by omega) ?_
              refine G_goto 247 dr_cX14_next_220 (by decide +kernel) ?_
              exact G_vretA dr_cX14_next_247 rfl (show (16 * (o654815.toInt - g654722.toInt)).toNat ≤ ((16 * (p653639.toInt - p653640.toInt)).toNat) by omega) (show (160 * (o654815.toInt - g654722.toInt)).toNat ≤ ((160 * (p653639.toInt - p653640.toInt)).toNat) by omega) ⟨P654823, F654824, o654815, o654816, g654722, o654817, q654818, rfl, rfl, hsb654831, hfr654832, he654827, he654828, (by omega), (by omega), bo654815, (gB_w bo654816 (by decide) (by decide)), bg654722, (by have qa0 : Int32.toInt 0 = 0 := (by decide); omega), (Or.inr (by omega)), (by have qa0 : Int32.toInt 0 = 0 := (by decide); omega), x654821, x654822⟩
          refine G_iload_n 0 dr_cX14_next_151 rfl ?_
          refine G_bipush 45 dr_cX14_next_152 (by decide +kernel) ?_
          refine G_icmp_ne 207 dr_cX14_next_154 (by decide +kernel) (fun hc654833 => ?_) (fun hc654833 => ?_)
          · have r654834 : z654746.toInt ≠ 45 := gj_neq hc654833 (show Int32.toInt 45 = 45 by decide)
            refine G_iconst 0 dr_cX14_next_207 (by decide +kernel) ?_
            refine G_istore_n (L' := [(2, .int 0), (1, .int z654746), (0, .ref q653637)]) dr_cX14_next_208 (Nat.le_of_ble_eq_true rfl) rfl ?_
            refine G_lv (L' := [(2, .int 0), (1, .int z654746), (0, .ref q653637)]) [0, 1, 2] rfl ?_
            exact jn654747
          · have r654835 : z654746.toInt = 45 := gj_eq hc654833 (show Int32.toInt 45 = 45 by decide)
            have bz654746' : gB z654746 45 45 := ⟨by omega, by omega⟩
            refine G_aload_n 1 dr_cX14_next_157 rfl ?_
            refine Gp_get 2 hmq653637 he654742 dr_cX14_next_158 (gk_X14 D I) (Nat.le_of_ble_eq_true rfl) wr_9_34 rfl ?_
            refine G_iconst 1 dr_cX14_next_161 (by decide +kernel) ?_
            refine G_iadd dr_cX14_next_162 (G_nam fun z654836 hz654836 => ?_)
            have ez654836 : z654836.toInt = g654722.toInt + 1 := by rw [gI_add hz654836 bg654722 (gBl (show Int32.toInt 1 = 1 by decide)) (by decide) (by decide), show Int32.toInt 1 = 1 from by decide]
            have bz654836 : gB z654836 1 8193 := gB_add (gI_add hz654836 bg654722 (gBl (show Int32.toInt 1 = 1 by decide)) (by decide) (by decide)) bg654722 (gBl (show Int32.toInt 1 = 1 by decide)) (by decide) (by decide)
            refine G_aload_n 1 dr_cX14_next_163 rfl ?_
            refine Gp_get 1 hmq653637 he654742 dr_cX14_next_164 (gk_X14 D I) (Nat.le_of_ble_eq_true rfl) wr_9_33 rfl ?_
            refine G_icmp_ge 207 dr_cX14_next_167 (by decide +kernel) (fun hc654837 => ?_) (fun hc654837 => ?_)
            · have r654838 : p653639.toInt ≤ z654836.toInt := gC_le hc654837
              refine G_iconst 0 dr_cX14_next_207 (by decide +kernel) ?_
              refine G_istore_n (L' := [(2, .int 0), (1, .int z654746), (0, .ref q653637)]) dr_cX14_next_208 (Nat.le_of_ble_eq_true rfl) rfl ?_
              refine G_lv (L' := [(2, .int 0), (1, .int z654746), (0, .ref q653637)]) [0, 1, 2] rfl ?_
              exact jn654747
            · have r654839 : z654836.toInt < p653639.toInt := gC_nle hc654837
              have bz654836' : gB z654836 1 8191 := ⟨by omega, by omega⟩
              have bp653639' : gB p653639 2 8192 := ⟨by omega, by omega⟩
              refine G_aload_n 1 dr_cX14_next_170 rfl ?_
              refine Gp_get 0 hmq653637 he654742 dr_cX14_next_171 (gk_X14 D I) (Nat.le_of_ble_eq_true rfl) wr_9_32 rfl ?_
              refine G_aload_n 1 dr_cX14_next_174 rfl ?_
              refine Gp_get 2 hmq653637 he654742 dr_cX14_next_175 (gk_X14 D I) (Nat.le_of_ble_eq_true rfl) wr_9_34 rfl ?_
              refine G_iconst 1 dr_cX14_next_178 (by decide +kernel) ?_
              refine G_iadd dr_cX14_next_179 (G_eqi (y := z654836) hz654836.symm ?_)
              refine Gp_bald 1 hmq653638 he654741 dr_cX14_next_180 rfl (gB_in bz654836' (by decide) (by decide)) (G_nam fun z654840 hz654840 => ?_)
              have bz654840 : gB z654840 (-128) 127 := by rw [hz654840]; exact bf653652 _
              refine Gw_callS (As := [.int z654840]) (gV_ok D I) (cp_649513_Reader_isDigit l hl0 D I P653635 F654738 z654840 ) dr_cX14_next_181 ⟨wr_7_215, wr_1_32, wr_7_217, by decide, rfl, (Nat.le_of_ble_eq_true rfl), (Nat.le_of_ble_eq_true rfl)⟩ wr_7_216 (show 0 + 0 ≤ ((16 * (p653639.toInt - p653640.toInt)).toNat) by first | omega | decide) (show 0 + 0 ≤ ((160 * (p653639.toInt - p653640.toInt)).toNat) by first | omega | decide) (Nat.le_of_ble_eq_true rfl) (fun r654844 w654845 dc654841 ds654842 hp654843 => ?_) (fun _ _ _ _ _ z => z.elim)
              obtain ⟨o654846, rfl, rfl, hdc, hds, bo654846, x654847⟩ := hp654843
              change G _ _ _ _ _ _ _ (.int o654846 :: _) _ _ _
              refine G_widen (cs' := 0) (sl' := 0) (by omega) (by omega) ?_
              refine G_if_eq 207 dr_cX14_next_184 (by decide +kernel) (fun hc654848 => ?_) (fun hc654848 => ?_)
              · have r654849 : o654846.toInt = 0 := gj_eq hc654848 (show Int32.toInt 0 = 0 by decide)
                have bo654846' : gB o654846 0 0 := ⟨by omega, by omega⟩
                refine G_iconst 0 dr_cX14_next_207 (by decide +kernel) ?_
                refine G_istore_n (L' := [(2, .int 0), (1, .int z654746), (0, .ref q653637)]) dr_cX14_next_208 (Nat.le_of_ble_eq_true rfl) rfl ?_
                refine G_lv (L' := [(2, .int 0), (1, .int z654746), (0, .ref q653637)]) [0, 1, 2] rfl ?_
                exact jn654747
              · have r654850 : o654846.toInt ≠ 0 := gj_neq hc654848 (show Int32.toInt 0 = 0 by decide)
                have bo654846' : gB o654846 1 1 := ⟨by omega, by omega⟩
                have bi654851 : gB z654840 48 57 := isP_1 x654847 (by omega)
                refine G_aload_n 1 dr_cX14_next_187 rfl ?_
                refine Gp_get 6 hmq653637 he654742 dr_cX14_next_188 (gk_X14 D I) (Nat.le_of_ble_eq_true rfl) wr_9_38 rfl ?_
                refine G_iconst 2 dr_cX14_next_191 (by decide +kernel) ?_
                refine G_icmp_eq 207 dr_cX14_next_192 (by decide +kernel) (fun hc654852 => ?_) (fun hc654852 => ?_)
                · have r654853 : p653641.toInt = 2 := gj_eq hc654852 (show Int32.toInt 2 = 2 by decide)
                  have bp653641' : gB p653641 2 2 := ⟨by omega, by omega⟩
                  refine G_iconst 0 dr_cX14_next_207 (by decide +kernel) ?_
                  refine G_istore_n (L' := [(2, .int 0), (1, .int z654746), (0, .ref q653637)]) dr_cX14_next_208 (Nat.le_of_ble_eq_true rfl) rfl ?_
                  refine G_lv (L' := [(2, .int 0), (1, .int z654746), (0, .ref q653637)]) [0, 1, 2] rfl ?_
                  exact jn654747
                · have r654854 : p653641.toInt ≠ 2 := gj_neq hc654852 (show Int32.toInt 2 = 2 by decide)
                  refine G_aload_n 1 dr_cX14_next_195 rfl ?_
                  refine Gp_get 6 hmq653637 he654742 dr_cX14_next_196 (gk_X14 D I) (Nat.le_of_ble_eq_true rfl) wr_9_38 rfl ?_
                  refine G_iconst 4 dr_cX14_next_199 (by decide +kernel) ?_
                  refine G_icmp_eq 207 dr_cX14_next_200 (by decide +kernel) (fun hc654855 => ?_) (fun hc654855 => ?_)
                  · have r654856 : p653641.toInt = 4 := gj_eq hc654855 (show Int32.toInt 4 = 4 by decide)
                    have bp653641' : gB p653641 4 4 := ⟨by omega, by omega⟩
                    refine G_iconst 0 dr_cX14_next_207 (by decide +kernel) ?_
                    refine G_istore_n (L' := [(2, .int 0), (1, .int z654746), (0, .ref q653637)]) dr_cX14_next_208 (Nat.le_of_ble_eq_true rfl) rfl ?_
                    refine G_lv (L' := [(2, .int 0), (1, .int z654746), (0, .ref q653637)]) [0, 1, 2] rfl ?_
                    exact jn654747
                  · have r654857 : p653641.toInt ≠ 4 := gj_neq hc654855 (show Int32.toInt 4 = 4 by decide)
                    refine G_iconst 1 dr_cX14_next_203 (by decide +kernel) ?_
                    refine G_goto 208 dr_cX14_next_204 (by decide +kernel) ?_
                    refine G_istore_n (L' := [(2, .int 1), (1, .int z654746), (0, .ref q653637)]) dr_cX14_next_208 (Nat.le_of_ble_eq_true rfl) rfl ?_
                    clear bz654746 jn654747 bz654836 bz654840 bo654846 bo654846'; try clear r654844; try clear w654845; try clear dc654841; try clear ds654842; try clear hp654843; try clear x654847; try clear r654850
                    refine G_iload_n 1 dr_cX14_next_209 rfl ?_
                    refine Gw_callS (As := [.int z654746]) (gV_ok D I) (cp_651412_Reader_isLetter l hl0 D I P653635 F654738 z654746 ) dr_cX14_next_210 ⟨wr_7_218, wr_1_32, wr_7_220, by decide, rfl, (Nat.le_of_ble_eq_true rfl), (Nat.le_of_ble_eq_true rfl)⟩ wr_7_219 (show 0 + 0 ≤ ((16 * (p653639.toInt - p653640.toInt)).toNat) by first | omega | decide) (show 0 + 0 ≤ ((160 * (p653639.toInt - p653640.toInt)).toNat) by first | omega | decide) (Nat.le_of_ble_eq_true rfl) (fun r654861 w654862 dc654858 ds654859 hp654860 => ?_) (fun _ _ _ _ _ z => z.elim)
                    obtain ⟨o654863, rfl, rfl, hdc, hds, bo654863, x654864⟩ := hp654860
                    change G _ _ _ _ _ _ _ (.int o654863 :: _) _ _ _
                    refine G_widen (cs' := 0) (sl' := 0) (by omega) (by omega) ?_
                    refine G_if_eq 223 dr_cX14_next_213 (by decide +kernel) (fun hc654865 => ?_) (fun hc654865 => ?_)
                    · have r654866 : o654863.toInt = 0 := gj_eq hc654865 (show Int32.toInt 0 = 0 by decide)
                      have bo654863' : gB o654863 0 0 := ⟨by omega, by omega⟩
                      clear bo654863 bo654863'; try clear r654861; try clear w654862; try clear dc654858; try clear ds654859; try clear hp654860; try clear x654864; try clear r654866
                      refine G_iload_n 1 dr_cX14_next_223 rfl ?_
                      refine Gw_callS (As := [.int z654746]) (gV_ok D I) (cp_649513_Reader_isDigit l hl0 D I P653635 F654738 z654746 ) dr_cX14_next_224 ⟨wr_7_215, wr_1_32, wr_7_217, by decide, rfl, (Nat.le_of_ble_eq_true rfl), (Nat.le_of_ble_eq_true rfl)⟩ wr_7_216 (show 0 + 0 ≤ ((16 * (p653639.toInt - p653640.toInt)).toNat) by first | omega | decide) (show 0 + 0 ≤ ((160 * (p653639.toInt - p653640.toInt)).toNat) by first | omega | decide) (Nat.le_of_ble_eq_true rfl) (fun r654870 w654871 dc654867 ds654868 hp654869 => ?_) (fun _ _ _ _ _ z => z.elim)
                      obtain ⟨o654872, rfl, rfl, hdc, hds, bo654872, x654873⟩ := hp654869
                      change G _ _ _ _ _ _ _ (.int o654872 :: _) _ _ _
                      refine G_widen (cs' := 0) (sl' := 0) (by omega) (by omega) ?_
                      refine G_if_ne 234 dr_cX14_next_227 (by decide +kernel) (fun hc654874 => ?_) (fun hc654874 => ?_)
                      · have r654875 : o654872.toInt ≠ 0 := gj_neq hc654874 (show Int32.toInt 0 = 0 by decide)
                        have bo654872' : gB o654872 1 1 := ⟨by omega, by omega⟩
                        have bi654876 : gB z654746 48 57 := isP_1 x654873 (by omega)
                        refine G_aload_n 2 dr_cX14_next_234 rfl ?_
                        refine G_iload_n 0 dr_cX14_next_235 rfl ?_
                        refine Gw_callV (As := [.int 1]) (gV_ok D I) (cp_649477_Reader_number l hl0 D I P653635 F654738 q653637 q653638 1 p653639 g654722 p653641 g654722 p653643 p653641 (D.2 1000 32) p653646 p653647 p653648 qo653649 qo653650 p653651 f653652 hmq653637 hmq653638 he654742 he654741 (gB_w (gBl (show Int32.toInt 1 = 1 by decide)) (by decide) (by decide)) (gB_w bp653639' (by decide) (by decide)) bg654722 bp653641 bg654722 bp653641 bp653646 bp653647 bp653648 bp653651 bf653652 (by have qa0 : Int32.toInt 1 = 1 := (by decide); omega) (by have qa0 : Int32.toInt 1 = 1 := (by decide); omega) (by first | assumption | exact cDg_no (by omega) | exact cDg_no (by decide) | exact cDg_of (by assumption) (by omega) (by omega)) x653654 x653655) dr_cX14_next_236 ⟨wr_8_214, wr_1_32, wr_8_217, by decide, rfl, (Nat.le_of_ble_eq_true rfl), (Nat.le_of_ble_eq_true rfl)⟩ wr_8_216 wr_p_77 hmq653637 he654742 rfl (show 0 + ((16 * (p653639.toInt - g654722.toInt)).toNat) ≤ ((16 * (p653639.toInt - p653640.toInt)).toNat) by first | omega | decide) (show 0 + ((160 * (p653639.toInt - g654722.toInt)).toNat) ≤ ((160 * (p653639.toInt - p653640.toInt)).toNat) by first | omega | decide) (Nat.le_of_ble_eq_true rfl) (fun r654880 w654881 dc654877 ds654878 hp654879 => ?_) (fun _ _ _ _ _ z => z.elim)
                        obtain ⟨F654889, o654882, o654883, o654884, rfl, rfl, hfr654891, he654892, he654893, hdc, hds, bo654882, bo654883, x654885, x654886, x654887, x654888⟩ := hp654879
                        have hfr654894 : rFr [q653637] P653635 F653636 F654889 := rFr_call (rSub_rf (P := P653635)) hfr654743 hfr654891 (fun b hb hn => ⟨(nm_c (fun e => hn (e ▸ List.mem_cons_self)) nm_n), (nm_c (fun e => hn (e ▸ List.mem_cons_self)) nm_n)⟩)
                        have bo654884 := gB_any o654884
                        change G _ _ _ _ _ _ _ _ _ _ _
                        refine G_widen (cs' := (16 * (o654882.toInt - g654722.toInt)).toNat) (sl' := (160 * (o654882.toInt - g654722.toInt)).toNat) (by omega) (by omega) ?_
                        refine G_goto 247 dr_cX14_next_239 (by decide +kernel) ?_
                        exact G_vretA dr_cX14_next_247 rfl (show (16 * (o654882.toInt - g654722.toInt)).toNat ≤ ((16 * (p653639.toInt - p653640.toInt)).toNat) by omega) (show (160 * (o654882.toInt - g654722.toInt)).toNat ≤ ((160 * (p653639.toInt - p653640.toInt)).toNat) by omega) ⟨P653635, F654889, o654882, o654883, g654722, o654884, (D.2 1000 32), rfl, rfl, (rSub_rf (P := P653635)), hfr654894, he654892, he654893, (by omega), (by omega), bo654882, (gB_w bo654883 (by decide) (by decide)), bg654722, (by have qa0 : Int32.toInt 1 = 1 := (by decide); omega), (Or.inr (by omega)), (by have qa0 : Int32.toInt 1 = 1 := (by decide); omega), (by first | exact tP_no (by omega) (by omega) | assumption), x654888⟩
                      · have r654895 : o654872.toInt = 0 := gj_eq hc654874 (show Int32.toInt 0 = 0 by decide)
                        have bo654872' : gB o654872 0 0 := ⟨by omega, by omega⟩
                        refine G_iload_n 0 dr_cX14_next_230 rfl ?_
                        refine G_if_eq 242 dr_cX14_next_231 (by decide +kernel) (fun hc => absurd hc (by decide)) (fun _ => ?_)
                        refine G_aload_n 2 dr_cX14_next_234 rfl ?_
                        refine G_iload_n 0 dr_cX14_next_235 rfl ?_
                        refine Gw_callV (As := [.int 1]) (gV_ok D I) (cp_649477_Reader_number l hl0 D I P653635 F654738 q653637 q653638 1 p653639 g654722 p653641 g654722 p653643 p653641 (D.2 1000 32) p653646 p653647 p653648 qo653649 qo653650 p653651 f653652 hmq653637 hmq653638 he654742 he654741 (gB_w (gBl (show Int32.toInt 1 = 1 by decide)) (by decide) (by decide)) (gB_w bp653639' (by decide) (by decide)) bg654722 bp653641 bg654722 bp653641 bp653646 bp653647 bp653648 bp653651 bf653652 (by have qa0 : Int32.toInt 1 = 1 := (by decide); omega) (by have qa0 : Int32.toInt 1 = 1 := (by decide); omega) (by first | assumption | exact cDg_no (by omega) | exact cDg_no (by decide) | exact cDg_of (by assumption) (by omega) (by omega)) x653654 x653655) dr_cX14_next_236 ⟨wr_8_214, wr_1_32, wr_8_217, by decide, rfl, (Nat.le_of_ble_eq_true rfl), (Nat.le_of_ble_eq_true rfl)⟩ wr_8_216 wr_p_77 hmq653637 he654742 rfl (show 0 + ((16 * (p653639.toInt - g654722.toInt)).toNat) ≤ ((16 * (p653639.toInt - p653640.toInt)).toNat) by first | omega | decide) (show 0 + ((160 * (p653639.toInt - g654722.toInt)).toNat) ≤ ((160 * (p653639.toInt - p653640.toInt)).toNat) by first | omega | decide) (Nat.le_of_ble_eq_true rfl) (fun r654899 w654900 dc654896 ds654897 hp654898 => ?_) (fun _ _ _ _ _ z => z.elim)
                        obtain ⟨F654908, o654901, o654902, o654903, rfl, rfl, hfr654910, he654911, he654912, hdc, hds, bo654901, bo654902, x654904, x654905, x654906, x654907⟩ := hp654898
                        have hfr654913 : rFr [q653637] P653635 F653636 F654908 := rFr_call (rSub_rf (P := P653635)) hfr654743 hfr654910 (fun b hb hn => ⟨(nm_c (fun e => hn (e ▸ List.mem_cons_self)) nm_n), (nm_c (fun e => hn (e ▸ List.mem_cons_self)) nm_n)⟩)
                        have bo654903 := gB_any o654903
                        change G _ _ _ _ _ _ _ _ _ _ _
                        refine G_widen (cs' := (16 * (o654901.toInt - g654722.toInt)).toNat) (sl' := (160 * (o654901.toInt - g654722.toInt)).toNat) (by omega) (by omega) ?_
                        refine G_goto 247 dr_cX14_next_239 (by decide +kernel) ?_
                        exact G_vretA dr_cX14_next_247 rfl (show (16 * (o654901.toInt - g654722.toInt)).toNat ≤ ((16 * (p653639.toInt - p653640.toInt)).toNat) by omega) (show (160 * (o654901.toInt - g654722.toInt)).toNat ≤ ((160 * (p653639.toInt - p653640.toInt)).toNat) by omega) ⟨P653635, F654908, o654901, o654902, g654722, o654903, (D.2 1000 32), rfl, rfl, (rSub_rf (P := P653635)), hfr654913, he654911, he654912, (by omega), (by omega), bo654901, (gB_w bo654902 (by decide) (by decide)), bg654722, (by have qa0 : Int32.toInt 1 = 1 := (by decide); omega), (Or.inr (by omega)), (by have qa0 : Int32.toInt 1 = 1 := (by decide); omega), (by first | exact tP_no (by omega) (by omega) | assumption), x654907⟩
                    · have r654914 : o654863.toInt ≠ 0 := gj_neq hc654865 (show Int32.toInt 0 = 0 by decide)
                      have bo654863' : gB o654863 1 1 := ⟨by omega, by omega⟩
                      have bi654915 : gB z654746 97 122 := isP_1 x654864 (by omega)
                      refine G_aload_n 2 dr_cX14_next_216 rfl ?_
                      refine Gw_callV (As := []) (gV_ok D I) (cp_651075_Reader_word l hl0 D I P653635 F654738 q653637 q653638 p653639 g654722 p653641 g654722 p653643 p653641 (D.2 1000 32) p653646 p653647 p653648 qo653649 qo653650 p653651 f653652 hmq653637 hmq653638 he654742 he654741 (gB_w bp653639' (by decide) (by decide)) bg654722 bp653641 bg654722 bp653641 bp653646 bp653647 bp653648 bp653651 bf653652 (by have qa0 : Int32.toInt 1 = 1 := (by decide); omega) (by have qa0 : Int32.toInt 1 = 1 := (by decide); omega) (by first | assumption | exact cLt_of (by assumption) (by omega) (by omega)) x653654 x653655) dr_cX14_next_217 ⟨wr_7_221, wr_1_32, wr_7_224, by decide, rfl, (Nat.le_of_ble_eq_true rfl), (Nat.le_of_ble_eq_true rfl)⟩ wr_7_223 wr_p_76 hmq653637 he654742 rfl (show 0 + ((16 * (p653639.toInt - g654722.toInt)).toNat) ≤ ((16 * (p653639.toInt - p653640.toInt)).toNat) by first | omega | decide) (show 0 + ((160 * (p653639.toInt - g654722.toInt)).toNat) ≤ ((160 * (p653639.toInt - p653640.toInt)).toNat) by first | omega | decide) (Nat.le_of_ble_eq_true rfl) (fun r654919 w654920 dc654916 ds654917 hp654918 => ?_) (fun _ _ _ _ _ z => z.elim)
                      obtain ⟨P654929, F654930, o654921, o654922, o654923, q654924, rfl, rfl, hsb654931, hfr654932, he654933, he654934, hdc, hds, bo654921, bo654922, x654925, x654926, x654927, x654928⟩ := hp654918
                      have hm654935 : q653637 ∈ P654929 := hsb654931 q653637 hmq653637
                      have hm654936 : q653638 ∈ P654929 := hsb654931 q653638 hmq653638
                      have hsb654937 : rSub P653635 P654929 := rSub_tr (rSub_rf (P := P653635)) hsb654931
                      have hfr654938 : rFr [q653637] P653635 F653636 F654930 := rFr_call (rSub_rf (P := P653635)) hfr654743 hfr654932 (fun b hb hn => ⟨(nm_c (fun e => hn (e ▸ List.mem_cons_self)) nm_n), (nm_c (fun e => hn (e ▸ List.mem_cons_self)) nm_n)⟩)
                      have bo654923 := gB_any o654923
                      change G _ _ _ _ _ _ _ _ _ _ _
                      refine G_widen (cs' := (16 * (o654921.toInt - g654722.toInt)).toNat) (sl' := (160 * (o654921.toInt - g654722.toInt)).toNat) (by omega) (by omega) ?_
                      refine G_goto 247 dr_cX14_next_220 (by decide +kernel) ?_
                      exact G_vretA dr_cX14_next_247 rfl (show (16 * (o654921.toInt - g654722.toInt)).toNat ≤ ((16 * (p653639.toInt - p653640.toInt)).toNat) by omega) (show (160 * (o654921.toInt - g654722.toInt)).toNat ≤ ((160 * (p653639.toInt - p653640.toInt)).toNat) by omega) ⟨P654929, F654930, o654921, o654922, g654722, o654923, q654924, rfl, rfl, hsb654937, hfr654938, he654933, he654934, (by omega), (by omega), bo654921, (gB_w bo654922 (by decide) (by decide)), bg654722, (by have qa0 : Int32.toInt 1 = 1 := (by decide); omega), (Or.inr (by omega)), (by have qa0 : Int32.toInt 1 = 1 := (by decide); omega), x654927, x654928⟩
        · have r654939 : g654722.toInt = p653639.toInt := gC_eq hc654744
          refine G_aload_n 0 dr_cX14_next_135 rfl ?_
          refine G_iconst 0 dr_cX14_next_136 (by decide +kernel) ?_
          refine Gp_put 3 hmq653637 he654742 dr_cX14_next_137 (gk_X14 D I) (Nat.le_of_ble_eq_true rfl) wr_9_35 rfl rfl rfl (Nat.le_of_ble_eq_true rfl) (fun F654940 e654941 n654942 => ?_)
          have he654943 : F654940 q653638 = .inl (I .byte, 8192, .inl f653652) := (n654942 q653638 (rn_ao he654741 he654742)).trans he654741
          have he654944 : F654940 q653637 = .inr (19, [.ref q653638, .int p653639, .int g654722, .int 0, .int g654722, .int p653643, .int p653641, .ref (D.2 1000 32), .int p653646, .int p653647, .int p653648, .ref qo653649, .ref qo653650, .int p653651]) := e654941
          have hfr654945 : rFr [q653637] P653635 F653636 F654940 := rFr_put' List.mem_cons_self hfr654743 n654942
          exact G_vretA dr_cX14_next_140 rfl (show 0 ≤ ((16 * (p653639.toInt - p653640.toInt)).toNat) by omega) (show 0 ≤ ((160 * (p653639.toInt - p653640.toInt)).toNat) by omega) ⟨P653635, F654940, g654722, 0, g654722, p653643, (D.2 1000 32), rfl, rfl, (rSub_rf (P := P653635)), hfr654945, he654944, he654943, (by omega), (by omega), bg654722, (gB_w (gBl (show Int32.toInt 0 = 0 by decide)) (by decide) (by decide)), bg654722, (by have qa0 : Int32.toInt 0 = 0 := (by decide); omega), (Or.inl (by decide)), (by have qa0 : Int32.toInt 0 = 0 := (by decide); omega), (tP_no (by decide) (by decide)), (vP_no (by decide) (by decide))⟩
      · have r654946 : g654722.toInt < p653639.toInt := gC_nle hc654729
        have bg654722' : gB g654722 0 8191 := ⟨by omega, by omega⟩
        have bp653639' : gB p653639 1 8192 := ⟨by omega, by omega⟩
        refine G_aload_n 0 dr_cX14_next_19 rfl ?_
        refine Gp_get 0 hmq653637 he654724 dr_cX14_next_20 (gk_X14 D I) (Nat.le_of_ble_eq_true rfl) wr_9_32 rfl ?_
        refine G_aload_n 0 dr_cX14_next_23 rfl ?_
        refine Gp_get 2 hmq653637 he654724 dr_cX14_next_24 (gk_X14 D I) (Nat.le_of_ble_eq_true rfl) wr_9_34 rfl ?_
        refine Gp_bald 1 hmq653638 he654725 dr_cX14_next_27 rfl (gB_in bg654722' (by decide) (by decide)) (G_nam fun z654947 hz654947 => ?_)
        have bz654947 : gB z654947 (-128) 127 := by rw [hz654947]; exact bf653652 _
        refine G_istore_n (L' := [(1, .int z654947), (0, .ref q653637)]) dr_cX14_next_28 (Nat.le_of_ble_eq_true rfl) rfl ?_
        refine G_iload_n 0 dr_cX14_next_29 rfl ?_
        refine G_bipush 59 dr_cX14_next_30 (by decide +kernel) ?_
        refine G_icmp_ne 73 dr_cX14_next_32 (by decide +kernel) (fun hc654948 => ?_) (fun hc654948 => ?_)
        · have r654949 : z654947.toInt ≠ 59 := gj_neq hc654948 (show Int32.toInt 59 = 59 by decide)
          refine G_iload_n 0 dr_cX14_next_73 rfl ?_
          refine G_bipush 9 dr_cX14_next_74 (by decide +kernel) ?_
          refine G_icmp_eq 97 dr_cX14_next_76 (by decide +kernel) (fun hc654950 => ?_) (fun hc654950 => ?_)
          · have r654951 : z654947.toInt = 9 := gj_eq hc654950 (show Int32.toInt 9 = 9 by decide)
            have bz654947' : gB z654947 9 9 := ⟨by omega, by omega⟩
            refine G_aload_n 1 dr_cX14_next_97 rfl ?_
            refine G_dup dr_cX14_next_98 rfl ?_
            refine Gp_get 2 hmq653637 he654724 dr_cX14_next_99 (gk_X14 D I) (Nat.le_of_ble_eq_true rfl) wr_9_34 rfl ?_
            refine G_iconst 1 dr_cX14_next_102 (by decide +kernel) ?_
            refine G_iadd dr_cX14_next_103 (G_nam fun z654952 hz654952 => ?_)
            have ez654952 : z654952.toInt = g654722.toInt + 1 := by rw [gI_add hz654952 bg654722' (gBl (show Int32.toInt 1 = 1 by decide)) (by decide) (by decide), show Int32.toInt 1 = 1 from by decide]
            have bz654952 : gB z654952 1 8192 := gB_add (gI_add hz654952 bg654722' (gBl (show Int32.toInt 1 = 1 by decide)) (by decide) (by decide)) bg654722' (gBl (show Int32.toInt 1 = 1 by decide)) (by decide) (by decide)
            refine Gp_put 2 hmq653637 he654724 dr_cX14_next_104 (gk_X14 D I) (Nat.le_of_ble_eq_true rfl) wr_9_34 rfl rfl rfl (Nat.le_of_ble_eq_true rfl) (fun F654953 e654954 n654955 => ?_)
            have he654956 : F654953 q653638 = .inl (I .byte, 8192, .inl f653652) := (n654955 q653638 (rn_ao he654725 he654724)).trans he654725
            have he654957 : F654953 q653637 = .inr (19, [.ref q653638, .int p653639, .int z654952, .int p653641, .int p653642, .int p653643, .int p653641, .ref qo653645, .int p653646, .int p653647, .int p653648, .ref qo653649, .ref qo653650, .int p653651]) := e654954
            have hfr654958 : rFr [q653637] P653635 F653636 F654953 := rFr_put' List.mem_cons_self hfr654726 n654955
            have x654959 : g654722.toInt < z654952.toInt := by first | omega | exact chNe (a := g654722) (b := z654952) (by assumption) (by assumption) (by omega) (by omega)
            refine G_goto 8 dr_cX14_next_107 (by decide +kernel) ?_
            refine G_lv (L' := [(0, .ref q653637)]) [1] rfl ?_
            exact ih8_654728 F654953 z654952 (gB_w bz654952 (by decide) (by decide)) hfr654958 he654957 he654956 (by omega) (by omega) (by omega)
          · have r654960 : z654947.toInt ≠ 9 := gj_neq hc654950 (show Int32.toInt 9 = 9 by decide)
            refine G_iload_n 0 dr_cX14_next_79 rfl ?_
            refine G_bipush 10 dr_cX14_next_80 (by decide +kernel) ?_
            refine G_icmp_eq 97 dr_cX14_next_82 (by decide +kernel) (fun hc654961 => ?_) (fun hc654961 => ?_)
            · have r654962 : z654947.toInt = 10 := gj_eq hc654961 (show Int32.toInt 10 = 10 by decide)
              have bz654947' : gB z654947 10 10 := ⟨by omega, by omega⟩
              refine G_aload_n 1 dr_cX14_next_97 rfl ?_
              refine G_dup dr_cX14_next_98 rfl ?_
              refine Gp_get 2 hmq653637 he654724 dr_cX14_next_99 (gk_X14 D I) (Nat.le_of_ble_eq_true rfl) wr_9_34 rfl ?_
              refine G_iconst 1 dr_cX14_next_102 (by decide +kernel) ?_
              refine G_iadd dr_cX14_next_103 (G_nam fun z654963 hz654963 => ?_)
              have ez654963 : z654963.toInt = g654722.toInt + 1 := by rw [gI_add hz654963 bg654722' (gBl (show Int32.toInt 1 = 1 by decide)) (by decide) (by decide), show Int32.toInt 1 = 1 from by decide]
              have bz654963 : gB z654963 1 8192 := gB_add (gI_add hz654963 bg654722' (gBl (show Int32.toInt 1 = 1 by decide)) (by decide) (by decide)) bg654722' (gBl (show Int32.toInt 1 = 1 by decide)) (by decide) (by decide)
              refine Gp_put 2 hmq653637 he654724 dr_cX14_next_104 (gk_X14 D I) (Nat.le_of_ble_eq_true rfl) wr_9_34 rfl rfl rfl (Nat.le_of_ble_eq_true rfl) (fun F654964 e654965 n654966 => ?_)
              have he654967 : F654964 q653638 = .inl (I .byte, 8192, .inl f653652) := (n654966 q653638 (rn_ao he654725 he654724)).trans he654725
              have he654968 : F654964 q653637 = .inr (19, [.ref q653638, .int p653639, .int z654963, .int p653641, .int p653642, .int p653643, .int p653641, .ref qo653645, .int p653646, .int p653647, .int p653648, .ref qo653649, .ref qo653650, .int p653651]) := e654965
              have hfr654969 : rFr [q653637] P653635 F653636 F654964 := rFr_put' List.mem_cons_self hfr654726 n654966
              have x654970 : g654722.toInt < z654963.toInt := by first | omega | exact chNe (a := g654722) (b := z654963) (by assumption) (by assumption) (by omega) (by omega)
              refine G_goto 8 dr_cX14_next_107 (by decide +kernel) ?_
              refine G_lv (L' := [(0, .ref q653637)]) [1] rfl ?_
              exact ih8_654728 F654964 z654963 (gB_w bz654963 (by decide) (by decide)) hfr654969 he654968 he654967 (by omega) (by omega) (by omega)
            · have r654971 : z654947.toInt ≠ 10 := gj_neq hc654961 (show Int32.toInt 10 = 10 by decide)
              refine G_iload_n 0 dr_cX14_next_85 rfl ?_
              refine G_bipush 13 dr_cX14_next_86 (by decide +kernel) ?_
              refine G_icmp_eq 97 dr_cX14_next_88 (by decide +kernel) (fun hc654972 => ?_) (fun hc654972 => ?_)
              · have r654973 : z654947.toInt = 13 := gj_eq hc654972 (show Int32.toInt 13 = 13 by decide)
                have bz654947' : gB z654947 13 13 := ⟨by omega, by omega⟩
                refine G_aload_n 1 dr_cX14_next_97 rfl ?_
                refine G_dup dr_cX14_next_98 rfl ?_
                refine Gp_get 2 hmq653637 he654724 dr_cX14_next_99 (gk_X14 D I) (Nat.le_of_ble_eq_true rfl) wr_9_34 rfl ?_
                refine G_iconst 1 dr_cX14_next_102 (by decide +kernel) ?_
                refine G_iadd dr_cX14_next_103 (G_nam fun z654974 hz654974 => ?_)
                have ez654974 : z654974.toInt = g654722.toInt + 1 := by rw [gI_add hz654974 bg654722' (gBl (show Int32.toInt 1 = 1 by decide)) (by decide) (by decide), show Int32.toInt 1 = 1 from by decide]
                have bz654974 : gB z654974 1 8192 := gB_add (gI_add hz654974 bg654722' (gBl (show Int32.toInt 1 = 1 by decide)) (by decide) (by decide)) bg654722' (gBl (show Int32.toInt 1 = 1 by decide)) (by decide) (by decide)
                refine Gp_put 2 hmq653637 he654724 dr_cX14_next_104 (gk_X14 D I) (Nat.le_of_ble_eq_true rfl) wr_9_34 rfl rfl rfl (Nat.le_of_ble_eq_true rfl) (fun F654975 e654976 n654977 => ?_)
                have he654978 : F654975 q653638 = .inl (I .byte, 8192, .inl f653652) := (n654977 q653638 (rn_ao he654725 he654724)).trans he654725
                have he654979 : F654975 q653637 = .inr (19, [.ref q653638, .int p653639, .int z654974, .int p653641, .int p653642, .int p653643, .int p653641, .ref qo653645, .int p653646, .int p653647, .int p653648, .ref qo653649, .ref qo653650, .int p653651]) := e654976
                have hfr654980 : rFr [q653637] P653635 F653636 F654975 := rFr_put' List.mem_cons_self hfr654726 n654977
                have x654981 : g654722.toInt < z654974.toInt := by first | omega | exact chNe (a := g654722) (b := z654974) (by assumption) (by assumption) (by omega) (by omega)
                refine G_goto 8 dr_cX14_next_107 (by decide +kernel) ?_
                refine G_lv (L' := [(0, .ref q653637)]) [1] rfl ?_
                exact ih8_654728 F654975 z654974 (gB_w bz654974 (by decide) (by decide)) hfr654980 he654979 he654978 (by omega) (by omega) (by omega)
              · have r654982 : z654947.toInt ≠ 13 := gj_neq hc654972 (show Int32.toInt 13 = 13 by decide)
                refine G_iload_n 0 dr_cX14_next_91 rfl ?_
                refine G_bipush 32 dr_cX14_next_92 (by decide +kernel) ?_
                refine G_icmp_ne 110 dr_cX14_next_94 (by decide +kernel) (fun hc654983 => ?_) (fun hc654983 => ?_)
                · have r654984 : z654947.toInt ≠ 32 := gj_neq hc654983 (show Int32.toInt 32 = 32 by decide)
                  clear he653660 he653661 hfr653662
                  refine G_aload_n 1 dr_cX14_next_110 rfl ?_
                  refine G_aload_n 1 dr_cX14_next_111 rfl ?_
                  refine Gp_get 2 hmq653637 he654724 dr_cX14_next_112 (gk_X14 D I) (Nat.le_of_ble_eq_true rfl) wr_9_34 rfl ?_
                  refine Gp_put 4 hmq653637 he654724 dr_cX14_next_115 (gk_X14 D I) (Nat.le_of_ble_eq_true rfl) wr_9_36 rfl rfl rfl (Nat.le_of_ble_eq_true rfl) (fun F654985 e654986 n654987 => ?_)
                  have he654988 : F654985 q653638 = .inl (I .byte, 8192, .inl f653652) := (n654987 q653638 (rn_ao he654725 he654724)).trans he654725
                  have he654989 : F654985 q653637 = .inr (19, [.ref q653638, .int p653639, .int g654722, .int p653641, .int g654722, .int p653643, .int p653641, .ref qo653645, .int p653646, .int p653647, .int p653648, .ref qo653649, .ref qo653650, .int p653651]) := e654986
                  have hfr654990 : rFr [q653637] P653635 F653636 F654985 := rFr_put' List.mem_cons_self hfr654726 n654987
                  refine G_aload_n 1 dr_cX14_next_118 rfl ?_
                  refine G_ldcK (a := D.2 1000 32) dr_cX14_next_119 (fun _ _ _ h => gx_vk 32 rfl rfl h) ?_
                  have hl32_654990 : (sb_32.length : Int) = 0 := rfl
                  refine Gp_put 7 hmq653637 he654989 dr_cX14_next_121 (gk_X14 D I) (Nat.le_of_ble_eq_true rfl) wr_9_39 rfl rfl rfl (Nat.le_of_ble_eq_true rfl) (fun F654992 e654993 n654994 => ?_)
                  have he654995 : F654992 q653638 = .inl (I .byte, 8192, .inl f653652) := (n654994 q653638 (rn_ao he654988 he654989)).trans he654988
                  have he654996 : F654992 q653637 = .inr (19, [.ref q653638, .int p653639, .int g654722, .int p653641, .int g654722, .int p653643, .int p653641, .ref (D.2 1000 32), .int p653646, .int p653647, .int p653648, .ref qo653649, .ref qo653650, .int p653651]) := e654993
                  have hfr654997 : rFr [q653637] P653635 F653636 F654992 := rFr_put' List.mem_cons_self hfr654990 n654994
                  clear he654988 he654989 hfr654990
                  refine G_aload_n 1 dr_cX14_next_124 rfl ?_
                  refine Gp_get 2 hmq653637 he654996 dr_cX14_next_125 (gk_X14 D I) (Nat.le_of_ble_eq_true rfl) wr_9_34 rfl ?_
                  refine G_aload_n 1 dr_cX14_next_128 rfl ?_
                  refine Gp_get 1 hmq653637 he654996 dr_cX14_next_129 (gk_X14 D I) (Nat.le_of_ble_eq_true rfl) wr_9_33 rfl ?_
                  refine G_icmp_ne 141 dr_cX14_next_132 (by decide +kernel) (fun hc654998 => ?_) (fun hc654998 => ?_)
                  · have r654999 : g654722.toInt ≠ p653639.toInt := gC_ne hc654998
                    refine G_aload_n 1 dr_cX14_next_141 rfl ?_
                    refine Gp_get 0 hmq653637 he654996 dr_cX14_next_142 (gk_X14 D I) (Nat.le_of_ble_eq_true rfl) wr_9_32 rfl ?_
                    refine G_aload_n 1 dr_cX14_next_145 rfl ?_
                    refine Gp_get 2 hmq653637 he654996 dr_cX14_next_146 (gk_X14 D I) (Nat.le_of_ble_eq_true rfl) wr_9_34 rfl ?_
                    refine Gp_bald 1 hmq653638 he654995 dr_cX14_next_149 rfl (gB_in bg654722' (by decide) (by decide)) (G_eqi (y := z654947) hz654947.symm ?_)
                    refine G_istore_n (L' := [(1, .int z654947), (0, .ref q653637)]) dr_cX14_next_150 (Nat.le_of_ble_eq_true rfl) rfl ?_
                    have jn655000 : G (gV D I) l (gRm 7 155 ((16 * (p653639.toInt - p653640.toInt)).toNat) ((160 * (p653639.toInt - p653640.toInt)).toNat)) (gMA (gV D I) (pp_653656_Reader_next D I P653635 F653636 q653637 q653638 p653639 p653640 p653641 p653642 p653643 p653644 qo653645 p653646 p653647 p653648 qo653649 qo653650 p653651 f653652) gNA ((16 * (p653639.toInt - p653640.toInt)).toNat) ((160 * (p653639.toInt - p653640.toInt)).toNat)) ky_653656_Reader_next 209 [(2, .int 0), (1, .int z654947), (0, .ref q653637)] [] (va_pl P653635 F654992) 0 0 := by
                      refine G_iload_n 1 dr_cX14_next_209 rfl ?_
                      refine Gw_callS (As := [.int z654947]) (gV_ok D I) (cp_651412_Reader_isLetter l hl0 D I P653635 F654992 z654947 ) dr_cX14_next_210 ⟨wr_7_218, wr_1_32, wr_7_220, by decide, rfl, (Nat.le_of_ble_eq_true rfl), (Nat.le_of_ble_eq_true rfl)⟩ wr_7_219 (show 0 + 0 ≤ ((16 * (p653639.toInt - p653640.toInt)).toNat) by first | omega | decide) (show 0 + 0 ≤ ((160 * (p653639.toInt - p653640.toInt)).toNat) by first | omega | decide) (Nat.le_of_ble_eq_true rfl) (fun r655004 w655005 dc655001 ds655002 hp655003 => ?_) (fun _ _ _ _ _ z => z.elim)
                      obtain ⟨o655006, rfl, rfl, hdc, hds, bo655006, x655007⟩ := hp655003
                      change G _ _ _ _ _ _ _ (.int o655006 :: _) _ _ _
                      refine G_widen (cs' := 0) (sl' := 0) (by omega) (by omega) ?_
                      refine G_if_eq 223 dr_cX14_next_213 (by decide +kernel) (fun hc655008 => ?_) (fun hc655008 => ?_)
                      · have r655009 : o655006.toInt = 0 := gj_eq hc655008 (show Int32.toInt 0 = 0 by decide)
                        have bo655006' : gB o655006 0 0 := ⟨by omega, by omega⟩
                        clear bo655006 bo655006'; try clear r655004; try clear w655005; try clear dc655001; try clear ds655002; try clear hp655003; try clear x655007; try clear r655009
                        refine G_iload_n 1 dr_cX14_next_223 rfl ?_
                        refine Gw_callS (As := [.int z654947]) (gV_ok D I) (cp_649513_Reader_isDigit l hl0 D I P653635 F654992 z654947 ) dr_cX14_next_224 ⟨wr_7_215, wr_1_32, wr_7_217, by decide, rfl, (Nat.le_of_ble_eq_true rfl), (Nat.le_of_ble_eq_true rfl)⟩ wr_7_216 (show 0 + 0 ≤ ((16 * (p653639.toInt - p653640.toInt)).toNat) by first | omega | decide) (show 0 + 0 ≤ ((160 * (p653639.toInt - p653640.toInt)).toNat) by first | omega | decide) (Nat.le_of_ble_eq_true rfl) (fun r655013 w655014 dc655010 ds655011 hp655012 => ?_) (fun _ _ _ _ _ z => z.elim)
                        obtain ⟨o655015, rfl, rfl, hdc, hds, bo655015, x655016⟩ := hp655012
                        change G _ _ _ _ _ _ _ (.int o655015 :: _) _ _ _
                        refine G_widen (cs' := 0) (sl' := 0) (by omega) (by omega) ?_
                        refine G_if_ne 234 dr_cX14_next_227 (by decide +kernel) (fun hc655017 => ?_) (fun hc655017 => ?_)
                        · have r655018 : o655015.toInt ≠ 0 := gj_neq hc655017 (show Int32.toInt 0 = 0 by decide)
                          have bo655015' : gB o655015 1 1 := ⟨by omega, by omega⟩
                          have bi655019 : gB z654947 48 57 := isP_1 x655016 (by omega)
                          refine G_aload_n 2 dr_cX14_next_234 rfl ?_
                          refine G_iload_n 0 dr_cX14_next_235 rfl ?_
                          refine Gw_callV (As := [.int 0]) (gV_ok D I) (cp_649477_Reader_number l hl0 D I P653635 F654992 q653637 q653638 0 p653639 g654722 p653641 g654722 p653643 p653641 (D.2 1000 32) p653646 p653647 p653648 qo653649 qo653650 p653651 f653652 hmq653637 hmq653638 he654996 he654995 (gB_w (gBl (show Int32.toInt 0 = 0 by decide)) (by decide) (by decide)) (gB_w bp653639' (by decide) (by decide)) (gB_w bg654722' (by decide) (by decide)) bp653641 (gB_w bg654722' (by decide) (by decide)) bp653641 bp653646 bp653647 bp653648 bp653651 bf653652 (by have qa0 : Int32.toInt 0 = 0 := (by decide); omega) (by have qa0 : Int32.toInt 0 = 0 := (by decide); omega) (by first | assumption | exact cDg_no (by omega) | exact cDg_no (by decide) | exact cDg_of (by assumption) (by omega) (by omega)) x653654 x653655) dr_cX14_next_236 ⟨wr_8_214, wr_1_32, wr_8_217, by decide, rfl, (Nat.le_of_ble_eq_true rfl), (Nat.le_of_ble_eq_true rfl)⟩ wr_8_216 wr_p_77 hmq653637 he654996 rfl (show 0 + ((16 * (p653639.toInt - g654722.toInt)).toNat) ≤ ((16 * (p653639.toInt - p653640.toInt)).toNat) by first | omega | decide) (show 0 + ((160 * (p653639.toInt - g654722.toInt)).toNat) ≤ ((160 * (p653639.toInt - p653640.toInt)).toNat) by first | omega | decide) (Nat.le_of_ble_eq_true rfl) (fun r655023 w655024 dc655020 ds655021 hp655022 => ?_) (fun _ _ _ _ _ z => z.elim)
                          obtain ⟨F655032, o655025, o655026, o655027, rfl, rfl, hfr655034, he655035, he655036, hdc, hds, bo655025, bo655026, x655028, x655029, x655030, x655031⟩ := hp655022
                          have hfr655037 : rFr [q653637] P653635 F653636 F655032 := rFr_call (rSub_rf (P := P653635)) hfr654997 hfr655034 (fun b hb hn => ⟨(nm_c (fun e => hn (e ▸ List.mem_cons_self)) nm_n), (nm_c (fun e => hn (e ▸ List.mem_cons_self)) nm_n)⟩)
                          have bo655027 := gB_any o655027
                          change G _ _ _ _ _ _ _ _ _ _ _
                          refine G_widen (cs' := (16 * (o655025.toInt - g654722.toInt)).toNat) (sl' := (160 * (o655025.toInt - g654722.toInt)).toNat) (by omega) (by omega) ?_
                          refine G_goto 247 dr_cX14_next_239 (by decide +kernel) ?_
                          exact G_vretA dr_cX14_next_247 rfl (show (16 * (o655025.toInt - g654722.toInt)).toNat ≤ ((16 * (p653639.toInt - p653640.toInt)).toNat) by omega) (show (160 * (o655025.toInt - g654722.toInt)).toNat ≤ ((160 * (p653639.toInt - p653640.toInt)).toNat) by omega) ⟨P653635, F655032, o655025, o655026, g654722, o655027, (D.2 1000 32), rfl, rfl, (rSub_rf (P := P653635)), hfr655037, he655035, he655036, (by omega), (by omega), bo655025, (gB_w bo655026 (by decide) (by decide)), (gB_w bg654722' (by decide) (by decide)), (by have qa0 : Int32.toInt 0 = 0 := (by decide); omega), (Or.inr (by omega)), (by have qa0 : Int32.toInt 0 = 0 := (by decide); omega), (by first | exact tP_no (by omega) (by omega) | assumption), x655031⟩
                        · have r655038 : o655015.toInt = 0 := gj_eq hc655017 (show Int32.toInt 0 = 0 by decide)
                          have bo655015' : gB o655015 0 0 := ⟨by omega, by omega⟩
                          refine G_iload_n 0 dr_cX14_next_230 rfl ?_
                          refine G_if_eq 242 dr_cX14_next_231 (by decide +kernel) (fun _ => ?_) (fun hc => absurd hc (by decide))
                          refine G_aload_n 2 dr_cX14_next_242 rfl ?_
                          refine G_iload_n 1 dr_cX14_next_243 rfl ?_
                          refine Gw_callV (As := [.int z654947]) (gV_ok D I) (cp_650083_Reader_symbol l hl0 D I P653635 F654992 q653637 q653638 z654947 p653639 g654722 p653641 g654722 p653643 p653641 (D.2 1000 32) p653646 p653647 p653648 qo653649 qo653650 p653651 f653652 hmq653637 hmq653638 he654996 he654995 bz654947 (gB_w bp653639' (by decide) (by decide)) (gB_w bg654722' (by decide) (by decide)) bp653641 (gB_w bg654722' (by decide) (by decide)) bp653641 bp653646 bp653647 bp653648 bp653651 bf653652 (by have qa0 : Int32.toInt 0 = 0 := (by decide); omega) (by have qa0 : Int32.toInt 0 = 0 := (by decide); omega) x653654 x653655) dr_cX14_next_244 ⟨wr_8_219, wr_1_32, wr_8_222, by decide, rfl, (Nat.le_of_ble_eq_true rfl), (Nat.le_of_ble_eq_true rfl)⟩ wr_8_221 wr_p_78 hmq653637 he654996 rfl (show 0 + ((16 * (p653639.toInt - g654722.toInt)).toNat) ≤ ((16 * (p653639.toInt - p653640.toInt)).toNat) by first | omega | decide) (show 0 + ((160 * (p653639.toInt - g654722.toInt)).toNat) ≤ ((160 * (p653639.toInt - p653640.toInt)).toNat) by first | omega | decide) (Nat.le_of_ble_eq_true rfl) (fun r655042 w655043 dc655039 ds655040 hp655041 => ?_) (fun _ _ _ _ _ z => z.elim)
                          obtain ⟨P655051, F655052, o655044, o655045, q655046, rfl, rfl, hsb655053, hfr655054, he655055, he655056, hdc, hds, bo655044, bo655045, x655047, x655048, x655049, x655050⟩ := hp655041
                          have hm655057 : q653637 ∈ P655051 := hsb655053 q653637 hmq653637
                          have hm655058 : q653638 ∈ P655051 := hsb655053 q653638 hmq653638
                          have hsb655059 : rSub P653635 P655051 := rSub_tr (rSub_rf (P := P653635)) hsb655053
                          have hfr655060 : rFr [q653637] P653635 F653636 F655052 := rFr_call (rSub_rf (P := P653635)) hfr654997 hfr655054 (fun b hb hn => ⟨(nm_c (fun e => hn (e ▸ List.mem_cons_self)) nm_n), (nm_c (fun e => hn (e ▸ List.mem_cons_self)) nm_n)⟩)
                          change G _ _ _ _ _ _ _ _ _ _ _
                          refine G_widen (cs' := (16 * (o655044.toInt - g654722.toInt)).toNat) (sl' := (160 * (o655044.toInt - g654722.toInt)).toNat) (by omega) (by omega) ?_
                          exact G_vretA dr_cX14_next_247 rfl (show (16 * (o655044.toInt - g654722.toInt)).toNat ≤ ((16 * (p653639.toInt - p653640.toInt)).toNat) by omega) (show (160 * (o655044.toInt - g654722.toInt)).toNat ≤ ((160 * (p653639.toInt - p653640.toInt)).toNat) by omega) ⟨P655051, F655052, o655044, o655045, g654722, p653643, q655046, rfl, rfl, hsb655059, hfr655060, he655055, he655056, (by omega), (by omega), (gB_w bo655044 (by decide) (by decide)), (gB_w bo655045 (by decide) (by decide)), (gB_w bg654722' (by decide) (by decide)), (by have qa0 : Int32.toInt 0 = 0 := (by decide); omega), (Or.inr (by omega)), (by have qa0 : Int32.toInt 0 = 0 := (by decide); omega), x655049, x655050⟩
                      · have r655061 : o655006.toInt ≠ 0 := gj_neq hc655008 (show Int32.toInt 0 = 0 by decide)
                        have bo655006' : gB o655006 1 1 := ⟨by omega, by omega⟩
                        have bi655062 : gB z654947 97 122 := isP_1 x655007 (by omega)
                        refine G_aload_n 2 dr_cX14_next_216 rfl ?_
                        refine Gw_callV (As := []) (gV_ok D I) (cp_651075_Reader_word l hl0 D I P653635 F654992 q653637 q653638 p653639 g654722 p653641 g654722 p653643 p653641 (D.2 1000 32) p653646 p653647 p653648 qo653649 qo653650 p653651 f653652 hmq653637 hmq653638 he654996 he654995 (gB_w bp653639' (by decide) (by decide)) (gB_w bg654722' (by decide) (by decide)) bp653641 (gB_w bg654722' (by decide) (by decide)) bp653641 bp653646 bp653647 bp653648 bp653651 bf653652 (by have qa0 : Int32.toInt 0 = 0 := (by decide); omega) (by have qa0 : Int32.toInt 0 = 0 := (by decide); omega) (by first | assumption | exact cLt_of (by assumption) (by omega) (by omega)) x653654 x653655) dr_cX14_next_217 ⟨wr_7_221, wr_1_32, wr_7_224, by decide, rfl, (Nat.le_of_ble_eq_true rfl), (Nat.le_of_ble_eq_true rfl)⟩ wr_7_223 wr_p_76 hmq653637 he654996 rfl (show 0 + ((16 * (p653639.toInt - g654722.toInt)).toNat) ≤ ((16 * (p653639.toInt - p653640.toInt)).toNat) by first | omega | decide) (show 0 + ((160 * (p653639.toInt - g654722.toInt)).toNat) ≤ ((160 * (p653639.toInt - p653640.toInt)).toNat) by first | omega | decide) (Nat.le_of_ble_eq_true rfl) (fun r655066 w655067 dc655063 ds655064 hp655065 => ?_) (fun _ _ _ _ _ z => z.elim)
                        obtain ⟨P655076, F655077, o655068, o655069, o655070, q655071, rfl, rfl, hsb655078, hfr655079, he655080, he655081, hdc, hds, bo655068, bo655069, x655072, x655073, x655074, x655075⟩ := hp655065
                        have hm655082 : q653637 ∈ P655076 := hsb655078 q653637 hmq653637
                        have hm655083 : q653638 ∈ P655076 := hsb655078 q653638 hmq653638
                        have hsb655084 : rSub P653635 P655076 := rSub_tr (rSub_rf (P := P653635)) hsb655078
                        have hfr655085 : rFr [q653637] P653635 F653636 F655077 := rFr_call (rSub_rf (P := P653635)) hfr654997 hfr655079 (fun b hb hn => ⟨(nm_c (fun e => hn (e ▸ List.mem_cons_self)) nm_n), (nm_c (fun e => hn (e ▸ List.mem_cons_self)) nm_n)⟩)
                        have bo655070 := gB_any o655070
                        change G _ _ _ _ _ _ _ _ _ _ _
                        refine G_widen (cs' := (16 * (o655068.toInt - g654722.toInt)).toNat) (sl' := (160 * (o655068.toInt - g654722.toInt)).toNat) (by omega) (by omega) ?_
                        refine G_goto 247 dr_cX14_next_220 (by decide +kernel) ?_
                        exact G_vretA dr_cX14_next_247 rfl (show (16 * (o655068.toInt - g654722.toInt)).toNat ≤ ((16 * (p653639.toInt - p653640.toInt)).toNat) by omega) (show (160 * (o655068.toInt - g654722.toInt)).toNat ≤ ((160 * (p653639.toInt - p653640.toInt)).toNat) by omega) ⟨P655076, F655077, o655068, o655069, g654722, o655070, q655071, rfl, rfl, hsb655084, hfr655085, he655080, he655081, (by omega), (by omega), bo655068, (gB_w bo655069 (by decide) (by decide)), (gB_w bg654722' (by decide) (by decide)), (by have qa0 : Int32.toInt 0 = 0 := (by decide); omega), (Or.inr (by omega)), (by have qa0 : Int32.toInt 0 = 0 := (by decide); omega), x655074, x655075⟩
                    refine G_iload_n 0 dr_cX14_next_151 rfl ?_
                    refine G_bipush 45 dr_cX14_next_152 (by decide +kernel) ?_
                    refine G_icmp_ne 207 dr_cX14_next_154 (by decide +kernel) (fun hc655086 => ?_) (fun hc655086 => ?_)
                    · have r655087 : z654947.toInt ≠ 45 := gj_neq hc655086 (show Int32.toInt 45 = 45 by decide)
                      refine G_iconst 0 dr_cX14_next_207 (by decide +kernel) ?_
                      refine G_istore_n (L' := [(2, .int 0), (1, .int z654947), (0, .ref q653637)]) dr_cX14_next_208 (Nat.le_of_ble_eq_true rfl) rfl ?_
                      refine G_lv (L' := [(2, .int 0), (1, .int z654947), (0, .ref q653637)]) [0, 1, 2] rfl ?_
                      exact jn655000
                    · have r655088 : z654947.toInt = 45 := gj_eq hc655086 (show Int32.toInt 45 = 45 by decide)
                      have bz654947' : gB z654947 45 45 := ⟨by omega, by omega⟩
                      refine G_aload_n 1 dr_cX14_next_157 rfl ?_
                      refine Gp_get 2 hmq653637 he654996 dr_cX14_next_158 (gk_X14 D I) (Nat.le_of_ble_eq_true rfl) wr_9_34 rfl ?_
                      refine G_iconst 1 dr_cX14_next_161 (by decide +kernel) ?_
                      refine G_iadd dr_cX14_next_162 (G_nam fun z655089 hz655089 => ?_)
                      have ez655089 : z655089.toInt = g654722.toInt + 1 := by rw [gI_add hz655089 bg654722' (gBl (show Int32.toInt 1 = 1 by decide)) (by decide) (by decide), show Int32.toInt 1 = 1 from by decide]
                      have bz655089 : gB z655089 1 8192 := gB_add (gI_add hz655089 bg654722' (gBl (show Int32.toInt 1 = 1 by decide)) (by decide) (by decide)) bg654722' (gBl (show Int32.toInt 1 = 1 by decide)) (by decide) (by decide)
                      refine G_aload_n 1 dr_cX14_next_163 rfl ?_
                      refine Gp_get 1 hmq653637 he654996 dr_cX14_next_164 (gk_X14 D I) (Nat.le_of_ble_eq_true rfl) wr_9_33 rfl ?_
                      refine G_icmp_ge 207 dr_cX14_next_167 (by decide +kernel) (fun hc655090 => ?_) (fun hc655090 => ?_)
                      · have r655091 : p653639.toInt ≤ z655089.toInt := gC_le hc655090
                        refine G_iconst 0 dr_cX14_next_207 (by decide +kernel) ?_
                        refine G_istore_n (L' := [(2, .int 0), (1, .int z654947), (0, .ref q653637)]) dr_cX14_next_208 (Nat.le_of_ble_eq_true rfl) rfl ?_
                        refine G_lv (L' := [(2, .int 0), (1, .int z654947), (0, .ref q653637)]) [0, 1, 2] rfl ?_
                        exact jn655000
                      · have r655092 : z655089.toInt < p653639.toInt := gC_nle hc655090
                        have bz655089' : gB z655089 1 8191 := ⟨by omega, by omega⟩
                        have bp653639'' : gB p653639 2 8192 := ⟨by omega, by omega⟩
                        refine G_aload_n 1 dr_cX14_next_170 rfl ?_
                        refine Gp_get 0 hmq653637 he654996 dr_cX14_next_171 (gk_X14 D I) (Nat.le_of_ble_eq_true rfl) wr_9_32 rfl ?_
                        refine G_aload_n 1 dr_cX14_next_174 rfl ?_
                        refine Gp_get 2 hmq653637 he654996 dr_cX14_next_175 (gk_X14 D I) (Nat.le_of_ble_eq_true rfl) wr_9_34 rfl ?_
                        refine G_iconst 1 dr_cX14_next_178 (by decide +kernel) ?_
                        refine G_iadd dr_cX14_next_179 (G_eqi (y := z655089) hz655089.symm ?_)
                        refine Gp_bald 1 hmq653638 he654995 dr_cX14_next_180 rfl (gB_in bz655089' (by decide) (by decide)) (G_nam fun z655093 hz655093 => ?_)
                        have bz655093 : gB z655093 (-128) 127 := by rw [hz655093]; exact bf653652 _
                        refine Gw_callS (As := [.int z655093]) (gV_ok D I) (cp_649513_Reader_isDigit l hl0 D I P653635 F654992 z655093 ) dr_cX14_next_181 ⟨wr_7_215, wr_1_32, wr_7_217, by decide, rfl, (Nat.le_of_ble_eq_true rfl), (Nat.le_of_ble_eq_true rfl)⟩ wr_7_216 (show 0 + 0 ≤ ((16 * (p653639.toInt - p653640.toInt)).toNat) by first | omega | decide) (show 0 + 0 ≤ ((160 * (p653639.toInt - p653640.toInt)).toNat) by first | omega | decide) (Nat.le_of_ble_eq_true rfl) (fun r655097 w655098 dc655094 ds655095 hp655096 => ?_) (fun _ _ _ _ _ z => z.elim)
                        obtain ⟨o655099, rfl, rfl, hdc, hds, bo655099, x655100⟩ := hp655096
                        change G _ _ _ _ _ _ _ (.int o655099 :: _) _ _ _
                        refine G_widen (cs' := 0) (sl' := 0) (by omega) (by omega) ?_
                        refine G_if_eq 207 dr_cX14_next_184 (by decide +kernel) (fun hc655101 => ?_) (fun hc655101 => ?_)
                        · have r655102 : o655099.toInt = 0 := gj_eq hc655101 (show Int32.toInt 0 = 0 by decide)
                          have bo655099' : gB o655099 0 0 := ⟨by omega, by omega⟩
                          refine G_iconst 0 dr_cX14_next_207 (by decide +kernel) ?_
                          refine G_istore_n (L' := [(2, .int 0), (1, .int z654947), (0, .ref q653637)]) dr_cX14_next_208 (Nat.le_of_ble_eq_true rfl) rfl ?_
                          refine G_lv (L' := [(2, .int 0), (1, .int z654947), (0, .ref q653637)]) [0, 1, 2] rfl ?_
                          exact jn655000
                        · have r655103 : o655099.toInt ≠ 0 := gj_neq hc655101 (show Int32.toInt 0 = 0 by decide)
                          have bo655099' : gB o655099 1 1 := ⟨by omega, by omega⟩
                          have bi655104 : gB z655093 48 57 := isP_1 x655100 (by omega)
                          refine G_aload_n 1 dr_cX14_next_187 rfl ?_
                          refine Gp_get 6 hmq653637 he654996 dr_cX14_next_188 (gk_X14 D I) (Nat.le_of_ble_eq_true rfl) wr_9_38 rfl ?_
                          refine G_iconst 2 dr_cX14_next_191 (by decide +kernel) ?_
                          refine G_icmp_eq 207 dr_cX14_next_192 (by decide +kernel) (fun hc655105 => ?_) (fun hc655105 => ?_)
                          · have r655106 : p653641.toInt = 2 := gj_eq hc655105 (show Int32.toInt 2 = 2 by decide)
                            have bp653641' : gB p653641 2 2 := ⟨by omega, by omega⟩
                            refine G_iconst 0 dr_cX14_next_207 (by decide +kernel) ?_
                            refine G_istore_n (L' := [(2, .int 0), (1, .int z654947), (0, .ref q653637)]) dr_cX14_next_208 (Nat.le_of_ble_eq_true rfl) rfl ?_
                            refine G_lv (L' := [(2, .int 0), (1, .int z654947), (0, .ref q653637)]) [0, 1, 2] rfl ?_
                            exact jn655000
                          · have r655107 : p653641.toInt ≠ 2 := gj_neq hc655105 (show Int32.toInt 2 = 2 by decide)
                            refine G_aload_n 1 dr_cX14_next_195 rfl ?_
                            refine Gp_get 6 hmq653637 he654996 dr_cX14_next_196 (gk_X14 D I) (Nat.le_of_ble_eq_true rfl) wr_9_38 rfl ?_
                            refine G_iconst 4 dr_cX14_next_199 (by decide +kernel) ?_
                            refine G_icmp_eq 207 dr_cX14_next_200 (by decide +kernel) (fun hc655108 => ?_) (fun hc655108 => ?_)
                            · have r655109 : p653641.toInt = 4 := gj_eq hc655108 (show Int32.toInt 4 = 4 by decide)
                              have bp653641' : gB p653641 4 4 := ⟨by omega, by omega⟩
                              refine G_iconst 0 dr_cX14_next_207 (by decide +kernel) ?_
                              refine G_istore_n (L' := [(2, .int 0), (1, .int z654947), (0, .ref q653637)]) dr_cX14_next_208 (Nat.le_of_ble_eq_true rfl) rfl ?_
                              refine G_lv (L' := [(2, .int 0), (1, .int z654947), (0, .ref q653637)]) [0, 1, 2] rfl ?_
                              exact jn655000
                            · have r655110 : p653641.toInt ≠ 4 := gj_neq hc655108 (show Int32.toInt 4 = 4 by decide)
                              refine G_iconst 1 dr_cX14_next_203 (by decide +kernel) ?_
                              refine G_goto 208 dr_cX14_next_204 (by decide +kernel) ?_
                              refine G_istore_n (L' := [(2, .int 1), (1, .int z654947), (0, .ref q653637)]) dr_cX14_next_208 (Nat.le_of_ble_eq_true rfl) rfl ?_
                              clear bp653639' bz654947 jn655000 bz655089 bz655093 bo655099 bo655099'; try clear r655097; try clear w655098; try clear dc655094; try clear ds655095; try clear hp655096; try clear x655100; try clear r655103
                              refine G_iload_n 1 dr_cX14_next_209 rfl ?_
                              refine Gw_callS (As := [.int z654947]) (gV_ok D I) (cp_651412_Reader_isLetter l hl0 D I P653635 F654992 z654947 ) dr_cX14_next_210 ⟨wr_7_218, wr_1_32, wr_7_220, by decide, rfl, (Nat.le_of_ble_eq_true rfl), (Nat.le_of_ble_eq_true rfl)⟩ wr_7_219 (show 0 + 0 ≤ ((16 * (p653639.toInt - p653640.toInt)).toNat) by first | omega | decide) (show 0 + 0 ≤ ((160 * (p653639.toInt - p653640.toInt)).toNat) by first | omega | decide) (Nat.le_of_ble_eq_true rfl) (fun r655114 w655115 dc655111 ds655112 hp655113 => ?_) (fun _ _ _ _ _ z => z.elim)
                              obtain ⟨o655116, rfl, rfl, hdc, hds, bo655116, x655117⟩ := hp655113
                              change G _ _ _ _ _ _ _ (.int o655116 :: _) _ _ _
                              refine G_widen (cs' := 0) (sl' := 0) (by omega) (by omega) ?_
                              refine G_if_eq 223 dr_cX14_next_213 (by decide +kernel) (fun hc655118 => ?_) (fun hc655118 => ?_)
                              · have r655119 : o655116.toInt = 0 := gj_eq hc655118 (show Int32.toInt 0 = 0 by decide)
                                have bo655116' : gB o655116 0 0 := ⟨by omega, by omega⟩
                                clear bo655116 bo655116'; try clear r655114; try clear w655115; try clear dc655111; try clear ds655112; try clear hp655113; try clear x655117; try clear r655119
                                refine G_iload_n 1 dr_cX14_next_223 rfl ?_
                                refine Gw_callS (As := [.int z654947]) (gV_ok D I) (cp_649513_Reader_isDigit l hl0 D I P653635 F654992 z654947 ) dr_cX14_next_224 ⟨wr_7_215, wr_1_32, wr_7_217, by decide, rfl, (Nat.le_of_ble_eq_true rfl), (Nat.le_of_ble_eq_true rfl)⟩ wr_7_216 (show 0 + 0 ≤ ((16 * (p653639.toInt - p653640.toInt)).toNat) by first | omega | decide) (show 0 + 0 ≤ ((160 * (p653639.toInt - p653640.toInt)).toNat) by first | omega | decide) (Nat.le_of_ble_eq_true rfl) (fun r655123 w655124 dc655120 ds655121 hp655122 => ?_) (fun _ _ _ _ _ z => z.elim)
                                obtain ⟨o655125, rfl, rfl, hdc, hds, bo655125, x655126⟩ := hp655122
                                change G _ _ _ _ _ _ _ (.int o655125 :: _) _ _ _
                                refine G_widen (cs' := 0) (sl' := 0) (by omega) (by omega) ?_
                                refine G_if_ne 234 dr_cX14_next_227 (by decide +kernel) (fun hc655127 => ?_) (fun hc655127 => ?_)
                                · have r655128 : o655125.toInt ≠ 0 := gj_neq hc655127 (show Int32.toInt 0 = 0 by decide)
                                  have bo655125' : gB o655125 1 1 := ⟨by omega, by omega⟩
                                  have bi655129 : gB z654947 48 57 := isP_1 x655126 (by omega)
                                  refine G_aload_n 2 dr_cX14_next_234 rfl ?_
                                  refine G_iload_n 0 dr_cX14_next_235 rfl ?_
                                  refine Gw_callV (As := [.int 1]) (gV_ok D I) (cp_649477_Reader_number l hl0 D I P653635 F654992 q653637 q653638 1 p653639 g654722 p653641 g654722 p653643 p653641 (D.2 1000 32) p653646 p653647 p653648 qo653649 qo653650 p653651 f653652 hmq653637 hmq653638 he654996 he654995 (gB_w (gBl (show Int32.toInt 1 = 1 by decide)) (by decide) (by decide)) (gB_w bp653639'' (by decide) (by decide)) (gB_w bg654722' (by decide) (by decide)) bp653641 (gB_w bg654722' (by decide) (by decide)) bp653641 bp653646 bp653647 bp653648 bp653651 bf653652 (by have qa0 : Int32.toInt 1 = 1 := (by decide); omega) (by have qa0 : Int32.toInt 1 = 1 := (by decide); omega) (by first | assumption | exact cDg_no (by omega) | exact cDg_no (by decide) | exact cDg_of (by assumption) (by omega) (by omega)) x653654 x653655) dr_cX14_next_236 ⟨wr_8_214, wr_1_32, wr_8_217, by decide, rfl, (Nat.le_of_ble_eq_true rfl), (Nat.le_of_ble_eq_true rfl)⟩ wr_8_216 wr_p_77 hmq653637 he654996 rfl (show 0 + ((16 * (p653639.toInt - g654722.toInt)).toNat) ≤ ((16 * (p653639.toInt - p653640.toInt)).toNat) by first | omega | decide) (show 0 + ((160 * (p653639.toInt - g654722.toInt)).toNat) ≤ ((160 * (p653639.toInt - p653640.toInt)).toNat) by first | omega | decide) (Nat.le_of_ble_eq_true rfl) (fun r655133 w655134 dc655130 ds655131 hp655132 => ?_) (fun _ _ _ _ _ z => z.elim)
                                  obtain ⟨F655142, o655135, o655136, o655137, rfl, rfl, hfr655144, he655145, he655146, hdc, hds, bo655135, bo655136, x655138, x655139, x655140, x655141⟩ := hp655132
                                  have hfr655147 : rFr [q653637] P653635 F653636 F655142 := rFr_call (rSub_rf (P := P653635)) hfr654997 hfr655144 (fun b hb hn => ⟨(nm_c (fun e => hn (e ▸ List.mem_cons_self)) nm_n), (nm_c (fun e => hn (e ▸ List.mem_cons_self)) nm_n)⟩)
                                  have bo655137 := gB_any o655137
                                  change G _ _ _ _ _ _ _ _ _ _ _
                                  refine G_widen (cs' := (16 * (o655135.toInt - g654722.toInt)).toNat) (sl' := (160 * (o655135.toInt - g654722.toInt)).toNat) (by omega) (by omega) ?_
                                  refine G_goto 247 dr_cX14_next_239 (by decide +kernel) ?_
                                  exact G_vretA dr_cX14_next_247 rfl (show (16 * (o655135.toInt - g654722.toInt)).toNat ≤ ((16 * (p653639.toInt - p653640.toInt)).toNat) by omega) (show (160 * (o655135.toInt - g654722.toInt)).toNat ≤ ((160 * (p653639.toInt - p653640.toInt)).toNat) by omega) ⟨P653635, F655142, o655135, o655136, g654722, o655137, (D.2 1000 32), rfl, rfl, (rSub_rf (P := P653635)), hfr655147, he655145, he655146, (by omega), (by omega), bo655135, (gB_w bo655136 (by decide) (by decide)), (gB_w bg654722' (by decide) (by decide)), (by have qa0 : Int32.toInt 1 = 1 := (by decide); omega), (Or.inr (by omega)), (by have qa0 : Int32.toInt 1 = 1 := (by decide); omega), (by first | exact tP_no (by omega) (by omega) | assumption), x655141⟩
                                · have r655148 : o655125.toInt = 0 := gj_eq hc655127 (show Int32.toInt 0 = 0 by decide)
                                  have bo655125' : gB o655125 0 0 := ⟨by omega, by omega⟩
                                  refine G_iload_n 0 dr_cX14_next_230 rfl ?_
                                  refine G_if_eq 242 dr_cX14_next_231 (by decide +kernel) (fun hc => absurd hc (by decide)) (fun _ => ?_)
                                  refine G_aload_n 2 dr_cX14_next_234 rfl ?_
                                  refine G_iload_n 0 dr_cX14_next_235 rfl ?_
                                  refine Gw_callV (As := [.int 1]) (gV_ok D I) (cp_649477_Reader_number l hl0 D I P653635 F654992 q653637 q653638 1 p653639 g654722 p653641 g654722 p653643 p653641 (D.2 1000 32) p653646 p653647 p653648 qo653649 qo653650 p653651 f653652 hmq653637 hmq653638 he654996 he654995 (gB_w (gBl (show Int32.toInt 1 = 1 by decide)) (by decide) (by decide)) (gB_w bp653639'' (by decide) (by decide)) (gB_w bg654722' (by decide) (by decide)) bp653641 (gB_w bg654722' (by decide) (by decide)) bp653641 bp653646 bp653647 bp653648 bp653651 bf653652 (by have qa0 : Int32.toInt 1 = 1 := (by decide); omega) (by have qa0 : Int32.toInt 1 = 1 := (by decide); omega) (by first | assumption | exact cDg_no (by omega) | exact cDg_no (by decide) | exact cDg_of (by assumption) (by omega) (by omega)) x653654 x653655) dr_cX14_next_236 ⟨wr_8_214, wr_1_32, wr_8_217, by decide, rfl, (Nat.le_of_ble_eq_true rfl), (Nat.le_of_ble_eq_true rfl)⟩ wr_8_216 wr_p_77 hmq653637 he654996 rfl (show 0 + ((16 * (p653639.toInt - g654722.toInt)).toNat) ≤ ((16 * (p653639.toInt - p653640.toInt)).toNat) by first | omega | decide) (show 0 + ((160 * (p653639.toInt - g654722.toInt)).toNat) ≤ ((160 * (p653639.toInt - p653640.toInt)).toNat) by first | omega | decide) (Nat.le_of_ble_eq_true rfl) (fun r655152 w655153 dc655149 ds655150 hp655151 => ?_) (fun _ _ _ _ _ z => z.elim)
                                  obtain ⟨F655161, o655154, o655155, o655156, rfl, rfl, hfr655163, he655164, he655165, hdc, hds, bo655154, bo655155, x655157, x655158, x655159, x655160⟩ := hp655151
                                  have hfr655166 : rFr [q653637] P653635 F653636 F655161 := rFr_call (rSub_rf (P := P653635)) hfr654997 hfr655163 (fun b hb hn => ⟨(nm_c (fun e => hn (e ▸ List.mem_cons_self)) nm_n), (nm_c (fun e => hn (e ▸ List.mem_cons_self)) nm_n)⟩)
                                  have bo655156 := gB_any o655156
                                  change G _ _ _ _ _ _ _ _ _ _ _
                                  refine G_widen (cs' := (16 * (o655154.toInt - g654722.toInt)).toNat) (sl' := (160 * (o655154.toInt - g654722.toInt)).toNat) (by omega) (by omega) ?_
                                  refine G_goto 247 dr_cX14_next_239 (by decide +kernel) ?_
                                  exact G_vretA dr_cX14_next_247 rfl (show (16 * (o655154.toInt - g654722.toInt)).toNat ≤ ((16 * (p653639.toInt - p653640.toInt)).toNat) by omega) (show (160 * (o655154.toInt - g654722.toInt)).toNat ≤ ((160 * (p653639.toInt - p653640.toInt)).toNat) by omega) ⟨P653635, F655161, o655154, o655155, g654722, o655156, (D.2 1000 32), rfl, rfl, (rSub_rf (P := P653635)), hfr655166, he655164, he655165, (by omega), (by omega), bo655154, (gB_w bo655155 (by decide) (by decide)), (gB_w bg654722' (by decide) (by decide)), (by have qa0 : Int32.toInt 1 = 1 := (by decide); omega), (Or.inr (by omega)), (by have qa0 : Int32.toInt 1 = 1 := (by decide); omega), (by first | exact tP_no (by omega) (by omega) | assumption), x655160⟩
                              · have r655167 : o655116.toInt ≠ 0 := gj_neq hc655118 (show Int32.toInt 0 = 0 by decide)
                                have bo655116' : gB o655116 1 1 := ⟨by omega, by omega⟩
                                have bi655168 : gB z654947 97 122 := isP_1 x655117 (by omega)
                                refine G_aload_n 2 dr_cX14_next_216 rfl ?_
                                refine Gw_callV (As := []) (gV_ok D I) (cp_651075_Reader_word l hl0 D I P653635 F654992 q653637 q653638 p653639 g654722 p653641 g654722 p653643 p653641 (D.2 1000 32) p653646 p653647 p653648 qo653649 qo653650 p653651 f653652 hmq653637 hmq653638 he654996 he654995 (gB_w bp653639'' (by decide) (by decide)) (gB_w bg654722' (by decide) (by decide)) bp653641 (gB_w bg654722' (by decide) (by decide)) bp653641 bp653646 bp653647 bp653648 bp653651 bf653652 (by have qa0 : Int32.toInt 1 = 1 := (by decide); omega) (by have qa0 : Int32.toInt 1 = 1 := (by decide); omega) (by first | assumption | exact cLt_of (by assumption) (by omega) (by omega)) x653654 x653655) dr_cX14_next_217 ⟨wr_7_221, wr_1_32, wr_7_224, by decide, rfl, (Nat.le_of_ble_eq_true rfl), (Nat.le_of_ble_eq_true rfl)⟩ wr_7_223 wr_p_76 hmq653637 he654996 rfl (show 0 + ((16 * (p653639.toInt - g654722.toInt)).toNat) ≤ ((16 * (p653639.toInt - p653640.toInt)).toNat) by first | omega | decide) (show 0 + ((160 * (p653639.toInt - g654722.toInt)).toNat) ≤ ((160 * (p653639.toInt - p653640.toInt)).toNat) by first | omega | decide) (Nat.le_of_ble_eq_true rfl) (fun r655172 w655173 dc655169 ds655170 hp655171 => ?_) (fun _ _ _ _ _ z => z.elim)
                                obtain ⟨P655182, F655183, o655174, o655175, o655176, q655177, rfl, rfl, hsb655184, hfr655185, he655186, he655187, hdc, hds, bo655174, bo655175, x655178, x655179, x655180, x655181⟩ := hp655171
                                have hm655188 : q653637 ∈ P655182 := hsb655184 q653637 hmq653637
                                have hm655189 : q653638 ∈ P655182 := hsb655184 q653638 hmq653638
                                have hsb655190 : rSub P653635 P655182 := rSub_tr (rSub_rf (P := P653635)) hsb655184
                                have hfr655191 : rFr [q653637] P653635 F653636 F655183 := rFr_call (rSub_rf (P := P653635)) hfr654997 hfr655185 (fun b hb hn => ⟨(nm_c (fun e => hn (e ▸ List.mem_cons_self)) nm_n), (nm_c (fun e => hn (e ▸ List.mem_cons_self)) nm_n)⟩)
                                have bo655176 := gB_any o655176
                                change G _ _ _ _ _ _ _ _ _ _ _
                                refine G_widen (cs' := (16 * (o655174.toInt - g654722.toInt)).toNat) (sl' := (160 * (o655174.toInt - g654722.toInt)).toNat) (by omega) (by omega) ?_
                                refine G_goto 247 dr_cX14_next_220 (by decide +kernel) ?_
                                exact G_vretA dr_cX14_next_247 rfl (show (16 * (o655174.toInt - g654722.toInt)).toNat ≤ ((16 * (p653639.toInt - p653640.toInt)).toNat) by omega) (show (160 * (o655174.toInt - g654722.toInt)).toNat ≤ ((160 * (p653639.toInt - p653640.toInt)).toNat) by omega) ⟨P655182, F655183, o655174, o655175, g654722, o655176, q655177, rfl, rfl, hsb655190, hfr655191, he655186, he655187, (by omega), (by omega), bo655174, (gB_w bo655175 (by decide) (by decide)), (gB_w bg654722' (by decide) (by decide)), (by have qa0 : Int32.toInt 1 = 1 := (by decide); omega), (Or.inr (by omega)), (by have qa0 : Int32.toInt 1 = 1 := (by decide); omega), x655180, x655181⟩
                  · have r655192 : g654722.toInt = p653639.toInt := gC_eq hc654998
                    have bg654722'' : gB g654722 1 8191 := ⟨by omega, by omega⟩
                    have bp653639'' : gB p653639 1 8191 := ⟨by omega, by omega⟩
                    refine G_aload_n 1 dr_cX14_next_135 rfl ?_
                    refine G_iconst 0 dr_cX14_next_136 (by decide +kernel) ?_
                    refine Gp_put 3 hmq653637 he654996 dr_cX14_next_137 (gk_X14 D I) (Nat.le_of_ble_eq_true rfl) wr_9_35 rfl rfl rfl (Nat.le_of_ble_eq_true rfl) (fun F655193 e655194 n655195 => ?_)
                    have he655196 : F655193 q653638 = .inl (I .byte, 8192, .inl f653652) := (n655195 q653638 (rn_ao he654995 he654996)).trans he654995
                    have he655197 : F655193 q653637 = .inr (19, [.ref q653638, .int p653639, .int g654722, .int 0, .int g654722, .int p653643, .int p653641, .ref (D.2 1000 32), .int p653646, .int p653647, .int p653648, .ref qo653649, .ref qo653650, .int p653651]) := e655194
                    have hfr655198 : rFr [q653637] P653635 F653636 F655193 := rFr_put' List.mem_cons_self hfr654997 n655195
                    exact G_vretA dr_cX14_next_140 rfl (show 0 ≤ ((16 * (p653639.toInt - p653640.toInt)).toNat) by omega) (show 0 ≤ ((160 * (p653639.toInt - p653640.toInt)).toNat) by omega) ⟨P653635, F655193, g654722, 0, g654722, p653643, (D.2 1000 32), rfl, rfl, (rSub_rf (P := P653635)), hfr655198, he655197, he655196, (by omega), (by omega), (gB_w bg654722'' (by decide) (by decide)), (gB_w (gBl (show Int32.toInt 0 = 0 by decide)) (by decide) (by decide)), (gB_w bg654722'' (by decide) (by decide)), (by have qa0 : Int32.toInt 0 = 0 := (by decide); omega), (Or.inl (by decide)), (by have qa0 : Int32.toInt 0 = 0 := (by decide); omega), (tP_no (by decide) (by decide)), (vP_no (by decide) (by decide))⟩
                · have r655199 : z654947.toInt = 32 := gj_eq hc654983 (show Int32.toInt 32 = 32 by decide)
                  have bz654947' : gB z654947 32 32 := ⟨by omega, by omega⟩
                  refine G_aload_n 1 dr_cX14_next_97 rfl ?_
                  refine G_dup dr_cX14_next_98 rfl ?_
                  refine Gp_get 2 hmq653637 he654724 dr_cX14_next_99 (gk_X14 D I) (Nat.le_of_ble_eq_true rfl) wr_9_34 rfl ?_
                  refine G_iconst 1 dr_cX14_next_102 (by decide +kernel) ?_
                  refine G_iadd dr_cX14_next_103 (G_nam fun z655200 hz655200 => ?_)
                  have ez655200 : z655200.toInt = g654722.toInt + 1 := by rw [gI_add hz655200 bg654722' (gBl (show Int32.toInt 1 = 1 by decide)) (by decide) (by decide), show Int32.toInt 1 = 1 from by decide]
                  have bz655200 : gB z655200 1 8192 := gB_add (gI_add hz655200 bg654722' (gBl (show Int32.toInt 1 = 1 by decide)) (by decide) (by decide)) bg654722' (gBl (show Int32.toInt 1 = 1 by decide)) (by decide) (by decide)
                  refine Gp_put 2 hmq653637 he654724 dr_cX14_next_104 (gk_X14 D I) (Nat.le_of_ble_eq_true rfl) wr_9_34 rfl rfl rfl (Nat.le_of_ble_eq_true rfl) (fun F655201 e655202 n655203 => ?_)
                  have he655204 : F655201 q653638 = .inl (I .byte, 8192, .inl f653652) := (n655203 q653638 (rn_ao he654725 he654724)).trans he654725
                  have he655205 : F655201 q653637 = .inr (19, [.ref q653638, .int p653639, .int z655200, .int p653641, .int p653642, .int p653643, .int p653641, .ref qo653645, .int p653646, .int p653647, .int p653648, .ref qo653649, .ref qo653650, .int p653651]) := e655202
                  have hfr655206 : rFr [q653637] P653635 F653636 F655201 := rFr_put' List.mem_cons_self hfr654726 n655203
                  have x655207 : g654722.toInt < z655200.toInt := by first | omega | exact chNe (a := g654722) (b := z655200) (by assumption) (by assumption) (by omega) (by omega)
                  refine G_goto 8 dr_cX14_next_107 (by decide +kernel) ?_
                  refine G_lv (L' := [(0, .ref q653637)]) [1] rfl ?_
                  exact ih8_654728 F655201 z655200 (gB_w bz655200 (by decide) (by decide)) hfr655206 he655205 he655204 (by omega) (by omega) (by omega)
        · have r655208 : z654947.toInt = 59 := gj_eq hc654948 (show Int32.toInt 59 = 59 by decide)
          have bz654947' : gB z654947 59 59 := ⟨by omega, by omega⟩
          have hlp35_655245 : ∀ (n35_655245 : Nat) (F655239 : Nat → va_E) (g655238 : Int32), gB g655238 0 8192 → rFr [q653637] P653635 F653636 F655239 → F655239 q653637 = .inr (19, [.ref q653638, .int p653639, .int g655238, .int p653641, .int p653642, .int p653643, .int p653641, .ref qo653645, .int p653646, .int p653647, .int p653648, .ref qo653649, .ref qo653650, .int p653651]) → F655239 q653638 = .inl (I .byte, 8192, .inl f653652) → p653640.toInt ≤ g655238.toInt → g655238.toInt ≤ p653639.toInt → g654722.toInt ≤ g655238.toInt → ((p653639.toInt : Int) + 1 - g655238.toInt).toNat < n35_655245 → G (gV D I) l (gRm 7 155 ((16 * (p653639.toInt - p653640.toInt)).toNat) ((160 * (p653639.toInt - p653640.toInt)).toNat)) (gMA (gV D I) (pp_653656_Reader_next D I P653635 F653636 q653637 q653638 p653639 p653640 p653641 p653642 p653643 p653644 qo653645 p653646 p653647 p653648 qo653649 qo653650 p653651 f653652) gNA ((16 * (p653639.toInt - p653640.toInt)).toNat) ((160 * (p653639.toInt - p653640.toInt)).toNat)) ky_653656_Reader_next 35 [(1, .int z654947), (0, .ref q653637)] [] (va_pl P653635 F655239) 0 0 := by
            intro n35_655245
            induction n35_655245 with
            | zero => intro F655239 g655238 bg655238 hfr655242 he655240 he655241 x655243 x655244 x655245 hm35_655245; exact absurd hm35_655245 (Nat.not_lt_zero _)
            | succ n35_655245 ih35_655245 =>
              intro F655239 g655238 bg655238 hfr655242 he655240 he655241 x655243 x655244 x655245 hm35_655245
              refine G_aload_n 1 dr_cX14_next_35 rfl ?_
              refine Gp_get 2 hmq653637 he655240 dr_cX14_next_36 (gk_X14 D I) (Nat.le_of_ble_eq_true rfl) wr_9_34 rfl ?_
              refine G_aload_n 1 dr_cX14_next_39 rfl ?_
              refine Gp_get 1 hmq653637 he655240 dr_cX14_next_40 (gk_X14 D I) (Nat.le_of_ble_eq_true rfl) wr_9_33 rfl ?_
              refine G_icmp_ge 107 dr_cX14_next_43 (by decide +kernel) (fun hc655246 => ?_) (fun hc655246 => ?_)
              · have r655247 : p653639.toInt ≤ g655238.toInt := gC_le hc655246
                have bg655238' : gB g655238 1 8192 := ⟨by omega, by omega⟩
                have x655248 : g654722.toInt < g655238.toInt := by first | omega | exact chNe (a := g654722) (b := g655238) (by assumption) (by assumption) (by omega) (by omega)
                refine G_goto 8 dr_cX14_next_107 (by decide +kernel) ?_
                refine G_lv (L' := [(0, .ref q653637)]) [1] rfl ?_
                exact ih8_654728 F655239 g655238 (gB_w bg655238' (by decide) (by decide)) hfr655242 he655240 he655241 (by omega) (by omega) (by omega)
              · have r655249 : g655238.toInt < p653639.toInt := gC_nle hc655246
                have bg655238' : gB g655238 0 8191 := ⟨by omega, by omega⟩
                refine G_aload_n 1 dr_cX14_next_46 rfl ?_
                refine Gp_get 0 hmq653637 he655240 dr_cX14_next_47 (gk_X14 D I) (Nat.le_of_ble_eq_true rfl) wr_9_32 rfl ?_
                refine G_aload_n 1 dr_cX14_next_50 rfl ?_
                refine Gp_get 2 hmq653637 he655240 dr_cX14_next_51 (gk_X14 D I) (Nat.le_of_ble_eq_true rfl) wr_9_34 rfl ?_
                refine Gp_bald 1 hmq653638 he655241 dr_cX14_next_54 rfl (gB_in bg655238' (by decide) (by decide)) (G_nam fun z655250 hz655250 => ?_)
                have bz655250 : gB z655250 (-128) 127 := by rw [hz655250]; exact bf653652 _
                refine G_bipush 10 dr_cX14_next_55 (by decide +kernel) ?_
                refine G_icmp_eq 107 dr_cX14_next_57 (by decide +kernel) (fun hc655251 => ?_) (fun hc655251 => ?_)
                · have r655252 : z655250.toInt = 10 := gj_eq hc655251 (show Int32.toInt 10 = 10 by decide)
                  have bz655250' : gB z655250 10 10 := ⟨by omega, by omega⟩
                  have x655253 : g654722.toInt < g655238.toInt := by first | omega | exact chNe (a := g654722) (b := g655238) (by assumption) (by assumption) (by omega) (by omega)
                  refine G_goto 8 dr_cX14_next_107 (by decide +kernel) ?_
                  refine G_lv (L' := [(0, .ref q653637)]) [1] rfl ?_
                  exact ih8_654728 F655239 g655238 (gB_w bg655238' (by decide) (by decide)) hfr655242 he655240 he655241 (by omega) (by omega) (by omega)
                · have r655254 : z655250.toInt ≠ 10 := gj_neq hc655251 (show Int32.toInt 10 = 10 by decide)
                  refine G_aload_n 1 dr_cX14_next_60 rfl ?_
                  refine G_dup dr_cX14_next_61 rfl ?_
                  refine Gp_get 2 hmq653637 he655240 dr_cX14_next_62 (gk_X14 D I) (Nat.le_of_ble_eq_true rfl) wr_9_34 rfl ?_
                  refine G_iconst 1 dr_cX14_next_65 (by decide +kernel) ?_
                  refine G_iadd dr_cX14_next_66 (G_nam fun z655255 hz655255 => ?_)
                  have ez655255 : z655255.toInt = g655238.toInt + 1 := by rw [gI_add hz655255 bg655238' (gBl (show Int32.toInt 1 = 1 by decide)) (by decide) (by decide), show Int32.toInt 1 = 1 from by decide]
                  have bz655255 : gB z655255 1 8192 := gB_add (gI_add hz655255 bg655238' (gBl (show Int32.toInt 1 = 1 by decide)) (by decide) (by decide)) bg655238' (gBl (show Int32.toInt 1 = 1 by decide)) (by decide) (by decide)
                  refine Gp_put 2 hmq653637 he655240 dr_cX14_next_67 (gk_X14 D I) (Nat.le_of_ble_eq_true rfl) wr_9_34 rfl rfl rfl (Nat.le_of_ble_eq_true rfl) (fun F655256 e655257 n655258 => ?_)
                  have he655259 : F655256 q653638 = .inl (I .byte, 8192, .inl f653652) := (n655258 q653638 (rn_ao he655241 he655240)).trans he655241
                  have he655260 : F655256 q653637 = .inr (19, [.ref q653638, .int p653639, .int z655255, .int p653641, .int p653642, .int p653643, .int p653641, .ref qo653645, .int p653646, .int p653647, .int p653648, .ref qo653649, .ref qo653650, .int p653651]) := e655257
                  have hfr655261 : rFr [q653637] P653635 F653636 F655256 := rFr_put' List.mem_cons_self hfr655242 n655258
                  refine G_goto 35 dr_cX14_next_70 (by decide +kernel) ?_
                  exact ih35_655245 F655256 z655255 (gB_w bz655255 (by decide) (by decide)) hfr655261 he655260 he655259 (by omega) (by omega) (by omega) (by omega)
          exact hlp35_655245 (((p653639.toInt : Int) + 1 - g654722.toInt).toNat + 1) F654723 g654722 (gB_w bg654722' (by decide) (by decide)) hfr654726 he654724 he654725 (by omega) (by omega) (by omega) (Nat.lt_succ_self _)
  exact hlp8_654728 (((p653639.toInt : Int) + 1 - p653640.toInt).toNat + 1) F653657 p653640 bp653640 hfr653662 he653661 he653660 (by omega) (by omega) (Nat.lt_succ_self _)
