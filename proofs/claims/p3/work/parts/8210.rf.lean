theorem dr_cX14_next_0 : decode cX14_next 0 = .ok (.aload_n 0, 1) := by decide +kernel
theorem dr_cX14_next_1 : decode cX14_next 1 = .ok (.aload_n 0, 1) := by decide +kernel
theorem dr_cX14_next_2 : decode cX14_next 2 = .ok (.getfield 38, 3) := by decide +kernel
theorem dr_cX14_next_5 : decode cX14_next 5 = .ok (.putfield 41, 3) := by decide +kernel
theorem wr_9_42 : (Jvm.Cond.fieldLink "SpillForgeModel$Reader" (41 : Nat) "SpillForgeModel$Reader" "before" "I") ∈ gw := gw_9 42 rfl rfl
theorem dr_cX14_next_8 : decode cX14_next 8 = .ok (.aload_n 0, 1) := by decide +kernel
theorem dr_cX14_next_9 : decode cX14_next 9 = .ok (.getfield 44, 3) := by decide +kernel
theorem dr_cX14_next_12 : decode cX14_next 12 = .ok (.aload_n 0, 1) := by decide +kernel
theorem dr_cX14_next_13 : decode cX14_next 13 = .ok (.getfield 32, 3) := by decide +kernel
theorem dr_cX14_next_16 : decode cX14_next 16 = .ok (.if_icmp .ge 94, 3) := by decide +kernel
theorem dr_cX14_next_110 : decode cX14_next 110 = .ok (.aload_n 0, 1) := by decide +kernel
theorem dr_cX14_next_111 : decode cX14_next 111 = .ok (.aload_n 0, 1) := by decide +kernel
theorem dr_cX14_next_112 : decode cX14_next 112 = .ok (.getfield 44, 3) := by decide +kernel
theorem dr_cX14_next_115 : decode cX14_next 115 = .ok (.putfield 47, 3) := by decide +kernel
theorem wr_9_40 : (Jvm.Cond.fieldLink "SpillForgeModel$Reader" (47 : Nat) "SpillForgeModel$Reader" "place" "I") ∈ gw := gw_9 40 rfl rfl
theorem dr_cX14_next_118 : decode cX14_next 118 = .ok (.aload_n 0, 1) := by decide +kernel
theorem dr_cX14_next_119 : decode cX14_next 119 = .ok (.ldc 9, 2) := by decide +kernel
theorem dr_cX14_next_121 : decode cX14_next 121 = .ok (.putfield 11, 3) := by decide +kernel
theorem dr_cX14_next_124 : decode cX14_next 124 = .ok (.aload_n 0, 1) := by decide +kernel
theorem dr_cX14_next_125 : decode cX14_next 125 = .ok (.getfield 44, 3) := by decide +kernel
theorem dr_cX14_next_128 : decode cX14_next 128 = .ok (.aload_n 0, 1) := by decide +kernel
theorem dr_cX14_next_129 : decode cX14_next 129 = .ok (.getfield 32, 3) := by decide +kernel
theorem dr_cX14_next_132 : decode cX14_next 132 = .ok (.if_icmp .ne 9, 3) := by decide +kernel
theorem dr_cX14_next_141 : decode cX14_next 141 = .ok (.aload_n 0, 1) := by decide +kernel
theorem dr_cX14_next_142 : decode cX14_next 142 = .ok (.getfield 28, 3) := by decide +kernel
theorem dr_cX14_next_145 : decode cX14_next 145 = .ok (.aload_n 0, 1) := by decide +kernel
theorem dr_cX14_next_146 : decode cX14_next 146 = .ok (.getfield 44, 3) := by decide +kernel
theorem dr_cX14_next_149 : decode cX14_next 149 = .ok (.baload, 1) := by decide +kernel
theorem dr_cX14_next_150 : decode cX14_next 150 = .ok (.istore_n 1, 1) := by decide +kernel
theorem dr_cX14_next_209 : decode cX14_next 209 = .ok (.iload_n 1, 1) := by decide +kernel
theorem dr_cX14_next_210 : decode cX14_next 210 = .ok (.invokestatic 54, 3) := by decide +kernel
theorem dr_cX14_next_213 : decode cX14_next 213 = .ok (.ifCond .eq 10, 3) := by decide +kernel
theorem dr_cX14_next_223 : decode cX14_next 223 = .ok (.iload_n 1, 1) := by decide +kernel
theorem dr_cX14_next_224 : decode cX14_next 224 = .ok (.invokestatic 50, 3) := by decide +kernel
theorem dr_cX14_next_227 : decode cX14_next 227 = .ok (.ifCond .ne 7, 3) := by decide +kernel
theorem dr_cX14_next_234 : decode cX14_next 234 = .ok (.aload_n 0, 1) := by decide +kernel
theorem dr_cX14_next_235 : decode cX14_next 235 = .ok (.iload_n 2, 1) := by decide +kernel
theorem dr_cX14_next_236 : decode cX14_next 236 = .ok (.invokevirtual 60, 3) := by decide +kernel
theorem wr_8_218 : (Jvm.Cond.methodLink "SpillForgeModel$Reader" (60 : Nat) ({ cls := "SpillForgeModel$Reader", name := "number", desc := "(Z)V" } : Jvm.MethodName)) ∈ gw := gw_8 218 rfl rfl
theorem wr_8_221 : (Jvm.Cond.code ({ cls := "SpillForgeModel$Reader", name := "number", desc := "(Z)V" } : Jvm.MethodName) prog_17_method_6_code (4 : Nat) (Option.none : Option Jvm.ClassFile.FieldType)) ∈ gw := gw_8 221 rfl rfl
theorem wr_8_220 : (Jvm.Cond.instanceMethod ({ cls := "SpillForgeModel$Reader", name := "number", desc := "(Z)V" } : Jvm.MethodName)) ∈ gw := gw_8 220 rfl rfl
theorem wr_p_77 : Cond.selects "SpillForgeModel$Reader" ⟨"SpillForgeModel$Reader", "number", "(Z)V"⟩ ⟨"SpillForgeModel$Reader", "number", "(Z)V"⟩ ∈ gw := gw_p _ 77 rfl rfl rfl
theorem dr_cX14_next_239 : decode cX14_next 239 = .ok (.goto 8, 3) := by decide +kernel
theorem dr_cX14_next_247 : decode cX14_next 247 = .ok (.return_, 1) := by decide +kernel
theorem dr_cX14_next_230 : decode cX14_next 230 = .ok (.iload_n 2, 1) := by decide +kernel
theorem dr_cX14_next_231 : decode cX14_next 231 = .ok (.ifCond .eq 11, 3) := by decide +kernel
theorem dr_cX14_next_242 : decode cX14_next 242 = .ok (.aload_n 0, 1) := by decide +kernel
theorem dr_cX14_next_243 : decode cX14_next 243 = .ok (.iload_n 1, 1) := by decide +kernel
theorem dr_cX14_next_244 : decode cX14_next 244 = .ok (.invokevirtual 64, 3) := by decide +kernel
theorem wr_8_223 : (Jvm.Cond.methodLink "SpillForgeModel$Reader" (64 : Nat) ({ cls := "SpillForgeModel$Reader", name := "symbol", desc := "(I)V" } : Jvm.MethodName)) ∈ gw := gw_8 223 rfl rfl
theorem wr_8_226 : (Jvm.Cond.code ({ cls := "SpillForgeModel$Reader", name := "symbol", desc := "(I)V" } : Jvm.MethodName) prog_17_method_7_code (4 : Nat) (Option.none : Option Jvm.ClassFile.FieldType)) ∈ gw := gw_8 226 rfl rfl
theorem wr_8_225 : (Jvm.Cond.instanceMethod ({ cls := "SpillForgeModel$Reader", name := "symbol", desc := "(I)V" } : Jvm.MethodName)) ∈ gw := gw_8 225 rfl rfl
theorem wr_p_78 : Cond.selects "SpillForgeModel$Reader" ⟨"SpillForgeModel$Reader", "symbol", "(I)V"⟩ ⟨"SpillForgeModel$Reader", "symbol", "(I)V"⟩ ∈ gw := gw_p _ 78 rfl rfl rfl
theorem dr_cX14_next_216 : decode cX14_next 216 = .ok (.aload_n 0, 1) := by decide +kernel
theorem dr_cX14_next_217 : decode cX14_next 217 = .ok (.invokevirtual 57, 3) := by decide +kernel
theorem wr_7_225 : (Jvm.Cond.methodLink "SpillForgeModel$Reader" (57 : Nat) ({ cls := "SpillForgeModel$Reader", name := "word", desc := "()V" } : Jvm.MethodName)) ∈ gw := gw_7 225 rfl rfl
theorem wr_7_228 : (Jvm.Cond.code ({ cls := "SpillForgeModel$Reader", name := "word", desc := "()V" } : Jvm.MethodName) prog_17_method_5_code (4 : Nat) (Option.none : Option Jvm.ClassFile.FieldType)) ∈ gw := gw_7 228 rfl rfl
theorem wr_7_227 : (Jvm.Cond.instanceMethod ({ cls := "SpillForgeModel$Reader", name := "word", desc := "()V" } : Jvm.MethodName)) ∈ gw := gw_7 227 rfl rfl
theorem wr_p_76 : Cond.selects "SpillForgeModel$Reader" ⟨"SpillForgeModel$Reader", "word", "()V"⟩ ⟨"SpillForgeModel$Reader", "word", "()V"⟩ ∈ gw := gw_p _ 76 rfl rfl rfl
theorem dr_cX14_next_220 : decode cX14_next 220 = .ok (.goto 27, 3) := by decide +kernel
theorem dr_cX14_next_151 : decode cX14_next 151 = .ok (.iload_n 1, 1) := by decide +kernel
theorem dr_cX14_next_152 : decode cX14_next 152 = .ok (.bipush 45, 2) := by decide +kernel
theorem dr_cX14_next_154 : decode cX14_next 154 = .ok (.if_icmp .ne 53, 3) := by decide +kernel
theorem dr_cX14_next_207 : decode cX14_next 207 = .ok (.iconst 0, 1) := by decide +kernel
theorem dr_cX14_next_208 : decode cX14_next 208 = .ok (.istore_n 2, 1) := by decide +kernel
theorem dr_cX14_next_157 : decode cX14_next 157 = .ok (.aload_n 0, 1) := by decide +kernel
theorem dr_cX14_next_158 : decode cX14_next 158 = .ok (.getfield 44, 3) := by decide +kernel
theorem dr_cX14_next_161 : decode cX14_next 161 = .ok (.iconst 1, 1) := by decide +kernel
theorem dr_cX14_next_162 : decode cX14_next 162 = .ok (.iadd, 1) := by decide +kernel
theorem dr_cX14_next_163 : decode cX14_next 163 = .ok (.aload_n 0, 1) := by decide +kernel
theorem dr_cX14_next_164 : decode cX14_next 164 = .ok (.getfield 32, 3) := by decide +kernel
theorem dr_cX14_next_167 : decode cX14_next 167 = .ok (.if_icmp .ge 40, 3) := by decide +kernel
theorem dr_cX14_next_170 : decode cX14_next 170 = .ok (.aload_n 0, 1) := by decide +kernel
theorem dr_cX14_next_171 : decode cX14_next 171 = .ok (.getfield 28, 3) := by decide +kernel
theorem dr_cX14_next_174 : decode cX14_next 174 = .ok (.aload_n 0, 1) := by decide +kernel
theorem dr_cX14_next_175 : decode cX14_next 175 = .ok (.getfield 44, 3) := by decide +kernel
theorem dr_cX14_next_178 : decode cX14_next 178 = .ok (.iconst 1, 1) := by decide +kernel
theorem dr_cX14_next_179 : decode cX14_next 179 = .ok (.iadd, 1) := by decide +kernel
theorem dr_cX14_next_180 : decode cX14_next 180 = .ok (.baload, 1) := by decide +kernel
theorem dr_cX14_next_181 : decode cX14_next 181 = .ok (.invokestatic 50, 3) := by decide +kernel
theorem dr_cX14_next_184 : decode cX14_next 184 = .ok (.ifCond .eq 23, 3) := by decide +kernel
theorem dr_cX14_next_187 : decode cX14_next 187 = .ok (.aload_n 0, 1) := by decide +kernel
theorem dr_cX14_next_188 : decode cX14_next 188 = .ok (.getfield 41, 3) := by decide +kernel
theorem dr_cX14_next_191 : decode cX14_next 191 = .ok (.iconst 2, 1) := by decide +kernel
theorem dr_cX14_next_192 : decode cX14_next 192 = .ok (.if_icmp .eq 15, 3) := by decide +kernel
theorem dr_cX14_next_195 : decode cX14_next 195 = .ok (.aload_n 0, 1) := by decide +kernel
theorem dr_cX14_next_196 : decode cX14_next 196 = .ok (.getfield 41, 3) := by decide +kernel
theorem dr_cX14_next_199 : decode cX14_next 199 = .ok (.iconst 4, 1) := by decide +kernel
theorem dr_cX14_next_200 : decode cX14_next 200 = .ok (.if_icmp .eq 7, 3) := by decide +kernel
theorem dr_cX14_next_203 : decode cX14_next 203 = .ok (.iconst 1, 1) := by decide +kernel
theorem dr_cX14_next_204 : decode cX14_next 204 = .ok (.goto 4, 3) := by decide +kernel
theorem dr_cX14_next_135 : decode cX14_next 135 = .ok (.aload_n 0, 1) := by decide +kernel
theorem dr_cX14_next_136 : decode cX14_next 136 = .ok (.iconst 0, 1) := by decide +kernel
theorem dr_cX14_next_137 : decode cX14_next 137 = .ok (.putfield 38, 3) := by decide +kernel
theorem dr_cX14_next_140 : decode cX14_next 140 = .ok (.return_, 1) := by decide +kernel
theorem dr_cX14_next_19 : decode cX14_next 19 = .ok (.aload_n 0, 1) := by decide +kernel
theorem dr_cX14_next_20 : decode cX14_next 20 = .ok (.getfield 28, 3) := by decide +kernel
theorem dr_cX14_next_23 : decode cX14_next 23 = .ok (.aload_n 0, 1) := by decide +kernel
theorem dr_cX14_next_24 : decode cX14_next 24 = .ok (.getfield 44, 3) := by decide +kernel
theorem dr_cX14_next_27 : decode cX14_next 27 = .ok (.baload, 1) := by decide +kernel
theorem dr_cX14_next_28 : decode cX14_next 28 = .ok (.istore_n 1, 1) := by decide +kernel
theorem dr_cX14_next_29 : decode cX14_next 29 = .ok (.iload_n 1, 1) := by decide +kernel
theorem dr_cX14_next_30 : decode cX14_next 30 = .ok (.bipush 59, 2) := by decide +kernel
theorem dr_cX14_next_32 : decode cX14_next 32 = .ok (.if_icmp .ne 41, 3) := by decide +kernel
theorem dr_cX14_next_73 : decode cX14_next 73 = .ok (.iload_n 1, 1) := by decide +kernel
theorem dr_cX14_next_74 : decode cX14_next 74 = .ok (.bipush 9, 2) := by decide +kernel
theorem dr_cX14_next_76 : decode cX14_next 76 = .ok (.if_icmp .eq 21, 3) := by decide +kernel
theorem dr_cX14_next_97 : decode cX14_next 97 = .ok (.aload_n 0, 1) := by decide +kernel
theorem dr_cX14_next_98 : decode cX14_next 98 = .ok (.dup, 1) := by decide +kernel
theorem dr_cX14_next_99 : decode cX14_next 99 = .ok (.getfield 44, 3) := by decide +kernel
theorem dr_cX14_next_102 : decode cX14_next 102 = .ok (.iconst 1, 1) := by decide +kernel
theorem dr_cX14_next_103 : decode cX14_next 103 = .ok (.iadd, 1) := by decide +kernel
theorem dr_cX14_next_104 : decode cX14_next 104 = .ok (.putfield 44, 3) := by decide +kernel
theorem dr_cX14_next_107 : decode cX14_next 107 = .ok (.goto (-99), 3) := by decide +kernel
theorem dr_cX14_next_79 : decode cX14_next 79 = .ok (.iload_n 1, 1) := by decide +kernel
theorem dr_cX14_next_80 : decode cX14_next 80 = .ok (.bipush 10, 2) := by decide +kernel
theorem dr_cX14_next_82 : decode cX14_next 82 = .ok (.if_icmp .eq 15, 3) := by decide +kernel
theorem dr_cX14_next_85 : decode cX14_next 85 = .ok (.iload_n 1, 1) := by decide +kernel
theorem dr_cX14_next_86 : decode cX14_next 86 = .ok (.bipush 13, 2) := by decide +kernel
theorem dr_cX14_next_88 : decode cX14_next 88 = .ok (.if_icmp .eq 9, 3) := by decide +kernel
theorem dr_cX14_next_91 : decode cX14_next 91 = .ok (.iload_n 1, 1) := by decide +kernel
theorem dr_cX14_next_92 : decode cX14_next 92 = .ok (.bipush 32, 2) := by decide +kernel
theorem dr_cX14_next_94 : decode cX14_next 94 = .ok (.if_icmp .ne 16, 3) := by decide +kernel
theorem dr_cX14_next_35 : decode cX14_next 35 = .ok (.aload_n 0, 1) := by decide +kernel
theorem dr_cX14_next_36 : decode cX14_next 36 = .ok (.getfield 44, 3) := by decide +kernel
theorem dr_cX14_next_39 : decode cX14_next 39 = .ok (.aload_n 0, 1) := by decide +kernel
theorem dr_cX14_next_40 : decode cX14_next 40 = .ok (.getfield 32, 3) := by decide +kernel
theorem dr_cX14_next_43 : decode cX14_next 43 = .ok (.if_icmp .ge 64, 3) := by decide +kernel
theorem dr_cX14_next_46 : decode cX14_next 46 = .ok (.aload_n 0, 1) := by decide +kernel
theorem dr_cX14_next_47 : decode cX14_next 47 = .ok (.getfield 28, 3) := by decide +kernel
theorem dr_cX14_next_50 : decode cX14_next 50 = .ok (.aload_n 0, 1) := by decide +kernel
theorem dr_cX14_next_51 : decode cX14_next 51 = .ok (.getfield 44, 3) := by decide +kernel
theorem dr_cX14_next_54 : decode cX14_next 54 = .ok (.baload, 1) := by decide +kernel
theorem dr_cX14_next_55 : decode cX14_next 55 = .ok (.bipush 10, 2) := by decide +kernel
theorem dr_cX14_next_57 : decode cX14_next 57 = .ok (.if_icmp .eq 50, 3) := by decide +kernel
theorem dr_cX14_next_60 : decode cX14_next 60 = .ok (.aload_n 0, 1) := by decide +kernel
theorem dr_cX14_next_61 : decode cX14_next 61 = .ok (.dup, 1) := by decide +kernel
theorem dr_cX14_next_62 : decode cX14_next 62 = .ok (.getfield 44, 3) := by decide +kernel
theorem dr_cX14_next_65 : decode cX14_next 65 = .ok (.iconst 1, 1) := by decide +kernel
theorem dr_cX14_next_66 : decode cX14_next 66 = .ok (.iadd, 1) := by decide +kernel
theorem dr_cX14_next_67 : decode cX14_next 67 = .ok (.putfield 44, 3) := by decide +kernel
theorem dr_cX14_next_70 : decode cX14_next 70 = .ok (.goto (-35), 3) := by decide +kernel
abbrev ky_653764_Reader_next : gKey := (cX14_next, 3, "SpillForgeModel$Reader", none, [], "next", fun _ _ => True)
def pp_653764_Reader_next (D : va_G) (I : FieldType → ClassId) (P653743 : List Nat) (F653744 : Nat → va_E) (q653745 : Nat) (q653746 : Nat) (p653747 : Int32) (p653748 : Int32) (p653749 : Int32) (p653750 : Int32) (p653751 : Int32) (p653752 : Int32) (qo653753 : Nat) (p653754 : Int32) (p653755 : Int32) (p653756 : Int32) (qo653757 : Nat) (qo653758 : Nat) (p653759 : Int32) (f653760 : Nat → Int32) : Option Value → va_W → Nat → Nat → Prop := fun r w dc ds => ∃ (P655375 : List Nat) (F655376 : Nat → va_E) (o655370 : Int32) (o655371 : Int32) (o655372 : Int32) (o655373 : Int32) (q655374 : Nat), r = none ∧ w = va_pl P655375 F655376 ∧ rSub P653743 P655375 ∧ rFr [q653745] P653743 F653744 F655376 ∧ F655376 q653745 = .inr (19, [.ref q653746, .int p653747, .int o655370, .int o655371, .int o655372, .int o655373, .int p653749, .ref q655374, .int p653754, .int p653755, .int p653756, .ref qo653757, .ref qo653758, .int p653759]) ∧ F655376 q653746 = .inl (I .byte, 8192, .inl f653760) ∧ dc ≤ (16 * (o655370.toInt - p653748.toInt)).toNat ∧ ds ≤ (160 * (o655370.toInt - p653748.toInt)).toNat ∧ gB o655370 0 8192 ∧ gB o655371 0 6 ∧ gB o655372 0 8192 ∧ p653748.toInt ≤ o655370.toInt ∧ prP o655371 p653748 o655370 ∧ o655370.toInt ≤ p653747.toInt ∧ tP I P655375 F655376 o655371 q655374 qo653758 qo653757 ∧ vP o655371 o655373
set_option maxRecDepth 100000 in
set_option maxHeartbeats 4000000 in
theorem cp_653764_Reader_next (l : Launch) (hl0 : l.stackTraces = false) (D : va_G) (I : FieldType → ClassId) (P653743 : List Nat) (F653744 : Nat → va_E) (q653745 : Nat) (q653746 : Nat) (p653747 : Int32) (p653748 : Int32) (p653749 : Int32) (p653750 : Int32) (p653751 : Int32) (p653752 : Int32) (qo653753 : Nat) (p653754 : Int32) (p653755 : Int32) (p653756 : Int32) (qo653757 : Nat) (qo653758 : Nat) (p653759 : Int32) (f653760 : Nat → Int32) (hmq653745 : q653745 ∈ P653743) (hmq653746 : q653746 ∈ P653743) (heq653745 : F653744 q653745 = .inr (19, [.ref q653746, .int p653747, .int p653748, .int p653749, .int p653750, .int p653751, .int p653752, .ref qo653753, .int p653754, .int p653755, .int p653756, .ref qo653757, .ref qo653758, .int p653759])) (heq653746 : F653744 q653746 = .inl (I .byte, 8192, .inl f653760)) (bp653747 : gB p653747 0 8192) (bp653748 : gB p653748 0 8192) (bp653749 : gB p653749 0 6) (bp653750 : gB p653750 0 8192) (bp653752 : gB p653752 0 6) (bp653754 : gB p653754 (-1) 8192) (bp653755 : gB p653755 0 4) (bp653756 : gB p653756 0 1000000) (bp653759 : gB p653759 0 1000000) (bf653760 : gF f653760 (-128) 127) (x653761 : p653748.toInt ≤ p653747.toInt) (x653762 : qo653758 ∈ P653743) (x653763 : qo653757 ∈ P653743) : CtA (gV D I) l yX14_next cX14_next 3 none 7 155 ((16 * (p653747.toInt - p653748.toInt)).toNat) ((160 * (p653747.toInt - p653748.toInt)).toNat) [.ref q653745] (va_pl P653743 F653744) (pp_653764_Reader_next D I P653743 F653744 q653745 q653746 p653747 p653748 p653749 p653750 p653751 p653752 qo653753 p653754 p653755 p653756 qo653757 qo653758 p653759 f653760) gNA := by
  refine CtA_of hl0 (by decide) (Nat.le_of_ble_eq_true rfl) ?_
  have bp653751 := gB_any p653751
  refine G_aload_n 0 dr_cX14_next_0 rfl ?_
  refine G_aload_n 0 dr_cX14_next_1 rfl ?_
  refine Gp_get 3 hmq653745 heq653745 dr_cX14_next_2 (gk_X14 D I) (Nat.le_of_ble_eq_true rfl) wr_9_39 rfl ?_
  refine Gp_put 6 hmq653745 heq653745 dr_cX14_next_5 (gk_X14 D I) (Nat.le_of_ble_eq_true rfl) wr_9_42 rfl rfl rfl (Nat.le_of_ble_eq_true rfl) (fun F653765 e653766 n653767 => ?_)
  have he653768 : F653765 q653746 = .inl (I .byte, 8192, .inl f653760) := (n653767 q653746 (rn_ao heq653746 heq653745)).trans heq653746
  have he653769 : F653765 q653745 = .inr (19, [.ref q653746, .int p653747, .int p653748, .int p653749, .int p653750, .int p653751, .int p653749, .ref qo653753, .int p653754, .int p653755, .int p653756, .ref qo653757, .ref qo653758, .int p653759]) := e653766
  have hfr653770 : rFr [q653745] P653743 F653744 F653765 := rFr_put (rFr_rf (W := []) (P := P653743) (F := F653744)) n653767
  have hlp8_654836 : ∀ (n8_654836 : Nat) (F654831 : Nat → va_E) (g654830 : Int32), gB g654830 0 8192 → rFr [q653745] P653743 F653744 F654831 → F654831 q653745 = .inr (19, [.ref q653746, .int p653747, .int g654830, .int p653749, .int p653750, .int p653751, .int p653749, .ref qo653753, .int p653754, .int p653755, .int p653756, .ref qo653757, .ref qo653758, .int p653759]) → F654831 q653746 = .inl (I .byte, 8192, .inl f653760) → p653748.toInt ≤ g654830.toInt → g654830.toInt ≤ p653747.toInt → ((p653747.toInt : Int) + 1 - g654830.toInt).toNat < n8_654836 → G (gV D I) l (gRm 7 155 ((16 * (p653747.toInt - p653748.toInt)).toNat) ((160 * (p653747.toInt - p653748.toInt)).toNat)) (gMA (gV D I) (pp_653764_Reader_next D I P653743 F653744 q653745 q653746 p653747 p653748 p653749 p653750 p653751 p653752 qo653753 p653754 p653755 p653756 qo653757 qo653758 p653759 f653760) gNA ((16 * (p653747.toInt - p653748.toInt)).toNat) ((160 * (p653747.toInt - p653748.toInt)).toNat)) ky_653764_Reader_next 8 [(0, .ref q653745)] [] (va_pl P653743 F654831) 0 0 := by
    intro n8_654836
    induction n8_654836 with
    | zero => intro F654831 g654830 bg654830 hfr654834 he654832 he654833 x654835 x654836 hm8_654836; exact absurd hm8_654836 (Nat.not_lt_zero _)
    | succ n8_654836 ih8_654836 =>
      intro F654831 g654830 bg654830 hfr654834 he654832 he654833 x654835 x654836 hm8_654836
      refine G_aload_n 0 dr_cX14_next_8 rfl ?_
      refine Gp_get 2 hmq653745 he654832 dr_cX14_next_9 (gk_X14 D I) (Nat.le_of_ble_eq_true rfl) wr_9_38 rfl ?_
      refine G_aload_n 0 dr_cX14_next_12 rfl ?_
      refine Gp_get 1 hmq653745 he654832 dr_cX14_next_13 (gk_X14 D I) (Nat.le_of_ble_eq_true rfl) wr_9_37 rfl ?_
      refine G_icmp_ge 110 dr_cX14_next_16 (by decide +kernel) (fun hc654837 => ?_) (fun hc654837 => ?_)
      · have r654838 : p653747.toInt ≤ g654830.toInt := gC_le hc654837
        clear he653768 he653769 hfr653770
        refine G_aload_n 0 dr_cX14_next_110 rfl ?_
        refine G_aload_n 0 dr_cX14_next_111 rfl ?_
        refine Gp_get 2 hmq653745 he654832 dr_cX14_next_112 (gk_X14 D I) (Nat.le_of_ble_eq_true rfl) wr_9_38 rfl ?_
        refine Gp_put 4 hmq653745 he654832 dr_cX14_next_115 (gk_X14 D I) (Nat.le_of_ble_eq_true rfl) wr_9_40 rfl rfl rfl (Nat.le_of_ble_eq_true rfl) (fun F654839 e654840 n654841 => ?_)
        have he654842 : F654839 q653746 = .inl (I .byte, 8192, .inl f653760) := (n654841 q653746 (rn_ao he654833 he654832)).trans he654833
        have he654843 : F654839 q653745 = .inr (19, [.ref q653746, .int p653747, .int g654830, .int p653749, .int g654830, .int p653751, .int p653749, .ref qo653753, .int p653754, .int p653755, .int p653756, .ref qo653757, .ref qo653758, .int p653759]) := e654840
        have hfr654844 : rFr [q653745] P653743 F653744 F654839 := rFr_put' List.mem_cons_self hfr654834 n654841
        refine G_aload_n 0 dr_cX14_next_118 rfl ?_
        refine G_ldcK (a := D.2 1000 32) dr_cX14_next_119 (fun _ _ _ h => gx_vk 32 rfl rfl h) ?_
        have hl32_654844 : (sb_32.length : Int) = 0 := rfl
        refine Gp_put 7 hmq653745 he654843 dr_cX14_next_121 (gk_X14 D I) (Nat.le_of_ble_eq_true rfl) wr_9_43 rfl rfl rfl (Nat.le_of_ble_eq_true rfl) (fun F654846 e654847 n654848 => ?_)
        have he654849 : F654846 q653746 = .inl (I .byte, 8192, .inl f653760) := (n654848 q653746 (rn_ao he654842 he654843)).trans he654842
        have he654850 : F654846 q653745 = .inr (19, [.ref q653746, .int p653747, .int g654830, .int p653749, .int g654830, .int p653751, .int p653749, .ref (D.2 1000 32), .int p653754, .int p653755, .int p653756, .ref qo653757, .ref qo653758, .int p653759]) := e654847
        have hfr654851 : rFr [q653745] P653743 F653744 F654846 := rFr_put' List.mem_cons_self hfr654844 n654848
        clear he654842 he654843 hfr654844
        refine G_aload_n 0 dr_cX14_next_124 rfl ?_
        refine Gp_get 2 hmq653745 he654850 dr_cX14_next_125 (gk_X14 D I) (Nat.le_of_ble_eq_true rfl) wr_9_38 rfl ?_
        refine G_aload_n 0 dr_cX14_next_128 rfl ?_
        refine Gp_get 1 hmq653745 he654850 dr_cX14_next_129 (gk_X14 D I) (Nat.le_of_ble_eq_true rfl) wr_9_37 rfl ?_
        refine G_icmp_ne 141 dr_cX14_next_132 (by decide +kernel) (fun hc654852 => ?_) (fun hc654852 => ?_)
        · have r654853 : g654830.toInt ≠ p653747.toInt := gC_ne hc654852
          refine G_aload_n 0 dr_cX14_next_141 rfl ?_
          refine Gp_get 0 hmq653745 he654850 dr_cX14_next_142 (gk_X14 D I) (Nat.le_of_ble_eq_true rfl) wr_9_36 rfl ?_
          refine G_aload_n 0 dr_cX14_next_145 rfl ?_
          refine Gp_get 2 hmq653745 he654850 dr_cX14_next_146 (gk_X14 D I) (Nat.le_of_ble_eq_true rfl) wr_9_38 rfl ?_
          refine Gp_bald 1 hmq653746 he654849 dr_cX14_next_149 rfl (gB_inr (by omega) (by omega)) (G_nam fun z654854 hz654854 => ?_)
          have bz654854 : gB z654854 (-128) 127 := by rw [hz654854]; exact bf653760 _
          refine G_istore_n (L' := [(1, .int z654854), (0, .ref q653745)]) dr_cX14_next_150 (Nat.le_of_ble_eq_true rfl) rfl ?_
          have jn654855 : G (gV D I) l (gRm 7 155 ((16 * (p653747.toInt - p653748.toInt)).toNat) ((160 * (p653747.toInt - p653748.toInt)).toNat)) (gMA (gV D I) (pp_653764_Reader_next D I P653743 F653744 q653745 q653746 p653747 p653748 p653749 p653750 p653751 p653752 qo653753 p653754 p653755 p653756 qo653757 qo653758 p653759 f653760) gNA ((16 * (p653747.toInt - p653748.toInt)).toNat) ((160 * (p653747.toInt - p653748.toInt)).toNat)) ky_653764_Reader_next 209 [(2, .int 0), (1, .int z654854), (0, .ref q653745)] [] (va_pl P653743 F654846) 0 0 := by
            refine G_iload_n 1 dr_cX14_next_209 rfl ?_
            refine Gw_callS (As := [.int z654854]) (gV_ok D I) (cp_651520_Reader_isLetter l hl0 D I P653743 F654846 z654854 ) dr_cX14_next_210 ⟨wr_7_222, wr_1_32, wr_7_224, by decide, rfl, (Nat.le_of_ble_eq_true rfl), (Nat.le_of_ble_eq_true rfl)⟩ wr_7_223 (show 0 + 0 ≤ ((16 * (p653747.toInt - p653748.toInt)).toNat) by first | omega | decide) (show 0 + 0 ≤ ((160 * (p653747.toInt - p653748.toInt)).toNat) by first | omega | decide) (Nat.le_of_ble_eq_true rfl) (fun r654859 w654860 dc654856 ds654857 hp654858 => ?_) (fun _ _ _ _ _ z => z.elim)
            obtain ⟨o654861, rfl, rfl, hdc, hds, bo654861, x654862⟩ := hp654858
            change G _ _ _ _ _ _ _ (.int o654861 :: _) _ _ _
            refine G_widen (cs' := 0) (sl' := 0) (by omega) (by omega) ?_
            refine G_if_eq 223 dr_cX14_next_213 (by decide +kernel) (fun hc654863 => ?_) (fun hc654863 => ?_)
            · have r654864 : o654861.toInt = 0 := gj_eq hc654863 (show Int32.toInt 0 = 0 by decide)
              have bo654861' : gB o654861 0 0 := ⟨by omega, by omega⟩
              clear bo654861 bo654861'; try clear r654859; try clear w654860; try clear dc654856; try clear ds654857; try clear hp654858; try clear x654862; try clear r654864
              refine G_iload_n 1 dr_cX14_next_223 rfl ?_
              refine Gw_callS (As := [.int z654854]) (gV_ok D I) (cp_649621_Reader_isDigit l hl0 D I P653743 F654846 z654854 ) dr_cX14_next_224 ⟨wr_7_219, wr_1_32, wr_7_221, by decide, rfl, (Nat.le_of_ble_eq_true rfl), (Nat.le_of_ble_eq_true rfl)⟩ wr_7_220 (show 0 + 0 ≤ ((16 * (p653747.toInt - p653748.toInt)).toNat) by first | omega | decide) (show 0 + 0 ≤ ((160 * (p653747.toInt - p653748.toInt)).toNat) by first | omega | decide) (Nat.le_of_ble_eq_true rfl) (fun r654868 w654869 dc654865 ds654866 hp654867 => ?_) (fun _ _ _ _ _ z => z.elim)
              obtain ⟨o654870, rfl, rfl, hdc, hds, bo654870, x654871⟩ := hp654867
              change G _ _ _ _ _ _ _ (.int o654870 :: _) _ _ _
              refine G_widen (cs' := 0) (sl' := 0) (by omega) (by omega) ?_
              refine G_if_ne 234 dr_cX14_next_227 (by decide +kernel) (fun hc654872 => ?_) (fun hc654872 => ?_)
              · have r654873 : o654870.toInt ≠ 0 := gj_neq hc654872 (show Int32.toInt 0 = 0 by decide)
                have bo654870' : gB o654870 1 1 := ⟨by omega, by omega⟩
                have bi654874 : gB z654854 48 57 := isP_1 x654871 (by omega)
                refine G_aload_n 2 dr_cX14_next_234 rfl ?_
                refine G_iload_n 0 dr_cX14_next_235 rfl ?_
                refine Gw_callV (As := [.int 0]) (gV_ok D I) (cp_649585_Reader_number l hl0 D I P653743 F654846 q653745 q653746 0 p653747 g654830 p653749 g654830 p653751 p653749 (D.2 1000 32) p653754 p653755 p653756 qo653757 qo653758 p653759 f653760 hmq653745 hmq653746 he654850 he654849 (gB_w (gBl (show Int32.toInt 0 = 0 by decide)) (by decide) (by decide)) bp653747 bg654830 bp653749 bg654830 bp653749 bp653754 bp653755 bp653756 bp653759 bf653760 (by have qa0 : Int32.toInt 0 = 0 := (by decide); omega) (by have qa0 : Int32.toInt 0 = 0 := (by decide); omega) (by first | assumption | exact cDg_no (by omega) | exact cDg_no (by decide) | exact cDg_of (by assumption) (by omega) (by omega)) x653762 x653763) dr_cX14_next_236 ⟨wr_8_218, wr_1_32, wr_8_221, by decide, rfl, (Nat.le_of_ble_eq_true rfl), (Nat.le_of_ble_eq_true rfl)⟩ wr_8_220 wr_p_77 hmq653745 he654850 rfl (show 0 + ((16 * (p653747.toInt - g654830.toInt)).toNat) ≤ ((16 * (p653747.toInt - p653748.toInt)).toNat) by first | omega | decide) (show 0 + ((160 * (p653747.toInt - g654830.toInt)).toNat) ≤ ((160 * (p653747.toInt - p653748.toInt)).toNat) by first | omega | decide) (Nat.le_of_ble_eq_true rfl) (fun r654878 w654879 dc654875 ds654876 hp654877 => ?_) (fun _ _ _ _ _ z => z.elim)
                obtain ⟨F654887, o654880, o654881, o654882, rfl, rfl, hfr654889, he654890, he654891, hdc, hds, bo654880, bo654881, x654883, x654884, x654885, x654886⟩ := hp654877
                have hfr654892 : rFr [q653745] P653743 F653744 F654887 := rFr_call (rSub_rf (P := P653743)) hfr654851 hfr654889 (fun b hb hn => ⟨(nm_c (fun e => hn (e ▸ List.mem_cons_self)) nm_n), (nm_c (fun e => hn (e ▸ List.mem_cons_self)) nm_n)⟩)
                have bo654882 := gB_any o654882
                change G _ _ _ _ _ _ _ _ _ _ _
                refine G_widen (cs' := (16 * (o654880.toInt - g654830.toInt)).toNat) (sl' := (160 * (o654880.toInt - g654830.toInt)).toNat) (by omega) (by omega) ?_
                refine G_goto 247 dr_cX14_next_239 (by decide +kernel) ?_
                exact G_vretA dr_cX14_next_247 rfl (show (16 * (o654880.toInt - g654830.toInt)).toNat ≤ ((16 * (p653747.toInt - p653748.toInt)).toNat) by omega) (show (160 * (o654880.toInt - g654830.toInt)).toNat ≤ ((160 * (p653747.toInt - p653748.toInt)).toNat) by omega) ⟨P653743, F654887, o654880, o654881, g654830, o654882, (D.2 1000 32), rfl, rfl, (rSub_rf (P := P653743)), hfr654892, he654890, he654891, (by omega), (by omega), bo654880, (gB_w bo654881 (by decide) (by decide)), bg654830, (by have qa0 : Int32.toInt 0 = 0 := (by decide); omega), (Or.inr (by omega)), (by have qa0 : Int32.toInt 0 = 0 := (by decide); omega), (by first | exact tP_no (by omega) (by omega) | assumption), x654886⟩
              · have r654893 : o654870.toInt = 0 := gj_eq hc654872 (show Int32.toInt 0 = 0 by decide)
                have bo654870' : gB o654870 0 0 := ⟨by omega, by omega⟩
                refine G_iload_n 0 dr_cX14_next_230 rfl ?_
                refine G_if_eq 242 dr_cX14_next_231 (by decide +kernel) (fun _ => ?_) (fun hc => absurd hc (by decide))
                refine G_aload_n 2 dr_cX14_next_242 rfl ?_
                refine G_iload_n 1 dr_cX14_next_243 rfl ?_
                refine Gw_callV (As := [.int z654854]) (gV_ok D I) (cp_650191_Reader_symbol l hl0 D I P653743 F654846 q653745 q653746 z654854 p653747 g654830 p653749 g654830 p653751 p653749 (D.2 1000 32) p653754 p653755 p653756 qo653757 qo653758 p653759 f653760 hmq653745 hmq653746 he654850 he654849 bz654854 bp653747 bg654830 bp653749 bg654830 bp653749 bp653754 bp653755 bp653756 bp653759 bf653760 (by have qa0 : Int32.toInt 0 = 0 := (by decide); omega) (by have qa0 : Int32.toInt 0 = 0 := (by decide); omega) x653762 x653763) dr_cX14_next_244 ⟨wr_8_223, wr_1_32, wr_8_226, by decide, rfl, (Nat.le_of_ble_eq_true rfl), (Nat.le_of_ble_eq_true rfl)⟩ wr_8_225 wr_p_78 hmq653745 he654850 rfl (show 0 + ((16 * (p653747.toInt - g654830.toInt)).toNat) ≤ ((16 * (p653747.toInt - p653748.toInt)).toNat) by first | omega | decide) (show 0 + ((160 * (p653747.toInt - g654830.toInt)).toNat) ≤ ((160 * (p653747.toInt - p653748.toInt)).toNat) by first | omega | decide) (Nat.le_of_ble_eq_true rfl) (fun r654897 w654898 dc654894 ds654895 hp654896 => ?_) (fun _ _ _ _ _ z => z.elim)
                obtain ⟨P654906, F654907, o654899, o654900, q654901, rfl, rfl, hsb654908, hfr654909, he654910, he654911, hdc, hds, bo654899, bo654900, x654902, x654903, x654904, x654905⟩ := hp654896
                have hm654912 : q653745 ∈ P654906 := hsb654908 q653745 hmq653745
                have hm654913 : q653746 ∈ P654906 := hsb654908 q653746 hmq653746
                have hsb654914 : rSub P653743 P654906 := rSub_tr (rSub_rf (P := P653743)) hsb654908
                have hfr654915 : rFr [q653745] P653743 F653744 F654907 := rFr_call (rSub_rf (P := P653743)) hfr654851 hfr654909 (fun b hb hn => ⟨(nm_c (fun e => hn (e ▸ List.mem_cons_self)) nm_n), (nm_c (fun e => hn (e ▸ List.mem_cons_self)) nm_n)⟩)
                change G _ _ _ _ _ _ _ _ _ _ _
                refine G_widen (cs' := (16 * (o654899.toInt - g654830.toInt)).toNat) (sl' := (160 * (o654899.toInt - g654830.toInt)).toNat) (by omega) (by omega) ?_
                exact G_vretA dr_cX14_next_247 rfl (show (16 * (o654899.toInt - g654830.toInt)).toNat ≤ ((16 * (p653747.toInt - p653748.toInt)).toNat) by omega) (show (160 * (o654899.toInt - g654830.toInt)).toNat ≤ ((160 * (p653747.toInt - p653748.toInt)).toNat) by omega) ⟨P654906, F654907, o654899, o654900, g654830, p653751, q654901, rfl, rfl, hsb654914, hfr654915, he654910, he654911, (by omega), (by omega), (gB_w bo654899 (by decide) (by decide)), (gB_w bo654900 (by decide) (by decide)), bg654830, (by have qa0 : Int32.toInt 0 = 0 := (by decide); omega), (Or.inr (by omega)), (by have qa0 : Int32.toInt 0 = 0 := (by decide); omega), x654904, x654905⟩
            · have r654916 : o654861.toInt ≠ 0 := gj_neq hc654863 (show Int32.toInt 0 = 0 by decide)
              have bo654861' : gB o654861 1 1 := ⟨by omega, by omega⟩
              have bi654917 : gB z654854 97 122 := isP_1 x654862 (by omega)
              refine G_aload_n 2 dr_cX14_next_216 rfl ?_
              refine Gw_callV (As := []) (gV_ok D I) (cp_651183_Reader_word l hl0 D I P653743 F654846 q653745 q653746 p653747 g654830 p653749 g654830 p653751 p653749 (D.2 1000 32) p653754 p653755 p653756 qo653757 qo653758 p653759 f653760 hmq653745 hmq653746 he654850 he654849 bp653747 bg654830 bp653749 bg654830 bp653749 bp653754 bp653755 bp653756 bp653759 bf653760 (by have qa0 : Int32.toInt 0 = 0 := (by decide); omega) (by have qa0 : Int32.toInt 0 = 0 := (by decide); omega) (by first | assumption | exact cLt_of (by assumption) (by omega) (by omega)) x653762 x653763) dr_cX14_next_217 ⟨wr_7_225, wr_1_32, wr_7_228, by decide, rfl, (Nat.le_of_ble_eq_true rfl), (Nat.le_of_ble_eq_true rfl)⟩ wr_7_227 wr_p_76 hmq653745 he654850 rfl (show 0 + ((16 * (p653747.toInt - g654830.toInt)).toNat) ≤ ((16 * (p653747.toInt - p653748.toInt)).toNat) by first | omega | decide) (show 0 + ((160 * (p653747.toInt - g654830.toInt)).toNat) ≤ ((160 * (p653747.toInt - p653748.toInt)).toNat) by first | omega | decide) (Nat.le_of_ble_eq_true rfl) (fun r654921 w654922 dc654918 ds654919 hp654920 => ?_) (fun _ _ _ _ _ z => z.elim)
              obtain ⟨P654931, F654932, o654923, o654924, o654925, q654926, rfl, rfl, hsb654933, hfr654934, he654935, he654936, hdc, hds, bo654923, bo654924, x654927, x654928, x654929, x654930⟩ := hp654920
              have hm654937 : q653745 ∈ P654931 := hsb654933 q653745 hmq653745
              have hm654938 : q653746 ∈ P654931 := hsb654933 q653746 hmq653746
              have hsb654939 : rSub P653743 P654931 := rSub_tr (rSub_rf (P := P653743)) hsb654933
              have hfr654940 : rFr [q653745] P653743 F653744 F654932 := rFr_call (rSub_rf (P := P653743)) hfr654851 hfr654934 (fun b hb hn => ⟨(nm_c (fun e => hn (e ▸ List.mem_cons_self)) nm_n), (nm_c (fun e => hn (e ▸ List.mem_cons_self)) nm_n)⟩)
              have bo654925 := gB_any o654925
              change G _ _ _ _ _ _ _ _ _ _ _
              refine G_widen (cs' := (16 * (o654923.toInt - g654830.toInt)).toNat) (sl' := (160 * (o654923.toInt - g654830.toInt)).toNat) (by omega) (by omega) ?_
              refine G_goto 247 dr_cX14_next_220 (by decide +kernel) ?_
              exact G_vretA dr_cX14_next_247 rfl (show (16 * (o654923.toInt - g654830.toInt)).toNat ≤ ((16 * (p653747.toInt - p653748.toInt)).toNat) by omega) (show (160 * (o654923.toInt - g654830.toInt)).toNat ≤ ((160 * (p653747.toInt - p653748.toInt)).toNat) by omega) ⟨P654931, F654932, o654923, o654924, g654830, o654925, q654926, rfl, rfl, hsb654939, hfr654940, he654935, he654936, (by omega), (by omega), bo654923, (gB_w bo654924 (by decide) (by decide)), bg654830, (by have qa0 : Int32.toInt 0 = 0 := (by decide); omega), (Or.inr (by omega)), (by have qa0 : Int32.toInt 0 = 0 := (by decide); omega), x654929, x654930⟩
          refine G_iload_n 0 dr_cX14_next_151 rfl ?_
          refine G_bipush 45 dr_cX14_next_152 (by decide +kernel) ?_
          refine G_icmp_ne 207 dr_cX14_next_154 (by decide +kernel) (fun hc654941 => ?_) (fun hc654941 => ?_)
          · have r654942 : z654854.toInt ≠ 45 := gj_neq hc654941 (show Int32.toInt 45 = 45 by decide)
            refine G_iconst 0 dr_cX14_next_207 (by decide +kernel) ?_
            refine G_istore_n (L' := [(2, .int 0), (1, .int z654854), (0, .ref q653745)]) dr_cX14_next_208 (Nat.le_of_ble_eq_true rfl) rfl ?_
            refine G_lv (L' := [(2, .int 0), (1, .int z654854), (0, .ref q653745)]) [0, 1, 2] rfl ?_
            exact jn654855
          · have r654943 : z654854.toInt = 45 := gj_eq hc654941 (show Int32.toInt 45 = 45 by decide)
            have bz654854' : gB z654854 45 45 := ⟨by omega, by omega⟩
            refine G_aload_n 1 dr_cX14_next_157 rfl ?_
            refine Gp_get 2 hmq653745 he654850 dr_cX14_next_158 (gk_X14 D I) (Nat.le_of_ble_eq_true rfl) wr_9_38 rfl ?_
            refine G_iconst 1 dr_cX14_next_161 (by decide +kernel) ?_
            refine G_iadd dr_cX14_next_162 (G_nam fun z654944 hz654944 => ?_)
            have ez654944 : z654944.toInt = g654830.toInt + 1 := by rw [gI_add hz654944 bg654830 (gBl (show Int32.toInt 1 = 1 by decide)) (by decide) (by decide), show Int32.toInt 1 = 1 from by decide]
            have bz654944 : gB z654944 1 8193 := gB_add (gI_add hz654944 bg654830 (gBl (show Int32.toInt 1 = 1 by decide)) (by decide) (by decide)) bg654830 (gBl (show Int32.toInt 1 = 1 by decide)) (by decide) (by decide)
            refine G_aload_n 1 dr_cX14_next_163 rfl ?_
            refine Gp_get 1 hmq653745 he654850 dr_cX14_next_164 (gk_X14 D I) (Nat.le_of_ble_eq_true rfl) wr_9_37 rfl ?_
            refine G_icmp_ge 207 dr_cX14_next_167 (by decide +kernel) (fun hc654945 => ?_) (fun hc654945 => ?_)
            · have r654946 : p653747.toInt ≤ z654944.toInt := gC_le hc654945
              refine G_iconst 0 dr_cX14_next_207 (by decide +kernel) ?_
              refine G_istore_n (L' := [(2, .int 0), (1, .int z654854), (0, .ref q653745)]) dr_cX14_next_208 (Nat.le_of_ble_eq_true rfl) rfl ?_
              refine G_lv (L' := [(2, .int 0), (1, .int z654854), (0, .ref q653745)]) [0, 1, 2] rfl ?_
              exact jn654855
            · have r654947 : z654944.toInt < p653747.toInt := gC_nle hc654945
              have bz654944' : gB z654944 1 8191 := ⟨by omega, by omega⟩
              have bp653747' : gB p653747 2 8192 := ⟨by omega, by omega⟩
              refine G_aload_n 1 dr_cX14_next_170 rfl ?_
              refine Gp_get 0 hmq653745 he654850 dr_cX14_next_171 (gk_X14 D I) (Nat.le_of_ble_eq_true rfl) wr_9_36 rfl ?_
              refine G_aload_n 1 dr_cX14_next_174 rfl ?_
              refine Gp_get 2 hmq653745 he654850 dr_cX14_next_175 (gk_X14 D I) (Nat.le_of_ble_eq_true rfl) wr_9_38 rfl ?_
              refine G_iconst 1 dr_cX14_next_178 (by decide +kernel) ?_
              refine G_iadd dr_cX14_next_179 (G_eqi (y := z654944) hz654944.symm ?_)
              refine Gp_bald 1 hmq653746 he654849 dr_cX14_next_180 rfl (gB_in bz654944' (by decide) (by decide)) (G_nam fun z654948 hz654948 => ?_)
              have bz654948 : gB z654948 (-128) 127 := by rw [hz654948]; exact bf653760 _
              refine Gw_callS (As := [.int z654948]) (gV_ok D I) (cp_649621_Reader_isDigit l hl0 D I P653743 F654846 z654948 ) dr_cX14_next_181 ⟨wr_7_219, wr_1_32, wr_7_221, by decide, rfl, (Nat.le_of_ble_eq_true rfl), (Nat.le_of_ble_eq_true rfl)⟩ wr_7_220 (show 0 + 0 ≤ ((16 * (p653747.toInt - p653748.toInt)).toNat) by first | omega | decide) (show 0 + 0 ≤ ((160 * (p653747.toInt - p653748.toInt)).toNat) by first | omega | decide) (Nat.le_of_ble_eq_true rfl) (fun r654952 w654953 dc654949 ds654950 hp654951 => ?_) (fun _ _ _ _ _ z => z.elim)
              obtain ⟨o654954, rfl, rfl, hdc, hds, bo654954, x654955⟩ := hp654951
              change G _ _ _ _ _ _ _ (.int o654954 :: _) _ _ _
              refine G_widen (cs' := 0) (sl' := 0) (by omega) (by omega) ?_
              refine G_if_eq 207 dr_cX14_next_184 (by decide +kernel) (fun hc654956 => ?_) (fun hc654956 => ?_)
              · have r654957 : o654954.toInt = 0 := gj_eq hc654956 (show Int32.toInt 0 = 0 by decide)
                have bo654954' : gB o654954 0 0 := ⟨by omega, by omega⟩
                refine G_iconst 0 dr_cX14_next_207 (by decide +kernel) ?_
                refine G_istore_n (L' := [(2, .int 0), (1, .int z654854), (0, .ref q653745)]) dr_cX14_next_208 (Nat.le_of_ble_eq_true rfl) rfl ?_
                refine G_lv (L' := [(2, .int 0), (1, .int z654854), (0, .ref q653745)]) [0, 1, 2] rfl ?_
                exact jn654855
              · have r654958 : o654954.toInt ≠ 0 := gj_neq hc654956 (show Int32.toInt 0 = 0 by decide)
                have bo654954' : gB o654954 1 1 := ⟨by omega, by omega⟩
                have bi654959 : gB z654948 48 57 := isP_1 x654955 (by omega)
                refine G_aload_n 1 dr_cX14_next_187 rfl ?_
                refine Gp_get 6 hmq653745 he654850 dr_cX14_next_188 (gk_X14 D I) (Nat.le_of_ble_eq_true rfl) wr_9_42 rfl ?_
                refine G_iconst 2 dr_cX14_next_191 (by decide +kernel) ?_
                refine G_icmp_eq 207 dr_cX14_next_192 (by decide +kernel) (fun hc654960 => ?_) (fun hc654960 => ?_)
                · have r654961 : p653749.toInt = 2 := gj_eq hc654960 (show Int32.toInt 2 = 2 by decide)
                  have bp653749' : gB p653749 2 2 := ⟨by omega, by omega⟩
                  refine G_iconst 0 dr_cX14_next_207 (by decide +kernel) ?_
                  refine G_istore_n (L' := [(2, .int 0), (1, .int z654854), (0, .ref q653745)]) dr_cX14_next_208 (Nat.le_of_ble_eq_true rfl) rfl ?_
                  refine G_lv (L' := [(2, .int 0), (1, .int z654854), (0, .ref q653745)]) [0, 1, 2] rfl ?_
                  exact jn654855
                · have r654962 : p653749.toInt ≠ 2 := gj_neq hc654960 (show Int32.toInt 2 = 2 by decide)
                  refine G_aload_n 1 dr_cX14_next_195 rfl ?_
                  refine Gp_get 6 hmq653745 he654850 dr_cX14_next_196 (gk_X14 D I) (Nat.le_of_ble_eq_true rfl) wr_9_42 rfl ?_
                  refine G_iconst 4 dr_cX14_next_199 (by decide +kernel) ?_
                  refine G_icmp_eq 207 dr_cX14_next_200 (by decide +kernel) (fun hc654963 => ?_) (fun hc654963 => ?_)
                  · have r654964 : p653749.toInt = 4 := gj_eq hc654963 (show Int32.toInt 4 = 4 by decide)
                    have bp653749' : gB p653749 4 4 := ⟨by omega, by omega⟩
                    refine G_iconst 0 dr_cX14_next_207 (by decide +kernel) ?_
                    refine G_istore_n (L' := [(2, .int 0), (1, .int z654854), (0, .ref q653745)]) dr_cX14_next_208 (Nat.le_of_ble_eq_true rfl) rfl ?_
                    refine G_lv (L' := [(2, .int 0), (1, .int z654854), (0, .ref q653745)]) [0, 1, 2] rfl ?_
                    exact jn654855
                  · have r654965 : p653749.toInt ≠ 4 := gj_neq hc654963 (show Int32.toInt 4 = 4 by decide)
                    refine G_iconst 1 dr_cX14_next_203 (by decide +kernel) ?_
                    refine G_goto 208 dr_cX14_next_204 (by decide +kernel) ?_
                    refine G_istore_n (L' := [(2, .int 1), (1, .int z654854), (0, .ref q653745)]) dr_cX14_next_208 (Nat.le_of_ble_eq_true rfl) rfl ?_
                    clear bz654854 jn654855 bz654944 bz654948 bo654954 bo654954'; try clear r654952; try clear w654953; try clear dc654949; try clear ds654950; try clear hp654951; try clear x654955; try clear r654958
                    refine G_iload_n 1 dr_cX14_next_209 rfl ?_
                    refine Gw_callS (As := [.int z654854]) (gV_ok D I) (cp_651520_Reader_isLetter l hl0 D I P653743 F654846 z654854 ) dr_cX14_next_210 ⟨wr_7_222, wr_1_32, wr_7_224, by decide, rfl, (Nat.le_of_ble_eq_true rfl), (Nat.le_of_ble_eq_true rfl)⟩ wr_7_223 (show 0 + 0 ≤ ((16 * (p653747.toInt - p653748.toInt)).toNat) by first | omega | decide) (show 0 + 0 ≤ ((160 * (p653747.toInt - p653748.toInt)).toNat) by first | omega | decide) (Nat.le_of_ble_eq_true rfl) (fun r654969 w654970 dc654966 ds654967 hp654968 => ?_) (fun _ _ _ _ _ z => z.elim)
                    obtain ⟨o654971, rfl, rfl, hdc, hds, bo654971, x654972⟩ := hp654968
                    change G _ _ _ _ _ _ _ (.int o654971 :: _) _ _ _
                    refine G_widen (cs' := 0) (sl' := 0) (by omega) (by omega) ?_
                    refine G_if_eq 223 dr_cX14_next_213 (by decide +kernel) (fun hc654973 => ?_) (fun hc654973 => ?_)
                    · have r654974 : o654971.toInt = 0 := gj_eq hc654973 (show Int32.toInt 0 = 0 by decide)
                      have bo654971' : gB o654971 0 0 := ⟨by omega, by omega⟩
                      clear bo654971 bo654971'; try clear r654969; try clear w654970; try clear dc654966; try clear ds654967; try clear hp654968; try clear x654972; try clear r654974
                      refine G_iload_n 1 dr_cX14_next_223 rfl ?_
                      refine Gw_callS (As := [.int z654854]) (gV_ok D I) (cp_649621_Reader_isDigit l hl0 D I P653743 F654846 z654854 ) dr_cX14_next_224 ⟨wr_7_219, wr_1_32, wr_7_221, by decide, rfl, (Nat.le_of_ble_eq_true rfl), (Nat.le_of_ble_eq_true rfl)⟩ wr_7_220 (show 0 + 0 ≤ ((16 * (p653747.toInt - p653748.toInt)).toNat) by first | omega | decide) (show 0 + 0 ≤ ((160 * (p653747.toInt - p653748.toInt)).toNat) by first | omega | decide) (Nat.le_of_ble_eq_true rfl) (fun r654978 w654979 dc654975 ds654976 hp654977 => ?_) (fun _ _ _ _ _ z => z.elim)
                      obtain ⟨o654980, rfl, rfl, hdc, hds, bo654980, x654981⟩ := hp654977
                      change G _ _ _ _ _ _ _ (.int o654980 :: _) _ _ _
                      refine G_widen (cs' := 0) (sl' := 0) (by omega) (by omega) ?_
                      refine G_if_ne 234 dr_cX14_next_227 (by decide +kernel) (fun hc654982 => ?_) (fun hc654982 => ?_)
                      · have r654983 : o654980.toInt ≠ 0 := gj_neq hc654982 (show Int32.toInt 0 = 0 by decide)
                        have bo654980' : gB o654980 1 1 := ⟨by omega, by omega⟩
                        have bi654984 : gB z654854 48 57 := isP_1 x654981 (by omega)
                        refine G_aload_n 2 dr_cX14_next_234 rfl ?_
                        refine G_iload_n 0 dr_cX14_next_235 rfl ?_
                        refine Gw_callV (As := [.int 1]) (gV_ok D I) (cp_649585_Reader_number l hl0 D I P653743 F654846 q653745 q653746 1 p653747 g654830 p653749 g654830 p653751 p653749 (D.2 1000 32) p653754 p653755 p653756 qo653757 qo653758 p653759 f653760 hmq653745 hmq653746 he654850 he654849 (gB_w (gBl (show Int32.toInt 1 = 1 by decide)) (by decide) (by decide)) (gB_w bp653747' (by decide) (by decide)) bg654830 bp653749 bg654830 bp653749 bp653754 bp653755 bp653756 bp653759 bf653760 (by have qa0 : Int32.toInt 1 = 1 := (by decide); omega) (by have qa0 : Int32.toInt 1 = 1 := (by decide); omega) (by first | assumption | exact cDg_no (by omega) | exact cDg_no (by decide) | exact cDg_of (by assumption) (by omega) (by omega)) x653762 x653763) dr_cX14_next_236 ⟨wr_8_218, wr_1_32, wr_8_221, by decide, rfl, (Nat.le_of_ble_eq_true rfl), (Nat.le_of_ble_eq_true rfl)⟩ wr_8_220 wr_p_77 hmq653745 he654850 rfl (show 0 + ((16 * (p653747.toInt - g654830.toInt)).toNat) ≤ ((16 * (p653747.toInt - p653748.toInt)).toNat) by first | omega | decide) (show 0 + ((160 * (p653747.toInt - g654830.toInt)).toNat) ≤ ((160 * (p653747.toInt - p653748.toInt)).toNat) by first | omega | decide) (Nat.le_of_ble_eq_true rfl) (fun r654988 w654989 dc654985 ds654986 hp654987 => ?_) (fun _ _ _ _ _ z => z.elim)
                        obtain ⟨F654997, o654990, o654991, o654992, rfl, rfl, hfr654999, he655000, he655001, hdc, hds, bo654990, bo654991, x654993, x654994, x654995, x654996⟩ := hp654987
                        have hfr655002 : rFr [q653745] P653743 F653744 F654997 := rFr_call (rSub_rf (P := P653743)) hfr654851 hfr654999 (fun b hb hn => ⟨(nm_c (fun e => hn (e ▸ List.mem_cons_self)) nm_n), (nm_c (fun e => hn (e ▸ List.mem_cons_self)) nm_n)⟩)
                        have bo654992 := gB_any o654992
                        change G _ _ _ _ _ _ _ _ _ _ _
                        refine G_widen (cs' := (16 * (o654990.toInt - g654830.toInt)).toNat) (sl' := (160 * (o654990.toInt - g654830.toInt)).toNat) (by omega) (by omega) ?_
                        refine G_goto 247 dr_cX14_next_239 (by decide +kernel) ?_
                        exact G_vretA dr_cX14_next_247 rfl (show (16 * (o654990.toInt - g654830.toInt)).toNat ≤ ((16 * (p653747.toInt - p653748.toInt)).toNat) by omega) (show (160 * (o654990.toInt - g654830.toInt)).toNat ≤ ((160 * (p653747.toInt - p653748.toInt)).toNat) by omega) ⟨P653743, F654997, o654990, o654991, g654830, o654992, (D.2 1000 32), rfl, rfl, (rSub_rf (P := P653743)), hfr655002, he655000, he655001, (by omega), (by omega), bo654990, (gB_w bo654991 (by decide) (by decide)), bg654830, (by have qa0 : Int32.toInt 1 = 1 := (by decide); omega), (Or.inr (by omega)), (by have qa0 : Int32.toInt 1 = 1 := (by decide); omega), (by first | exact tP_no (by omega) (by omega) | assumption), x654996⟩
                      · have r655003 : o654980.toInt = 0 := gj_eq hc654982 (show Int32.toInt 0 = 0 by decide)
                        have bo654980' : gB o654980 0 0 := ⟨by omega, by omega⟩
                        refine G_iload_n 0 dr_cX14_next_230 rfl ?_
                        refine G_if_eq 242 dr_cX14_next_231 (by decide +kernel) (fun hc => absurd hc (by decide)) (fun _ => ?_)
                        refine G_aload_n 2 dr_cX14_next_234 rfl ?_
                        refine G_iload_n 0 dr_cX14_next_235 rfl ?_
                        refine Gw_callV (As := [.int 1]) (gV_ok D I) (cp_649585_Reader_number l hl0 D I P653743 F654846 q653745 q653746 1 p653747 g654830 p653749 g654830 p653751 p653749 (D.2 1000 32) p653754 p653755 p653756 qo653757 qo653758 p653759 f653760 hmq653745 hmq653746 he654850 he654849 (gB_w (gBl (show Int32.toInt 1 = 1 by decide)) (by decide) (by decide)) (gB_w bp653747' (by decide) (by decide)) bg654830 bp653749 bg654830 bp653749 bp653754 bp653755 bp653756 bp653759 bf653760 (by have qa0 : Int32.toInt 1 = 1 := (by decide); omega) (by have qa0 : Int32.toInt 1 = 1 := (by decide); omega) (by first | assumption | exact cDg_no (by omega) | exact cDg_no (by decide) | exact cDg_of (by assumption) (by omega) (by omega)) x653762 x653763) dr_cX14_next_236 ⟨wr_8_218, wr_1_32, wr_8_221, by decide, rfl, (Nat.le_of_ble_eq_true rfl), (Nat.le_of_ble_eq_true rfl)⟩ wr_8_220 wr_p_77 hmq653745 he654850 rfl (show 0 + ((16 * (p653747.toInt - g654830.toInt)).toNat) ≤ ((16 * (p653747.toInt - p653748.toInt)).toNat) by first | omega | decide) (show 0 + ((160 * (p653747.toInt - g654830.toInt)).toNat) ≤ ((160 * (p653747.toInt - p653748.toInt)).toNat) by first | omega | decide) (Nat.le_of_ble_eq_true rfl) (fun r655007 w655008 dc655004 ds655005 hp655006 => ?_) (fun _ _ _ _ _ z => z.elim)
                        obtain ⟨F655016, o655009, o655010, o655011, rfl, rfl, hfr655018, he655019, he655020, hdc, hds, bo655009, bo655010, x655012, x655013, x655014, x655015⟩ := hp655006
                        have hfr655021 : rFr [q653745] P653743 F653744 F655016 := rFr_call (rSub_rf (P := P653743)) hfr654851 hfr655018 (fun b hb hn => ⟨(nm_c (fun e => hn (e ▸ List.mem_cons_self)) nm_n), (nm_c (fun e => hn (e ▸ List.mem_cons_self)) nm_n)⟩)
                        have bo655011 := gB_any o655011
                        change G _ _ _ _ _ _ _ _ _ _ _
                        refine G_widen (cs' := (16 * (o655009.toInt - g654830.toInt)).toNat) (sl' := (160 * (o655009.toInt - g654830.toInt)).toNat) (by omega) (by omega) ?_
                        refine G_goto 247 dr_cX14_next_239 (by decide +kernel) ?_
                        exact G_vretA dr_cX14_next_247 rfl (show (16 * (o655009.toInt - g654830.toInt)).toNat ≤ ((16 * (p653747.toInt - p653748.toInt)).toNat) by omega) (show (160 * (o655009.toInt - g654830.toInt)).toNat ≤ ((160 * (p653747.toInt - p653748.toInt)).toNat) by omega) ⟨P653743, F655016, o655009, o655010, g654830, o655011, (D.2 1000 32), rfl, rfl, (rSub_rf (P := P653743)), hfr655021, he655019, he655020, (by omega), (by omega), bo655009, (gB_w bo655010 (by decide) (by decide)), bg654830, (by have qa0 : Int32.toInt 1 = 1 := (by decide); omega), (Or.inr (by omega)), (by have qa0 : Int32.toInt 1 = 1 := (by decide); omega), (by first | exact tP_no (by omega) (by omega) | assumption), x655015⟩
                    · have r655022 : o654971.toInt ≠ 0 := gj_neq hc654973 (show Int32.toInt 0 = 0 by decide)
                      have bo654971' : gB o654971 1 1 := ⟨by omega, by omega⟩
                      have bi655023 : gB z654854 97 122 := isP_1 x654972 (by omega)
                      refine G_aload_n 2 dr_cX14_next_216 rfl ?_
                      refine Gw_callV (As := []) (gV_ok D I) (cp_651183_Reader_word l hl0 D I P653743 F654846 q653745 q653746 p653747 g654830 p653749 g654830 p653751 p653749 (D.2 1000 32) p653754 p653755 p653756 qo653757 qo653758 p653759 f653760 hmq653745 hmq653746 he654850 he654849 (gB_w bp653747' (by decide) (by decide)) bg654830 bp653749 bg654830 bp653749 bp653754 bp653755 bp653756 bp653759 bf653760 (by have qa0 : Int32.toInt 1 = 1 := (by decide); omega) (by have qa0 : Int32.toInt 1 = 1 := (by decide); omega) (by first | assumption | exact cLt_of (by assumption) (by omega) (by omega)) x653762 x653763) dr_cX14_next_217 ⟨wr_7_225, wr_1_32, wr_7_228, by decide, rfl, (Nat.le_of_ble_eq_true rfl), (Nat.le_of_ble_eq_true rfl)⟩ wr_7_227 wr_p_76 hmq653745 he654850 rfl (show 0 + ((16 * (p653747.toInt - g654830.toInt)).toNat) ≤ ((16 * (p653747.toInt - p653748.toInt)).toNat) by first | omega | decide) (show 0 + ((160 * (p653747.toInt - g654830.toInt)).toNat) ≤ ((160 * (p653747.toInt - p653748.toInt)).toNat) by first | omega | decide) (Nat.le_of_ble_eq_true rfl) (fun r655027 w655028 dc655024 ds655025 hp655026 => ?_) (fun _ _ _ _ _ z => z.elim)
                      obtain ⟨P655037, F655038, o655029, o655030, o655031, q655032, rfl, rfl, hsb655039, hfr655040, he655041, he655042, hdc, hds, bo655029, bo655030, x655033, x655034, x655035, x655036⟩ := hp655026
                      have hm655043 : q653745 ∈ P655037 := hsb655039 q653745 hmq653745
                      have hm655044 : q653746 ∈ P655037 := hsb655039 q653746 hmq653746
                      have hsb655045 : rSub P653743 P655037 := rSub_tr (rSub_rf (P := P653743)) hsb655039
                      have hfr655046 : rFr [q653745] P653743 F653744 F655038 := rFr_call (rSub_rf (P := P653743)) hfr654851 hfr655040 (fun b hb hn => ⟨(nm_c (fun e => hn (e ▸ List.mem_cons_self)) nm_n), (nm_c (fun e => hn (e ▸ List.mem_cons_self)) nm_n)⟩)
                      have bo655031 := gB_any o655031
                      change G _ _ _ _ _ _ _ _ _ _ _
                      refine G_widen (cs' := (16 * (o655029.toInt - g654830.toInt)).toNat) (sl' := (160 * (o655029.toInt - g654830.toInt)).toNat) (by omega) (by omega) ?_
                      refine G_goto 247 dr_cX14_next_220 (by decide +kernel) ?_
                      exact G_vretA dr_cX14_next_247 rfl (show (16 * (o655029.toInt - g654830.toInt)).toNat ≤ ((16 * (p653747.toInt - p653748.toInt)).toNat) by omega) (show (160 * (o655029.toInt - g654830.toInt)).toNat ≤ ((160 * (p653747.toInt - p653748.toInt)).toNat) by omega) ⟨P655037, F655038, o655029, o655030, g654830, o655031, q655032, rfl, rfl, hsb655045, hfr655046, he655041, he655042, (by omega), (by omega), bo655029, (gB_w bo655030 (by decide) (by decide)), bg654830, (by have qa0 : Int32.toInt 1 = 1 := (by decide); omega), (Or.inr (by omega)), (by have qa0 : Int32.toInt 1 = 1 := (by decide); omega), x655035, x655036⟩
        · have r655047 : g654830.toInt = p653747.toInt := gC_eq hc654852
          refine G_aload_n 0 dr_cX14_next_135 rfl ?_
          refine G_iconst 0 dr_cX14_next_136 (by decide +kernel) ?_
          refine Gp_put 3 hmq653745 he654850 dr_cX14_next_137 (gk_X14 D I) (Nat.le_of_ble_eq_true rfl) wr_9_39 rfl rfl rfl (Nat.le_of_ble_eq_true rfl) (fun F655048 e655049 n655050 => ?_)
          have he655051 : F655048 q653746 = .inl (I .byte, 8192, .inl f653760) := (n655050 q653746 (rn_ao he654849 he654850)).trans he654849
          have he655052 : F655048 q653745 = .inr (19, [.ref q653746, .int p653747, .int g654830, .int 0, .int g654830, .int p653751, .int p653749, .ref (D.2 1000 32), .int p653754, .int p653755, .int p653756, .ref qo653757, .ref qo653758, .int p653759]) := e655049
          have hfr655053 : rFr [q653745] P653743 F653744 F655048 := rFr_put' List.mem_cons_self hfr654851 n655050
          exact G_vretA dr_cX14_next_140 rfl (show 0 ≤ ((16 * (p653747.toInt - p653748.toInt)).toNat) by omega) (show 0 ≤ ((160 * (p653747.toInt - p653748.toInt)).toNat) by omega) ⟨P653743, F655048, g654830, 0, g654830, p653751, (D.2 1000 32), rfl, rfl, (rSub_rf (P := P653743)), hfr655053, he655052, he655051, (by omega), (by omega), bg654830, (gB_w (gBl (show Int32.toInt 0 = 0 by decide)) (by decide) (by decide)), bg654830, (by have qa0 : Int32.toInt 0 = 0 := (by decide); omega), (Or.inl (by decide)), (by have qa0 : Int32.toInt 0 = 0 := (by decide); omega), (tP_no (by decide) (by decide)), (vP_no (by decide) (by decide))⟩
      · have r655054 : g654830.toInt < p653747.toInt := gC_nle hc654837
        have bg654830' : gB g654830 0 8191 := ⟨by omega, by omega⟩
        have bp653747' : gB p653747 1 8192 := ⟨by omega, by omega⟩
        refine G_aload_n 0 dr_cX14_next_19 rfl ?_
        refine Gp_get 0 hmq653745 he654832 dr_cX14_next_20 (gk_X14 D I) (Nat.le_of_ble_eq_true rfl) wr_9_36 rfl ?_
        refine G_aload_n 0 dr_cX14_next_23 rfl ?_
        refine Gp_get 2 hmq653745 he654832 dr_cX14_next_24 (gk_X14 D I) (Nat.le_of_ble_eq_true rfl) wr_9_38 rfl ?_
        refine Gp_bald 1 hmq653746 he654833 dr_cX14_next_27 rfl (gB_in bg654830' (by decide) (by decide)) (G_nam fun z655055 hz655055 => ?_)
        have bz655055 : gB z655055 (-128) 127 := by rw [hz655055]; exact bf653760 _
        refine G_istore_n (L' := [(1, .int z655055), (0, .ref q653745)]) dr_cX14_next_28 (Nat.le_of_ble_eq_true rfl) rfl ?_
        refine G_iload_n 0 dr_cX14_next_29 rfl ?_
        refine G_bipush 59 dr_cX14_next_30 (by decide +kernel) ?_
        refine G_icmp_ne 73 dr_cX14_next_32 (by decide +kernel) (fun hc655056 => ?_) (fun hc655056 => ?_)
        · have r655057 : z655055.toInt ≠ 59 := gj_neq hc655056 (show Int32.toInt 59 = 59 by decide)
          refine G_iload_n 0 dr_cX14_next_73 rfl ?_
          refine G_bipush 9 dr_cX14_next_74 (by decide +kernel) ?_
          refine G_icmp_eq 97 dr_cX14_next_76 (by decide +kernel) (fun hc655058 => ?_) (fun hc655058 => ?_)
          · have r655059 : z655055.toInt = 9 := gj_eq hc655058 (show Int32.toInt 9 = 9 by decide)
            have bz655055' : gB z655055 9 9 := ⟨by omega, by omega⟩
            refine G_aload_n 1 dr_cX14_next_97 rfl ?_
            refine G_dup dr_cX14_next_98 rfl ?_
            refine Gp_get 2 hmq653745 he654832 dr_cX14_next_99 (gk_X14 D I) (Nat.le_of_ble_eq_true rfl) wr_9_38 rfl ?_
            refine G_iconst 1 dr_cX14_next_102 (by decide +kernel) ?_
            refine G_iadd dr_cX14_next_103 (G_nam fun z655060 hz655060 => ?_)
            have ez655060 : z655060.toInt = g654830.toInt + 1 := by rw [gI_add hz655060 bg654830' (gBl (show Int32.toInt 1 = 1 by decide)) (by decide) (by decide), show Int32.toInt 1 = 1 from by decide]
            have bz655060 : gB z655060 1 8192 := gB_add (gI_add hz655060 bg654830' (gBl (show Int32.toInt 1 = 1 by decide)) (by decide) (by decide)) bg654830' (gBl (show Int32.toInt 1 = 1 by decide)) (by decide) (by decide)
            refine Gp_put 2 hmq653745 he654832 dr_cX14_next_104 (gk_X14 D I) (Nat.le_of_ble_eq_true rfl) wr_9_38 rfl rfl rfl (Nat.le_of_ble_eq_true rfl) (fun F655061 e655062 n655063 => ?_)
            have he655064 : F655061 q653746 = .inl (I .byte, 8192, .inl f653760) := (n655063 q653746 (rn_ao he654833 he654832)).trans he654833
            have he655065 : F655061 q653745 = .inr (19, [.ref q653746, .int p653747, .int z655060, .int p653749, .int p653750, .int p653751, .int p653749, .ref qo653753, .int p653754, .int p653755, .int p653756, .ref qo653757, .ref qo653758, .int p653759]) := e655062
            have hfr655066 : rFr [q653745] P653743 F653744 F655061 := rFr_put' List.mem_cons_self hfr654834 n655063
            have x655067 : g654830.toInt < z655060.toInt := by first | omega | exact chNe (a := g654830) (b := z655060) (by assumption) (by assumption) (by omega) (by omega)
            refine G_goto 8 dr_cX14_next_107 (by decide +kernel) ?_
            refine G_lv (L' := [(0, .ref q653745)]) [1] rfl ?_
            exact ih8_654836 F655061 z655060 (gB_w bz655060 (by decide) (by decide)) hfr655066 he655065 he655064 (by omega) (by omega) (by omega)
          · have r655068 : z655055.toInt ≠ 9 := gj_neq hc655058 (show Int32.toInt 9 = 9 by decide)
            refine G_iload_n 0 dr_cX14_next_79 rfl ?_
            refine G_bipush 10 dr_cX14_next_80 (by decide +kernel) ?_
            refine G_icmp_eq 97 dr_cX14_next_82 (by decide +kernel) (fun hc655069 => ?_) (fun hc655069 => ?_)
            · have r655070 : z655055.toInt = 10 := gj_eq hc655069 (show Int32.toInt 10 = 10 by decide)
              have bz655055' : gB z655055 10 10 := ⟨by omega, by omega⟩
              refine G_aload_n 1 dr_cX14_next_97 rfl ?_
              refine G_dup dr_cX14_next_98 rfl ?_
              refine Gp_get 2 hmq653745 he654832 dr_cX14_next_99 (gk_X14 D I) (Nat.le_of_ble_eq_true rfl) wr_9_38 rfl ?_
              refine G_iconst 1 dr_cX14_next_102 (by decide +kernel) ?_
              refine G_iadd dr_cX14_next_103 (G_nam fun z655071 hz655071 => ?_)
              have ez655071 : z655071.toInt = g654830.toInt + 1 := by rw [gI_add hz655071 bg654830' (gBl (show Int32.toInt 1 = 1 by decide)) (by decide) (by decide), show Int32.toInt 1 = 1 from by decide]
              have bz655071 : gB z655071 1 8192 := gB_add (gI_add hz655071 bg654830' (gBl (show Int32.toInt 1 = 1 by decide)) (by decide) (by decide)) bg654830' (gBl (show Int32.toInt 1 = 1 by decide)) (by decide) (by decide)
              refine Gp_put 2 hmq653745 he654832 dr_cX14_next_104 (gk_X14 D I) (Nat.le_of_ble_eq_true rfl) wr_9_38 rfl rfl rfl (Nat.le_of_ble_eq_true rfl) (fun F655072 e655073 n655074 => ?_)
              have he655075 : F655072 q653746 = .inl (I .byte, 8192, .inl f653760) := (n655074 q653746 (rn_ao he654833 he654832)).trans he654833
              have he655076 : F655072 q653745 = .inr (19, [.ref q653746, .int p653747, .int z655071, .int p653749, .int p653750, .int p653751, .int p653749, .ref qo653753, .int p653754, .int p653755, .int p653756, .ref qo653757, .ref qo653758, .int p653759]) := e655073
              have hfr655077 : rFr [q653745] P653743 F653744 F655072 := rFr_put' List.mem_cons_self hfr654834 n655074
              have x655078 : g654830.toInt < z655071.toInt := by first | omega | exact chNe (a := g654830) (b := z655071) (by assumption) (by assumption) (by omega) (by omega)
              refine G_goto 8 dr_cX14_next_107 (by decide +kernel) ?_
              refine G_lv (L' := [(0, .ref q653745)]) [1] rfl ?_
              exact ih8_654836 F655072 z655071 (gB_w bz655071 (by decide) (by decide)) hfr655077 he655076 he655075 (by omega) (by omega) (by omega)
            · have r655079 : z655055.toInt ≠ 10 := gj_neq hc655069 (show Int32.toInt 10 = 10 by decide)
              refine G_iload_n 0 dr_cX14_next_85 rfl ?_
              refine G_bipush 13 dr_cX14_next_86 (by decide +kernel) ?_
              refine G_icmp_eq 97 dr_cX14_next_88 (by decide +kernel) (fun hc655080 => ?_) (fun hc655080 => ?_)
              · have r655081 : z655055.toInt = 13 := gj_eq hc655080 (show Int32.toInt 13 = 13 by decide)
                have bz655055' : gB z655055 13 13 := ⟨by omega, by omega⟩
                refine G_aload_n 1 dr_cX14_next_97 rfl ?_
                refine G_dup dr_cX14_next_98 rfl ?_
                refine Gp_get 2 hmq653745 he654832 dr_cX14_next_99 (gk_X14 D I) (Nat.le_of_ble_eq_true rfl) wr_9_38 rfl ?_
                refine G_iconst 1 dr_cX14_next_102 (by decide +kernel) ?_
                refine G_iadd dr_cX14_next_103 (G_nam fun z655082 hz655082 => ?_)
                have ez655082 : z655082.toInt = g654830.toInt + 1 := by rw [gI_add hz655082 bg654830' (gBl (show Int32.toInt 1 = 1 by decide)) (by decide) (by decide), show Int32.toInt 1 = 1 from by decide]
                have bz655082 : gB z655082 1 8192 := gB_add (gI_add hz655082 bg654830' (gBl (show Int32.toInt 1 = 1 by decide)) (by decide) (by decide)) bg654830' (gBl (show Int32.toInt 1 = 1 by decide)) (by decide) (by decide)
                refine Gp_put 2 hmq653745 he654832 dr_cX14_next_104 (gk_X14 D I) (Nat.le_of_ble_eq_true rfl) wr_9_38 rfl rfl rfl (Nat.le_of_ble_eq_true rfl) (fun F655083 e655084 n655085 => ?_)
                have he655086 : F655083 q653746 = .inl (I .byte, 8192, .inl f653760) := (n655085 q653746 (rn_ao he654833 he654832)).trans he654833
                have he655087 : F655083 q653745 = .inr (19, [.ref q653746, .int p653747, .int z655082, .int p653749, .int p653750, .int p653751, .int p653749, .ref qo653753, .int p653754, .int p653755, .int p653756, .ref qo653757, .ref qo653758, .int p653759]) := e655084
                have hfr655088 : rFr [q653745] P653743 F653744 F655083 := rFr_put' List.mem_cons_self hfr654834 n655085
                have x655089 : g654830.toInt < z655082.toInt := by first | omega | exact chNe (a := g654830) (b := z655082) (by assumption) (by assumption) (by omega) (by omega)
                refine G_goto 8 dr_cX14_next_107 (by decide +kernel) ?_
                refine G_lv (L' := [(0, .ref q653745)]) [1] rfl ?_
                exact ih8_654836 F655083 z655082 (gB_w bz655082 (by decide) (by decide)) hfr655088 he655087 he655086 (by omega) (by omega) (by omega)
              · have r655090 : z655055.toInt ≠ 13 := gj_neq hc655080 (show Int32.toInt 13 = 13 by decide)
                refine G_iload_n 0 dr_cX14_next_91 rfl ?_
                refine G_bipush 32 dr_cX14_next_92 (by decide +kernel) ?_
                refine G_icmp_ne 110 dr_cX14_next_94 (by decide +kernel) (fun hc655091 => ?_) (fun hc655091 => ?_)
                · have r655092 : z655055.toInt ≠ 32 := gj_neq hc655091 (show Int32.toInt 32 = 32 by decide)
                  clear he653768 he653769 hfr653770
                  refine G_aload_n 1 dr_cX14_next_110 rfl ?_
                  refine G_aload_n 1 dr_cX14_next_111 rfl ?_
                  refine Gp_get 2 hmq653745 he654832 dr_cX14_next_112 (gk_X14 D I) (Nat.le_of_ble_eq_true rfl) wr_9_38 rfl ?_
                  refine Gp_put 4 hmq653745 he654832 dr_cX14_next_115 (gk_X14 D I) (Nat.le_of_ble_eq_true rfl) wr_9_40 rfl rfl rfl (Nat.le_of_ble_eq_true rfl) (fun F655093 e655094 n655095 => ?_)
                  have he655096 : F655093 q653746 = .inl (I .byte, 8192, .inl f653760) := (n655095 q653746 (rn_ao he654833 he654832)).trans he654833
                  have he655097 : F655093 q653745 = .inr (19, [.ref q653746, .int p653747, .int g654830, .int p653749, .int g654830, .int p653751, .int p653749, .ref qo653753, .int p653754, .int p653755, .int p653756, .ref qo653757, .ref qo653758, .int p653759]) := e655094
                  have hfr655098 : rFr [q653745] P653743 F653744 F655093 := rFr_put' List.mem_cons_self hfr654834 n655095
                  refine G_aload_n 1 dr_cX14_next_118 rfl ?_
                  refine G_ldcK (a := D.2 1000 32) dr_cX14_next_119 (fun _ _ _ h => gx_vk 32 rfl rfl h) ?_
                  have hl32_655098 : (sb_32.length : Int) = 0 := rfl
                  refine Gp_put 7 hmq653745 he655097 dr_cX14_next_121 (gk_X14 D I) (Nat.le_of_ble_eq_true rfl) wr_9_43 rfl rfl rfl (Nat.le_of_ble_eq_true rfl) (fun F655100 e655101 n655102 => ?_)
                  have he655103 : F655100 q653746 = .inl (I .byte, 8192, .inl f653760) := (n655102 q653746 (rn_ao he655096 he655097)).trans he655096
                  have he655104 : F655100 q653745 = .inr (19, [.ref q653746, .int p653747, .int g654830, .int p653749, .int g654830, .int p653751, .int p653749, .ref (D.2 1000 32), .int p653754, .int p653755, .int p653756, .ref qo653757, .ref qo653758, .int p653759]) := e655101
                  have hfr655105 : rFr [q653745] P653743 F653744 F655100 := rFr_put' List.mem_cons_self hfr655098 n655102
                  clear he655096 he655097 hfr655098
                  refine G_aload_n 1 dr_cX14_next_124 rfl ?_
                  refine Gp_get 2 hmq653745 he655104 dr_cX14_next_125 (gk_X14 D I) (Nat.le_of_ble_eq_true rfl) wr_9_38 rfl ?_
                  refine G_aload_n 1 dr_cX14_next_128 rfl ?_
                  refine Gp_get 1 hmq653745 he655104 dr_cX14_next_129 (gk_X14 D I) (Nat.le_of_ble_eq_true rfl) wr_9_37 rfl ?_
                  refine G_icmp_ne 141 dr_cX14_next_132 (by decide +kernel) (fun hc655106 => ?_) (fun hc655106 => ?_)
                  · have r655107 : g654830.toInt ≠ p653747.toInt := gC_ne hc655106
                    refine G_aload_n 1 dr_cX14_next_141 rfl ?_
                    refine Gp_get 0 hmq653745 he655104 dr_cX14_next_142 (gk_X14 D I) (Nat.le_of_ble_eq_true rfl) wr_9_36 rfl ?_
                    refine G_aload_n 1 dr_cX14_next_145 rfl ?_
                    refine Gp_get 2 hmq653745 he655104 dr_cX14_next_146 (gk_X14 D I) (Nat.le_of_ble_eq_true rfl) wr_9_38 rfl ?_
                    refine Gp_bald 1 hmq653746 he655103 dr_cX14_next_149 rfl (gB_in bg654830' (by decide) (by decide)) (G_eqi (y := z655055) hz655055.symm ?_)
                    refine G_istore_n (L' := [(1, .int z655055), (0, .ref q653745)]) dr_cX14_next_150 (Nat.le_of_ble_eq_true rfl) rfl ?_
                    have jn655108 : G (gV D I) l (gRm 7 155 ((16 * (p653747.toInt - p653748.toInt)).toNat) ((160 * (p653747.toInt - p653748.toInt)).toNat)) (gMA (gV D I) (pp_653764_Reader_next D I P653743 F653744 q653745 q653746 p653747 p653748 p653749 p653750 p653751 p653752 qo653753 p653754 p653755 p653756 qo653757 qo653758 p653759 f653760) gNA ((16 * (p653747.toInt - p653748.toInt)).toNat) ((160 * (p653747.toInt - p653748.toInt)).toNat)) ky_653764_Reader_next 209 [(2, .int 0), (1, .int z655055), (0, .ref q653745)] [] (va_pl P653743 F655100) 0 0 := by
                      refine G_iload_n 1 dr_cX14_next_209 rfl ?_
                      refine Gw_callS (As := [.int z655055]) (gV_ok D I) (cp_651520_Reader_isLetter l hl0 D I P653743 F655100 z655055 ) dr_cX14_next_210 ⟨wr_7_222, wr_1_32, wr_7_224, by decide, rfl, (Nat.le_of_ble_eq_true rfl), (Nat.le_of_ble_eq_true rfl)⟩ wr_7_223 (show 0 + 0 ≤ ((16 * (p653747.toInt - p653748.toInt)).toNat) by first | omega | decide) (show 0 + 0 ≤ ((160 * (p653747.toInt - p653748.toInt)).toNat) by first | omega | decide) (Nat.le_of_ble_eq_true rfl) (fun r655112 w655113 dc655109 ds655110 hp655111 => ?_) (fun _ _ _ _ _ z => z.elim)
                      obtain ⟨o655114, rfl, rfl, hdc, hds, bo655114, x655115⟩ := hp655111
                      change G _ _ _ _ _ _ _ (.int o655114 :: _) _ _ _
                      refine G_widen (cs' := 0) (sl' := 0) (by omega) (by omega) ?_
                      refine G_if_eq 223 dr_cX14_next_213 (by decide +kernel) (fun hc655116 => ?_) (fun hc655116 => ?_)
                      · have r655117 : o655114.toInt = 0 := gj_eq hc655116 (show Int32.toInt 0 = 0 by decide)
                        have bo655114' : gB o655114 0 0 := ⟨by omega, by omega⟩
                        clear bo655114 bo655114'; try clear r655112; try clear w655113; try clear dc655109; try clear ds655110; try clear hp655111; try clear x655115; try clear r655117
                        refine G_iload_n 1 dr_cX14_next_223 rfl ?_
                        refine Gw_callS (As := [.int z655055]) (gV_ok D I) (cp_649621_Reader_isDigit l hl0 D I P653743 F655100 z655055 ) dr_cX14_next_224 ⟨wr_7_219, wr_1_32, wr_7_221, by decide, rfl, (Nat.le_of_ble_eq_true rfl), (Nat.le_of_ble_eq_true rfl)⟩ wr_7_220 (show 0 + 0 ≤ ((16 * (p653747.toInt - p653748.toInt)).toNat) by first | omega | decide) (show 0 + 0 ≤ ((160 * (p653747.toInt - p653748.toInt)).toNat) by first | omega | decide) (Nat.le_of_ble_eq_true rfl) (fun r655121 w655122 dc655118 ds655119 hp655120 => ?_) (fun _ _ _ _ _ z => z.elim)
                        obtain ⟨o655123, rfl, rfl, hdc, hds, bo655123, x655124⟩ := hp655120
                        change G _ _ _ _ _ _ _ (.int o655123 :: _) _ _ _
                        refine G_widen (cs' := 0) (sl' := 0) (by omega) (by omega) ?_
                        refine G_if_ne 234 dr_cX14_next_227 (by decide +kernel) (fun hc655125 => ?_) (fun hc655125 => ?_)
                        · have r655126 : o655123.toInt ≠ 0 := gj_neq hc655125 (show Int32.toInt 0 = 0 by decide)
                          have bo655123' : gB o655123 1 1 := ⟨by omega, by omega⟩
                          have bi655127 : gB z655055 48 57 := isP_1 x655124 (by omega)
                          refine G_aload_n 2 dr_cX14_next_234 rfl ?_
                          refine G_iload_n 0 dr_cX14_next_235 rfl ?_
                          refine Gw_callV (As := [.int 0]) (gV_ok D I) (cp_649585_Reader_number l hl0 D I P653743 F655100 q653745 q653746 0 p653747 g654830 p653749 g654830 p653751 p653749 (D.2 1000 32) p653754 p653755 p653756 qo653757 qo653758 p653759 f653760 hmq653745 hmq653746 he655104 he655103 (gB_w (gBl (show Int32.toInt 0 = 0 by decide)) (by decide) (by decide)) (gB_w bp653747' (by decide) (by decide)) (gB_w bg654830' (by decide) (by decide)) bp653749 (gB_w bg654830' (by decide) (by decide)) bp653749 bp653754 bp653755 bp653756 bp653759 bf653760 (by have qa0 : Int32.toInt 0 = 0 := (by decide); omega) (by have qa0 : Int32.toInt 0 = 0 := (by decide); omega) (by first | assumption | exact cDg_no (by omega) | exact cDg_no (by decide) | exact cDg_of (by assumption) (by omega) (by omega)) x653762 x653763) dr_cX14_next_236 ⟨wr_8_218, wr_1_32, wr_8_221, by decide, rfl, (Nat.le_of_ble_eq_true rfl), (Nat.le_of_ble_eq_true rfl)⟩ wr_8_220 wr_p_77 hmq653745 he655104 rfl (show 0 + ((16 * (p653747.toInt - g654830.toInt)).toNat) ≤ ((16 * (p653747.toInt - p653748.toInt)).toNat) by first | omega | decide) (show 0 + ((160 * (p653747.toInt - g654830.toInt)).toNat) ≤ ((160 * (p653747.toInt - p653748.toInt)).toNat) by first | omega | decide) (Nat.le_of_ble_eq_true rfl) (fun r655131 w655132 dc655128 ds655129 hp655130 => ?_) (fun _ _ _ _ _ z => z.elim)
                          obtain ⟨F655140, o655133, o655134, o655135, rfl, rfl, hfr655142, he655143, he655144, hdc, hds, bo655133, bo655134, x655136, x655137, x655138, x655139⟩ := hp655130
                          have hfr655145 : rFr [q653745] P653743 F653744 F655140 := rFr_call (rSub_rf (P := P653743)) hfr655105 hfr655142 (fun b hb hn => ⟨(nm_c (fun e => hn (e ▸ List.mem_cons_self)) nm_n), (nm_c (fun e => hn (e ▸ List.mem_cons_self)) nm_n)⟩)
                          have bo655135 := gB_any o655135
                          change G _ _ _ _ _ _ _ _ _ _ _
                          refine G_widen (cs' := (16 * (o655133.toInt - g654830.toInt)).toNat) (sl' := (160 * (o655133.toInt - g654830.toInt)).toNat) (by omega) (by omega) ?_
                          refine G_goto 247 dr_cX14_next_239 (by decide +kernel) ?_
                          exact G_vretA dr_cX14_next_247 rfl (show (16 * (o655133.toInt - g654830.toInt)).toNat ≤ ((16 * (p653747.toInt - p653748.toInt)).toNat) by omega) (show (160 * (o655133.toInt - g654830.toInt)).toNat ≤ ((160 * (p653747.toInt - p653748.toInt)).toNat) by omega) ⟨P653743, F655140, o655133, o655134, g654830, o655135, (D.2 1000 32), rfl, rfl, (rSub_rf (P := P653743)), hfr655145, he655143, he655144, (by omega), (by omega), bo655133, (gB_w bo655134 (by decide) (by decide)), (gB_w bg654830' (by decide) (by decide)), (by have qa0 : Int32.toInt 0 = 0 := (by decide); omega), (Or.inr (by omega)), (by have qa0 : Int32.toInt 0 = 0 := (by decide); omega), (by first | exact tP_no (by omega) (by omega) | assumption), x655139⟩
                        · have r655146 : o655123.toInt = 0 := gj_eq hc655125 (show Int32.toInt 0 = 0 by decide)
                          have bo655123' : gB o655123 0 0 := ⟨by omega, by omega⟩
                          refine G_iload_n 0 dr_cX14_next_230 rfl ?_
                          refine G_if_eq 242 dr_cX14_next_231 (by decide +kernel) (fun _ => ?_) (fun hc => absurd hc (by decide))
                          refine G_aload_n 2 dr_cX14_next_242 rfl ?_
                          refine G_iload_n 1 dr_cX14_next_243 rfl ?_
                          refine Gw_callV (As := [.int z655055]) (gV_ok D I) (cp_650191_Reader_symbol l hl0 D I P653743 F655100 q653745 q653746 z655055 p653747 g654830 p653749 g654830 p653751 p653749 (D.2 1000 32) p653754 p653755 p653756 qo653757 qo653758 p653759 f653760 hmq653745 hmq653746 he655104 he655103 bz655055 (gB_w bp653747' (by decide) (by decide)) (gB_w bg654830' (by decide) (by decide)) bp653749 (gB_w bg654830' (by decide) (by decide)) bp653749 bp653754 bp653755 bp653756 bp653759 bf653760 (by have qa0 : Int32.toInt 0 = 0 := (by decide); omega) (by have qa0 : Int32.toInt 0 = 0 := (by decide); omega) x653762 x653763) dr_cX14_next_244 ⟨wr_8_223, wr_1_32, wr_8_226, by decide, rfl, (Nat.le_of_ble_eq_true rfl), (Nat.le_of_ble_eq_true rfl)⟩ wr_8_225 wr_p_78 hmq653745 he655104 rfl (show 0 + ((16 * (p653747.toInt - g654830.toInt)).toNat) ≤ ((16 * (p653747.toInt - p653748.toInt)).toNat) by first | omega | decide) (show 0 + ((160 * (p653747.toInt - g654830.toInt)).toNat) ≤ ((160 * (p653747.toInt - p653748.toInt)).toNat) by first | omega | decide) (Nat.le_of_ble_eq_true rfl) (fun r655150 w655151 dc655147 ds655148 hp655149 => ?_) (fun _ _ _ _ _ z => z.elim)
                          obtain ⟨P655159, F655160, o655152, o655153, q655154, rfl, rfl, hsb655161, hfr655162, he655163, he655164, hdc, hds, bo655152, bo655153, x655155, x655156, x655157, x655158⟩ := hp655149
                          have hm655165 : q653745 ∈ P655159 := hsb655161 q653745 hmq653745
                          have hm655166 : q653746 ∈ P655159 := hsb655161 q653746 hmq653746
                          have hsb655167 : rSub P653743 P655159 := rSub_tr (rSub_rf (P := P653743)) hsb655161
                          have hfr655168 : rFr [q653745] P653743 F653744 F655160 := rFr_call (rSub_rf (P := P653743)) hfr655105 hfr655162 (fun b hb hn => ⟨(nm_c (fun e => hn (e ▸ List.mem_cons_self)) nm_n), (nm_c (fun e => hn (e ▸ List.mem_cons_self)) nm_n)⟩)
                          change G _ _ _ _ _ _ _ _ _ _ _
                          refine G_widen (cs' := (16 * (o655152.toInt - g654830.toInt)).toNat) (sl' := (160 * (o655152.toInt - g654830.toInt)).toNat) (by omega) (by omega) ?_
                          exact G_vretA dr_cX14_next_247 rfl (show (16 * (o655152.toInt - g654830.toInt)).toNat ≤ ((16 * (p653747.toInt - p653748.toInt)).toNat) by omega) (show (160 * (o655152.toInt - g654830.toInt)).toNat ≤ ((160 * (p653747.toInt - p653748.toInt)).toNat) by omega) ⟨P655159, F655160, o655152, o655153, g654830, p653751, q655154, rfl, rfl, hsb655167, hfr655168, he655163, he655164, (by omega), (by omega), (gB_w bo655152 (by decide) (by decide)), (gB_w bo655153 (by decide) (by decide)), (gB_w bg654830' (by decide) (by decide)), (by have qa0 : Int32.toInt 0 = 0 := (by decide); omega), (Or.inr (by omega)), (by have qa0 : Int32.toInt 0 = 0 := (by decide); omega), x655157, x655158⟩
                      · have r655169 : o655114.toInt ≠ 0 := gj_neq hc655116 (show Int32.toInt 0 = 0 by decide)
                        have bo655114' : gB o655114 1 1 := ⟨by omega, by omega⟩
                        have bi655170 : gB z655055 97 122 := isP_1 x655115 (by omega)
                        refine G_aload_n 2 dr_cX14_next_216 rfl ?_
                        refine Gw_callV (As := []) (gV_ok D I) (cp_651183_Reader_word l hl0 D I P653743 F655100 q653745 q653746 p653747 g654830 p653749 g654830 p653751 p653749 (D.2 1000 32) p653754 p653755 p653756 qo653757 qo653758 p653759 f653760 hmq653745 hmq653746 he655104 he655103 (gB_w bp653747' (by decide) (by decide)) (gB_w bg654830' (by decide) (by decide)) bp653749 (gB_w bg654830' (by decide) (by decide)) bp653749 bp653754 bp653755 bp653756 bp653759 bf653760 (by have qa0 : Int32.toInt 0 = 0 := (by decide); omega) (by have qa0 : Int32.toInt 0 = 0 := (by decide); omega) (by first | assumption | exact cLt_of (by assumption) (by omega) (by omega)) x653762 x653763) dr_cX14_next_217 ⟨wr_7_225, wr_1_32, wr_7_228, by decide, rfl, (Nat.le_of_ble_eq_true rfl), (Nat.le_of_ble_eq_true rfl)⟩ wr_7_227 wr_p_76 hmq653745 he655104 rfl (show 0 + ((16 * (p653747.toInt - g654830.toInt)).toNat) ≤ ((16 * (p653747.toInt - p653748.toInt)).toNat) by first | omega | decide) (show 0 + ((160 * (p653747.toInt - g654830.toInt)).toNat) ≤ ((160 * (p653747.toInt - p653748.toInt)).toNat) by first | omega | decide) (Nat.le_of_ble_eq_true rfl) (fun r655174 w655175 dc655171 ds655172 hp655173 => ?_) (fun _ _ _ _ _ z => z.elim)
                        obtain ⟨P655184, F655185, o655176, o655177, o655178, q655179, rfl, rfl, hsb655186, hfr655187, he655188, he655189, hdc, hds, bo655176, bo655177, x655180, x655181, x655182, x655183⟩ := hp655173
                        have hm655190 : q653745 ∈ P655184 := hsb655186 q653745 hmq653745
                        have hm655191 : q653746 ∈ P655184 := hsb655186 q653746 hmq653746
                        have hsb655192 : rSub P653743 P655184 := rSub_tr (rSub_rf (P := P653743)) hsb655186
                        have hfr655193 : rFr [q653745] P653743 F653744 F655185 := rFr_call (rSub_rf (P := P653743)) hfr655105 hfr655187 (fun b hb hn => ⟨(nm_c (fun e => hn (e ▸ List.mem_cons_self)) nm_n), (nm_c (fun e => hn (e ▸ List.mem_cons_self)) nm_n)⟩)
                        have bo655178 := gB_any o655178
                        change G _ _ _ _ _ _ _ _ _ _ _
                        refine G_widen (cs' := (16 * (o655176.toInt - g654830.toInt)).toNat) (sl' := (160 * (o655176.toInt - g654830.toInt)).toNat) (by omega) (by omega) ?_
                        refine G_goto 247 dr_cX14_next_220 (by decide +kernel) ?_
                        exact G_vretA dr_cX14_next_247 rfl (show (16 * (o655176.toInt - g654830.toInt)).toNat ≤ ((16 * (p653747.toInt - p653748.toInt)).toNat) by omega) (show (160 * (o655176.toInt - g654830.toInt)).toNat ≤ ((160 * (p653747.toInt - p653748.toInt)).toNat) by omega) ⟨P655184, F655185, o655176, o655177, g654830, o655178, q655179, rfl, rfl, hsb655192, hfr655193, he655188, he655189, (by omega), (by omega), bo655176, (gB_w bo655177 (by decide) (by decide)), (gB_w bg654830' (by decide) (by decide)), (by have qa0 : Int32.toInt 0 = 0 := (by decide); omega), (Or.inr (by omega)), (by have qa0 : Int32.toInt 0 = 0 := (by decide); omega), x655182, x655183⟩
                    refine G_iload_n 0 dr_cX14_next_151 rfl ?_
                    refine G_bipush 45 dr_cX14_next_152 (by decide +kernel) ?_
                    refine G_icmp_ne 207 dr_cX14_next_154 (by decide +kernel) (fun hc655194 => ?_) (fun hc655194 => ?_)
                    · have r655195 : z655055.toInt ≠ 45 := gj_neq hc655194 (show Int32.toInt 45 = 45 by decide)
                      refine G_iconst 0 dr_cX14_next_207 (by decide +kernel) ?_
                      refine G_istore_n (L' := [(2, .int 0), (1, .int z655055), (0, .ref q653745)]) dr_cX14_next_208 (Nat.le_of_ble_eq_true rfl) rfl ?_
                      refine G_lv (L' := [(2, .int 0), (1, .int z655055), (0, .ref q653745)]) [0, 1, 2] rfl ?_
                      exact jn655108
                    · have r655196 : z655055.toInt = 45 := gj_eq hc655194 (show Int32.toInt 45 = 45 by decide)
                      have bz655055' : gB z655055 45 45 := ⟨by omega, by omega⟩
                      refine G_aload_n 1 dr_cX14_next_157 rfl ?_
                      refine Gp_get 2 hmq653745 he655104 dr_cX14_next_158 (gk_X14 D I) (Nat.le_of_ble_eq_true rfl) wr_9_38 rfl ?_
                      refine G_iconst 1 dr_cX14_next_161 (by decide +kernel) ?_
                      refine G_iadd dr_cX14_next_162 (G_nam fun z655197 hz655197 => ?_)
                      have ez655197 : z655197.toInt = g654830.toInt + 1 := by rw [gI_add hz655197 bg654830' (gBl (show Int32.toInt 1 = 1 by decide)) (by decide) (by decide), show Int32.toInt 1 = 1 from by decide]
                      have bz655197 : gB z655197 1 8192 := gB_add (gI_add hz655197 bg654830' (gBl (show Int32.toInt 1 = 1 by decide)) (by decide) (by decide)) bg654830' (gBl (show Int32.toInt 1 = 1 by decide)) (by decide) (by decide)
                      refine G_aload_n 1 dr_cX14_next_163 rfl ?_
                      refine Gp_get 1 hmq653745 he655104 dr_cX14_next_164 (gk_X14 D I) (Nat.le_of_ble_eq_true rfl) wr_9_37 rfl ?_
                      refine G_icmp_ge 207 dr_cX14_next_167 (by decide +kernel) (fun hc655198 => ?_) (fun hc655198 => ?_)
                      · have r655199 : p653747.toInt ≤ z655197.toInt := gC_le hc655198
                        refine G_iconst 0 dr_cX14_next_207 (by decide +kernel) ?_
                        refine G_istore_n (L' := [(2, .int 0), (1, .int z655055), (0, .ref q653745)]) dr_cX14_next_208 (Nat.le_of_ble_eq_true rfl) rfl ?_
                        refine G_lv (L' := [(2, .int 0), (1, .int z655055), (0, .ref q653745)]) [0, 1, 2] rfl ?_
                        exact jn655108
                      · have r655200 : z655197.toInt < p653747.toInt := gC_nle hc655198
                        have bz655197' : gB z655197 1 8191 := ⟨by omega, by omega⟩
                        have bp653747'' : gB p653747 2 8192 := ⟨by omega, by omega⟩
                        refine G_aload_n 1 dr_cX14_next_170 rfl ?_
                        refine Gp_get 0 hmq653745 he655104 dr_cX14_next_171 (gk_X14 D I) (Nat.le_of_ble_eq_true rfl) wr_9_36 rfl ?_
                        refine G_aload_n 1 dr_cX14_next_174 rfl ?_
                        refine Gp_get 2 hmq653745 he655104 dr_cX14_next_175 (gk_X14 D I) (Nat.le_of_ble_eq_true rfl) wr_9_38 rfl ?_
                        refine G_iconst 1 dr_cX14_next_178 (by decide +kernel) ?_
                        refine G_iadd dr_cX14_next_179 (G_eqi (y := z655197) hz655197.symm ?_)
                        refine Gp_bald 1 hmq653746 he655103 dr_cX14_next_180 rfl (gB_in bz655197' (by decide) (by decide)) (G_nam fun z655201 hz655201 => ?_)
                        have bz655201 : gB z655201 (-128) 127 := by rw [hz655201]; exact bf653760 _
                        refine Gw_callS (As := [.int z655201]) (gV_ok D I) (cp_649621_Reader_isDigit l hl0 D I P653743 F655100 z655201 ) dr_cX14_next_181 ⟨wr_7_219, wr_1_32, wr_7_221, by decide, rfl, (Nat.le_of_ble_eq_true rfl), (Nat.le_of_ble_eq_true rfl)⟩ wr_7_220 (show 0 + 0 ≤ ((16 * (p653747.toInt - p653748.toInt)).toNat) by first | omega | decide) (show 0 + 0 ≤ ((160 * (p653747.toInt - p653748.toInt)).toNat) by first | omega | decide) (Nat.le_of_ble_eq_true rfl) (fun r655205 w655206 dc655202 ds655203 hp655204 => ?_) (fun _ _ _ _ _ z => z.elim)
                        obtain ⟨o655207, rfl, rfl, hdc, hds, bo655207, x655208⟩ := hp655204
                        change G _ _ _ _ _ _ _ (.int o655207 :: _) _ _ _
                        refine G_widen (cs' := 0) (sl' := 0) (by omega) (by omega) ?_
                        refine G_if_eq 207 dr_cX14_next_184 (by decide +kernel) (fun hc655209 => ?_) (fun hc655209 => ?_)
                        · have r655210 : o655207.toInt = 0 := gj_eq hc655209 (show Int32.toInt 0 = 0 by decide)
                          have bo655207' : gB o655207 0 0 := ⟨by omega, by omega⟩
                          refine G_iconst 0 dr_cX14_next_207 (by decide +kernel) ?_
                          refine G_istore_n (L' := [(2, .int 0), (1, .int z655055), (0, .ref q653745)]) dr_cX14_next_208 (Nat.le_of_ble_eq_true rfl) rfl ?_
                          refine G_lv (L' := [(2, .int 0), (1, .int z655055), (0, .ref q653745)]) [0, 1, 2] rfl ?_
                          exact jn655108
                        · have r655211 : o655207.toInt ≠ 0 := gj_neq hc655209 (show Int32.toInt 0 = 0 by decide)
                          have bo655207' : gB o655207 1 1 := ⟨by omega, by omega⟩
                          have bi655212 : gB z655201 48 57 := isP_1 x655208 (by omega)
                          refine G_aload_n 1 dr_cX14_next_187 rfl ?_
                          refine Gp_get 6 hmq653745 he655104 dr_cX14_next_188 (gk_X14 D I) (Nat.le_of_ble_eq_true rfl) wr_9_42 rfl ?_
                          refine G_iconst 2 dr_cX14_next_191 (by decide +kernel) ?_
                          refine G_icmp_eq 207 dr_cX14_next_192 (by decide +kernel) (fun hc655213 => ?_) (fun hc655213 => ?_)
                          · have r655214 : p653749.toInt = 2 := gj_eq hc655213 (show Int32.toInt 2 = 2 by decide)
                            have bp653749' : gB p653749 2 2 := ⟨by omega, by omega⟩
                            refine G_iconst 0 dr_cX14_next_207 (by decide +kernel) ?_
                            refine G_istore_n (L' := [(2, .int 0), (1, .int z655055), (0, .ref q653745)]) dr_cX14_next_208 (Nat.le_of_ble_eq_true rfl) rfl ?_
                            refine G_lv (L' := [(2, .int 0), (1, .int z655055), (0, .ref q653745)]) [0, 1, 2] rfl ?_
                            exact jn655108
                          · have r655215 : p653749.toInt ≠ 2 := gj_neq hc655213 (show Int32.toInt 2 = 2 by decide)
                            refine G_aload_n 1 dr_cX14_next_195 rfl ?_
                            refine Gp_get 6 hmq653745 he655104 dr_cX14_next_196 (gk_X14 D I) (Nat.le_of_ble_eq_true rfl) wr_9_42 rfl ?_
                            refine G_iconst 4 dr_cX14_next_199 (by decide +kernel) ?_
                            refine G_icmp_eq 207 dr_cX14_next_200 (by decide +kernel) (fun hc655216 => ?_) (fun hc655216 => ?_)
                            · have r655217 : p653749.toInt = 4 := gj_eq hc655216 (show Int32.toInt 4 = 4 by decide)
                              have bp653749' : gB p653749 4 4 := ⟨by omega, by omega⟩
                              refine G_iconst 0 dr_cX14_next_207 (by decide +kernel) ?_
                              refine G_istore_n (L' := [(2, .int 0), (1, .int z655055), (0, .ref q653745)]) dr_cX14_next_208 (Nat.le_of_ble_eq_true rfl) rfl ?_
                              refine G_lv (L' := [(2, .int 0), (1, .int z655055), (0, .ref q653745)]) [0, 1, 2] rfl ?_
                              exact jn655108
                            · have r655218 : p653749.toInt ≠ 4 := gj_neq hc655216 (show Int32.toInt 4 = 4 by decide)
                              refine G_iconst 1 dr_cX14_next_203 (by decide +kernel) ?_
                              refine G_goto 208 dr_cX14_next_204 (by decide +kernel) ?_
                              refine G_istore_n (L' := [(2, .int 1), (1, .int z655055), (0, .ref q653745)]) dr_cX14_next_208 (Nat.le_of_ble_eq_true rfl) rfl ?_
                              clear bp653747' bz655055 jn655108 bz655197 bz655201 bo655207 bo655207'; try clear r655205; try clear w655206; try clear dc655202; try clear ds655203; try clear hp655204; try clear x655208; try clear r655211
                              refine G_iload_n 1 dr_cX14_next_209 rfl ?_
                              refine Gw_callS (As := [.int z655055]) (gV_ok D I) (cp_651520_Reader_isLetter l hl0 D I P653743 F655100 z655055 ) dr_cX14_next_210 ⟨wr_7_222, wr_1_32, wr_7_224, by decide, rfl, (Nat.le_of_ble_eq_true rfl), (Nat.le_of_ble_eq_true rfl)⟩ wr_7_223 (show 0 + 0 ≤ ((16 * (p653747.toInt - p653748.toInt)).toNat) by first | omega | decide) (show 0 + 0 ≤ ((160 * (p653747.toInt - p653748.toInt)).toNat) by first | omega | decide) (Nat.le_of_ble_eq_true rfl) (fun r655222 w655223 dc655219 ds655220 hp655221 => ?_) (fun _ _ _ _ _ z => z.elim)
                              obtain ⟨o655224, rfl, rfl, hdc, hds, bo655224, x655225⟩ := hp655221
                              change G _ _ _ _ _ _ _ (.int o655224 :: _) _ _ _
                              refine G_widen (cs' := 0) (sl' := 0) (by omega) (by omega) ?_
                              refine G_if_eq 223 dr_cX14_next_213 (by decide +kernel) (fun hc655226 => ?_) (fun hc655226 => ?_)
                              · have r655227 : o655224.toInt = 0 := gj_eq hc655226 (show Int32.toInt 0 = 0 by decide)
                                have bo655224' : gB o655224 0 0 := ⟨by omega, by omega⟩
                                clear bo655224 bo655224'; try clear r655222; try clear w655223; try clear dc655219; try clear ds655220; try clear hp655221; try clear x655225; try clear r655227
                                refine G_iload_n 1 dr_cX14_next_223 rfl ?_
                                refine Gw_callS (As := [.int z655055]) (gV_ok D I) (cp_649621_Reader_isDigit l hl0 D I P653743 F655100 z655055 ) dr_cX14_next_224 ⟨wr_7_219, wr_1_32, wr_7_221, by decide, rfl, (Nat.le_of_ble_eq_true rfl), (Nat.le_of_ble_eq_true rfl)⟩ wr_7_220 (show 0 + 0 ≤ ((16 * (p653747.toInt - p653748.toInt)).toNat) by first | omega | decide) (show 0 + 0 ≤ ((160 * (p653747.toInt - p653748.toInt)).toNat) by first | omega | decide) (Nat.le_of_ble_eq_true rfl) (fun r655231 w655232 dc655228 ds655229 hp655230 => ?_) (fun _ _ _ _ _ z => z.elim)
                                obtain ⟨o655233, rfl, rfl, hdc, hds, bo655233, x655234⟩ := hp655230
                                change G _ _ _ _ _ _ _ (.int o655233 :: _) _ _ _
                                refine G_widen (cs' := 0) (sl' := 0) (by omega) (by omega) ?_
                                refine G_if_ne 234 dr_cX14_next_227 (by decide +kernel) (fun hc655235 => ?_) (fun hc655235 => ?_)
                                · have r655236 : o655233.toInt ≠ 0 := gj_neq hc655235 (show Int32.toInt 0 = 0 by decide)
                                  have bo655233' : gB o655233 1 1 := ⟨by omega, by omega⟩
                                  have bi655237 : gB z655055 48 57 := isP_1 x655234 (by omega)
                                  refine G_aload_n 2 dr_cX14_next_234 rfl ?_
                                  refine G_iload_n 0 dr_cX14_next_235 rfl ?_
                                  refine Gw_callV (As := [.int 1]) (gV_ok D I) (cp_649585_Reader_number l hl0 D I P653743 F655100 q653745 q653746 1 p653747 g654830 p653749 g654830 p653751 p653749 (D.2 1000 32) p653754 p653755 p653756 qo653757 qo653758 p653759 f653760 hmq653745 hmq653746 he655104 he655103 (gB_w (gBl (show Int32.toInt 1 = 1 by decide)) (by decide) (by decide)) (gB_w bp653747'' (by decide) (by decide)) (gB_w bg654830' (by decide) (by decide)) bp653749 (gB_w bg654830' (by decide) (by decide)) bp653749 bp653754 bp653755 bp653756 bp653759 bf653760 (by have qa0 : Int32.toInt 1 = 1 := (by decide); omega) (by have qa0 : Int32.toInt 1 = 1 := (by decide); omega) (by first | assumption | exact cDg_no (by omega) | exact cDg_no (by decide) | exact cDg_of (by assumption) (by omega) (by omega)) x653762 x653763) dr_cX14_next_236 ⟨wr_8_218, wr_1_32, wr_8_221, by decide, rfl, (Nat.le_of_ble_eq_true rfl), (Nat.le_of_ble_eq_true rfl)⟩ wr_8_220 wr_p_77 hmq653745 he655104 rfl (show 0 + ((16 * (p653747.toInt - g654830.toInt)).toNat) ≤ ((16 * (p653747.toInt - p653748.toInt)).toNat) by first | omega | decide) (show 0 + ((160 * (p653747.toInt - g654830.toInt)).toNat) ≤ ((160 * (p653747.toInt - p653748.toInt)).toNat) by first | omega | decide) (Nat.le_of_ble_eq_true rfl) (fun r655241 w655242 dc655238 ds655239 hp655240 => ?_) (fun _ _ _ _ _ z => z.elim)
                                  obtain ⟨F655250, o655243, o655244, o655245, rfl, rfl, hfr655252, he655253, he655254, hdc, hds, bo655243, bo655244, x655246, x655247, x655248, x655249⟩ := hp655240
                                  have hfr655255 : rFr [q653745] P653743 F653744 F655250 := rFr_call (rSub_rf (P := P653743)) hfr655105 hfr655252 (fun b hb hn => ⟨(nm_c (fun e => hn (e ▸ List.mem_cons_self)) nm_n), (nm_c (fun e => hn (e ▸ List.mem_cons_self)) nm_n)⟩)
                                  have bo655245 := gB_any o655245
                                  change G _ _ _ _ _ _ _ _ _ _ _
                                  refine G_widen (cs' := (16 * (o655243.toInt - g654830.toInt)).toNat) (sl' := (160 * (o655243.toInt - g654830.toInt)).toNat) (by omega) (by omega) ?_
                                  refine G_goto 247 dr_cX14_next_239 (by decide +kernel) ?_
                                  exact G_vretA dr_cX14_next_247 rfl (show (16 * (o655243.toInt - g654830.toInt)).toNat ≤ ((16 * (p653747.toInt - p653748.toInt)).toNat) by omega) (show (160 * (o655243.toInt - g654830.toInt)).toNat ≤ ((160 * (p653747.toInt - p653748.toInt)).toNat) by omega) ⟨P653743, F655250, o655243, o655244, g654830, o655245, (D.2 1000 32), rfl, rfl, (rSub_rf (P := P653743)), hfr655255, he655253, he655254, (by omega), (by omega), bo655243, (gB_w bo655244 (by decide) (by decide)), (gB_w bg654830' (by decide) (by decide)), (by have qa0 : Int32.toInt 1 = 1 := (by decide); omega), (Or.inr (by omega)), (by have qa0 : Int32.toInt 1 = 1 := (by decide); omega), (by first | exact tP_no (by omega) (by omega) | assumption), x655249⟩
                                · have r655256 : o655233.toInt = 0 := gj_eq hc655235 (show Int32.toInt 0 = 0 by decide)
                                  have bo655233' : gB o655233 0 0 := ⟨by omega, by omega⟩
                                  refine G_iload_n 0 dr_cX14_next_230 rfl ?_
                                  refine G_if_eq 242 dr_cX14_next_231 (by decide +kernel) (fun hc => absurd hc (by decide)) (fun _ => ?_)
                                  refine G_aload_n 2 dr_cX14_next_234 rfl ?_
                                  refine G_iload_n 0 dr_cX14_next_235 rfl ?_
                                  refine Gw_callV (As := [.int 1]) (gV_ok D I) (cp_649585_Reader_number l hl0 D I P653743 F655100 q653745 q653746 1 p653747 g654830 p653749 g654830 p653751 p653749 (D.2 1000 32) p653754 p653755 p653756 qo653757 qo653758 p653759 f653760 hmq653745 hmq653746 he655104 he655103 (gB_w (gBl (show Int32.toInt 1 = 1 by decide)) (by decide) (by decide)) (gB_w bp653747'' (by decide) (by decide)) (gB_w bg654830' (by decide) (by decide)) bp653749 (gB_w bg654830' (by decide) (by decide)) bp653749 bp653754 bp653755 bp653756 bp653759 bf653760 (by have qa0 : Int32.toInt 1 = 1 := (by decide); omega) (by have qa0 : Int32.toInt 1 = 1 := (by decide); omega) (by first | assumption | exact cDg_no (by omega) | exact cDg_no (by decide) | exact cDg_of (by assumption) (by omega) (by omega)) x653762 x653763) dr_cX14_next_236 ⟨wr_8_218, wr_1_32, wr_8_221, by decide, rfl, (Nat.le_of_ble_eq_true rfl), (Nat.le_of_ble_eq_true rfl)⟩ wr_8_220 wr_p_77 hmq653745 he655104 rfl (show 0 + ((16 * (p653747.toInt - g654830.toInt)).toNat) ≤ ((16 * (p653747.toInt - p653748.toInt)).toNat) by first | omega | decide) (show 0 + ((160 * (p653747.toInt - g654830.toInt)).toNat) ≤ ((160 * (p653747.toInt - p653748.toInt)).toNat) by first | omega | decide) (Nat.le_of_ble_eq_true rfl) (fun r655260 w655261 dc655257 ds655258 hp655259 => ?_) (fun _ _ _ _ _ z => z.elim)
                                  obtain ⟨F655269, o655262, o655263, o655264, rfl, rfl, hfr655271, he655272, he655273, hdc, hds, bo655262, bo655263, x655265, x655266, x655267, x655268⟩ := hp655259
                                  have hfr655274 : rFr [q653745] P653743 F653744 F655269 := rFr_call (rSub_rf (P := P653743)) hfr655105 hfr655271 (fun b hb hn => ⟨(nm_c (fun e => hn (e ▸ List.mem_cons_self)) nm_n), (nm_c (fun e => hn (e ▸ List.mem_cons_self)) nm_n)⟩)
                                  have bo655264 := gB_any o655264
                                  change G _ _ _ _ _ _ _ _ _ _ _
                                  refine G_widen (cs' := (16 * (o655262.toInt - g654830.toInt)).toNat) (sl' := (160 * (o655262.toInt - g654830.toInt)).toNat) (by omega) (by omega) ?_
                                  refine G_goto 247 dr_cX14_next_239 (by decide +kernel) ?_
                                  exact G_vretA dr_cX14_next_247 rfl (show (16 * (o655262.toInt - g654830.toInt)).toNat ≤ ((16 * (p653747.toInt - p653748.toInt)).toNat) by omega) (show (160 * (o655262.toInt - g654830.toInt)).toNat ≤ ((160 * (p653747.toInt - p653748.toInt)).toNat) by omega) ⟨P653743, F655269, o655262, o655263, g654830, o655264, (D.2 1000 32), rfl, rfl, (rSub_rf (P := P653743)), hfr655274, he655272, he655273, (by omega), (by omega), bo655262, (gB_w bo655263 (by decide) (by decide)), (gB_w bg654830' (by decide) (by decide)), (by have qa0 : Int32.toInt 1 = 1 := (by decide); omega), (Or.inr (by omega)), (by have qa0 : Int32.toInt 1 = 1 := (by decide); omega), (by first | exact tP_no (by omega) (by omega) | assumption), x655268⟩
                              · have r655275 : o655224.toInt ≠ 0 := gj_neq hc655226 (show Int32.toInt 0 = 0 by decide)
                                have bo655224' : gB o655224 1 1 := ⟨by omega, by omega⟩
                                have bi655276 : gB z655055 97 122 := isP_1 x655225 (by omega)
                                refine G_aload_n 2 dr_cX14_next_216 rfl ?_
                                refine Gw_callV (As := []) (gV_ok D I) (cp_651183_Reader_word l hl0 D I P653743 F655100 q653745 q653746 p653747 g654830 p653749 g654830 p653751 p653749 (D.2 1000 32) p653754 p653755 p653756 qo653757 qo653758 p653759 f653760 hmq653745 hmq653746 he655104 he655103 (gB_w bp653747'' (by decide) (by decide)) (gB_w bg654830' (by decide) (by decide)) bp653749 (gB_w bg654830' (by decide) (by decide)) bp653749 bp653754 bp653755 bp653756 bp653759 bf653760 (by have qa0 : Int32.toInt 1 = 1 := (by decide); omega) (by have qa0 : Int32.toInt 1 = 1 := (by decide); omega) (by first | assumption | exact cLt_of (by assumption) (by omega) (by omega)) x653762 x653763) dr_cX14_next_217 ⟨wr_7_225, wr_1_32, wr_7_228, by decide, rfl, (Nat.le_of_ble_eq_true rfl), (Nat.le_of_ble_eq_true rfl)⟩ wr_7_227 wr_p_76 hmq653745 he655104 rfl (show 0 + ((16 * (p653747.toInt - g654830.toInt)).toNat) ≤ ((16 * (p653747.toInt - p653748.toInt)).toNat) by first | omega | decide) (show 0 + ((160 * (p653747.toInt - g654830.toInt)).toNat) ≤ ((160 * (p653747.toInt - p653748.toInt)).toNat) by first | omega | decide) (Nat.le_of_ble_eq_true rfl) (fun r655280 w655281 dc655277 ds655278 hp655279 => ?_) (fun _ _ _ _ _ z => z.elim)
                                obtain ⟨P655290, F655291, o655282, o655283, o655284, q655285, rfl, rfl, hsb655292, hfr655293, he655294, he655295, hdc, hds, bo655282, bo655283, x655286, x655287, x655288, x655289⟩ := hp655279
                                have hm655296 : q653745 ∈ P655290 := hsb655292 q653745 hmq653745
                                have hm655297 : q653746 ∈ P655290 := hsb655292 q653746 hmq653746
                                have hsb655298 : rSub P653743 P655290 := rSub_tr (rSub_rf (P := P653743)) hsb655292
                                have hfr655299 : rFr [q653745] P653743 F653744 F655291 := rFr_call (rSub_rf (P := P653743)) hfr655105 hfr655293 (fun b hb hn => ⟨(nm_c (fun e => hn (e ▸ List.mem_cons_self)) nm_n), (nm_c (fun e => hn (e ▸ List.mem_cons_self)) nm_n)⟩)
                                have bo655284 := gB_any o655284
                                change G _ _ _ _ _ _ _ _ _ _ _
                                refine G_widen (cs' := (16 * (o655282.toInt - g654830.toInt)).toNat) (sl' := (160 * (o655282.toInt - g654830.toInt)).toNat) (by omega) (by omega) ?_
                                refine G_goto 247 dr_cX14_next_220 (by decide +kernel) ?_
                                exact G_vretA dr_cX14_next_247 rfl (show (16 * (o655282.toInt - g654830.toInt)).toNat ≤ ((16 * (p653747.toInt - p653748.toInt)).toNat) by omega) (show (160 * (o655282.toInt - g654830.toInt)).toNat ≤ ((160 * (p653747.toInt - p653748.toInt)).toNat) by omega) ⟨P655290, F655291, o655282, o655283, g654830, o655284, q655285, rfl, rfl, hsb655298, hfr655299, he655294, he655295, (by omega), (by omega), bo655282, (gB_w bo655283 (by decide) (by decide)), (gB_w bg654830' (by decide) (by decide)), (by have qa0 : Int32.toInt 1 = 1 := (by decide); omega), (Or.inr (by omega)), (by have qa0 : Int32.toInt 1 = 1 := (by decide); omega), x655288, x655289⟩
                  · have r655300 : g654830.toInt = p653747.toInt := gC_eq hc655106
                    have bg654830'' : gB g654830 1 8191 := ⟨by omega, by omega⟩
                    have bp653747'' : gB p653747 1 8191 := ⟨by omega, by omega⟩
                    refine G_aload_n 1 dr_cX14_next_135 rfl ?_
                    refine G_iconst 0 dr_cX14_next_136 (by decide +kernel) ?_
                    refine Gp_put 3 hmq653745 he655104 dr_cX14_next_137 (gk_X14 D I) (Nat.le_of_ble_eq_true rfl) wr_9_39 rfl rfl rfl (Nat.le_of_ble_eq_true rfl) (fun F655301 e655302 n655303 => ?_)
                    have he655304 : F655301 q653746 = .inl (I .byte, 8192, .inl f653760) := (n655303 q653746 (rn_ao he655103 he655104)).trans he655103
                    have he655305 : F655301 q653745 = .inr (19, [.ref q653746, .int p653747, .int g654830, .int 0, .int g654830, .int p653751, .int p653749, .ref (D.2 1000 32), .int p653754, .int p653755, .int p653756, .ref qo653757, .ref qo653758, .int p653759]) := e655302
                    have hfr655306 : rFr [q653745] P653743 F653744 F655301 := rFr_put' List.mem_cons_self hfr655105 n655303
                    exact G_vretA dr_cX14_next_140 rfl (show 0 ≤ ((16 * (p653747.toInt - p653748.toInt)).toNat) by omega) (show 0 ≤ ((160 * (p653747.toInt - p653748.toInt)).toNat) by omega) ⟨P653743, F655301, g654830, 0, g654830, p653751, (D.2 1000 32), rfl, rfl, (rSub_rf (P := P653743)), hfr655306, he655305, he655304, (by omega), (by omega), (gB_w bg654830'' (by decide) (by decide)), (gB_w (gBl (show Int32.toInt 0 = 0 by decide)) (by decide) (by decide)), (gB_w bg654830'' (by decide) (by decide)), (by have qa0 : Int32.toInt 0 = 0 := (by decide); omega), (Or.inl (by decide)), (by have qa0 : Int32.toInt 0 = 0 := (by decide); omega), (tP_no (by decide) (by decide)), (vP_no (by decide) (by decide))⟩
                · have r655307 : z655055.toInt = 32 := gj_eq hc655091 (show Int32.toInt 32 = 32 by decide)
                  have bz655055' : gB z655055 32 32 := ⟨by omega, by omega⟩
                  refine G_aload_n 1 dr_cX14_next_97 rfl ?_
                  refine G_dup dr_cX14_next_98 rfl ?_
                  refine Gp_get 2 hmq653745 he654832 dr_cX14_next_99 (gk_X14 D I) (Nat.le_of_ble_eq_true rfl) wr_9_38 rfl ?_
                  refine G_iconst 1 dr_cX14_next_102 (by decide +kernel) ?_
                  refine G_iadd dr_cX14_next_103 (G_nam fun z655308 hz655308 => ?_)
                  have ez655308 : z655308.toInt = g654830.toInt + 1 := by rw [gI_add hz655308 bg654830' (gBl (show Int32.toInt 1 = 1 by decide)) (by decide) (by decide), show Int32.toInt 1 = 1 from by decide]
                  have bz655308 : gB z655308 1 8192 := gB_add (gI_add hz655308 bg654830' (gBl (show Int32.toInt 1 = 1 by decide)) (by decide) (by decide)) bg654830' (gBl (show Int32.toInt 1 = 1 by decide)) (by decide) (by decide)
                  refine Gp_put 2 hmq653745 he654832 dr_cX14_next_104 (gk_X14 D I) (Nat.le_of_ble_eq_true rfl) wr_9_38 rfl rfl rfl (Nat.le_of_ble_eq_true rfl) (fun F655309 e655310 n655311 => ?_)
                  have he655312 : F655309 q653746 = .inl (I .byte, 8192, .inl f653760) := (n655311 q653746 (rn_ao he654833 he654832)).trans he654833
                  have he655313 : F655309 q653745 = .inr (19, [.ref q653746, .int p653747, .int z655308, .int p653749, .int p653750, .int p653751, .int p653749, .ref qo653753, .int p653754, .int p653755, .int p653756, .ref qo653757, .ref qo653758, .int p653759]) := e655310
                  have hfr655314 : rFr [q653745] P653743 F653744 F655309 := rFr_put' List.mem_cons_self hfr654834 n655311
                  have x655315 : g654830.toInt < z655308.toInt := by first | omega | exact chNe (a := g654830) (b := z655308) (by assumption) (by assumption) (by omega) (by omega)
                  refine G_goto 8 dr_cX14_next_107 (by decide +kernel) ?_
                  refine G_lv (L' := [(0, .ref q653745)]) [1] rfl ?_
                  exact ih8_654836 F655309 z655308 (gB_w bz655308 (by decide) (by decide)) hfr655314 he655313 he655312 (by omega) (by omega) (by omega)
        · have r655316 : z655055.toInt = 59 := gj_eq hc655056 (show Int32.toInt 59 = 59 by decide)
          have bz655055' : gB z655055 59 59 := ⟨by omega, by omega⟩
          have hlp35_655353 : ∀ (n35_655353 : Nat) (F655347 : Nat → va_E) (g655346 : Int32), gB g655346 0 8192 → rFr [q653745] P653743 F653744 F655347 → F655347 q653745 = .inr (19, [.ref q653746, .int p653747, .int g655346, .int p653749, .int p653750, .int p653751, .int p653749, .ref qo653753, .int p653754, .int p653755, .int p653756, .ref qo653757, .ref qo653758, .int p653759]) → F655347 q653746 = .inl (I .byte, 8192, .inl f653760) → p653748.toInt ≤ g655346.toInt → g655346.toInt ≤ p653747.toInt → g654830.toInt ≤ g655346.toInt → ((p653747.toInt : Int) + 1 - g655346.toInt).toNat < n35_655353 → G (gV D I) l (gRm 7 155 ((16 * (p653747.toInt - p653748.toInt)).toNat) ((160 * (p653747.toInt - p653748.toInt)).toNat)) (gMA (gV D I) (pp_653764_Reader_next D I P653743 F653744 q653745 q653746 p653747 p653748 p653749 p653750 p653751 p653752 qo653753 p653754 p653755 p653756 qo653757 qo653758 p653759 f653760) gNA ((16 * (p653747.toInt - p653748.toInt)).toNat) ((160 * (p653747.toInt - p653748.toInt)).toNat)) ky_653764_Reader_next 35 [(1, .int z655055), (0, .ref q653745)] [] (va_pl P653743 F655347) 0 0 := by
            intro n35_655353
            induction n35_655353 with
            | zero => intro F655347 g655346 bg655346 hfr655350 he655348 he655349 x655351 x655352 x655353 hm35_655353; exact absurd hm35_655353 (Nat.not_lt_zero _)
            | succ n35_655353 ih35_655353 =>
              intro F655347 g655346 bg655346 hfr655350 he655348 he655349 x655351 x655352 x655353 hm35_655353
              refine G_aload_n 1 dr_cX14_next_35 rfl ?_
              refine Gp_get 2 hmq653745 he655348 dr_cX14_next_36 (gk_X14 D I) (Nat.le_of_ble_eq_true rfl) wr_9_38 rfl ?_
              refine G_aload_n 1 dr_cX14_next_39 rfl ?_
              refine Gp_get 1 hmq653745 he655348 dr_cX14_next_40 (gk_X14 D I) (Nat.le_of_ble_eq_true rfl) wr_9_37 rfl ?_
              refine G_icmp_ge 107 dr_cX14_next_43 (by decide +kernel) (fun hc655354 => ?_) (fun hc655354 => ?_)
              · have r655355 : p653747.toInt ≤ g655346.toInt := gC_le hc655354
                have bg655346' : gB g655346 1 8192 := ⟨by omega, by omega⟩
                have x655356 : g654830.toInt < g655346.toInt := by first | omega | exact chNe (a := g654830) (b := g655346) (by assumption) (by assumption) (by omega) (by omega)
                refine G_goto 8 dr_cX14_next_107 (by decide +kernel) ?_
                refine G_lv (L' := [(0, .ref q653745)]) [1] rfl ?_
                exact ih8_654836 F655347 g655346 (gB_w bg655346' (by decide) (by decide)) hfr655350 he655348 he655349 (by omega) (by omega) (by omega)
              · have r655357 : g655346.toInt < p653747.toInt := gC_nle hc655354
                have bg655346' : gB g655346 0 8191 := ⟨by omega, by omega⟩
                refine G_aload_n 1 dr_cX14_next_46 rfl ?_
                refine Gp_get 0 hmq653745 he655348 dr_cX14_next_47 (gk_X14 D I) (Nat.le_of_ble_eq_true rfl) wr_9_36 rfl ?_
                refine G_aload_n 1 dr_cX14_next_50 rfl ?_
                refine Gp_get 2 hmq653745 he655348 dr_cX14_next_51 (gk_X14 D I) (Nat.le_of_ble_eq_true rfl) wr_9_38 rfl ?_
                refine Gp_bald 1 hmq653746 he655349 dr_cX14_next_54 rfl (gB_in bg655346' (by decide) (by decide)) (G_nam fun z655358 hz655358 => ?_)
                have bz655358 : gB z655358 (-128) 127 := by rw [hz655358]; exact bf653760 _
                refine G_bipush 10 dr_cX14_next_55 (by decide +kernel) ?_
                refine G_icmp_eq 107 dr_cX14_next_57 (by decide +kernel) (fun hc655359 => ?_) (fun hc655359 => ?_)
                · have r655360 : z655358.toInt = 10 := gj_eq hc655359 (show Int32.toInt 10 = 10 by decide)
                  have bz655358' : gB z655358 10 10 := ⟨by omega, by omega⟩
                  have x655361 : g654830.toInt < g655346.toInt := by first | omega | exact chNe (a := g654830) (b := g655346) (by assumption) (by assumption) (by omega) (by omega)
                  refine G_goto 8 dr_cX14_next_107 (by decide +kernel) ?_
                  refine G_lv (L' := [(0, .ref q653745)]) [1] rfl ?_
                  exact ih8_654836 F655347 g655346 (gB_w bg655346' (by decide) (by decide)) hfr655350 he655348 he655349 (by omega) (by omega) (by omega)
                · have r655362 : z655358.toInt ≠ 10 := gj_neq hc655359 (show Int32.toInt 10 = 10 by decide)
                  refine G_aload_n 1 dr_cX14_next_60 rfl ?_
                  refine G_dup dr_cX14_next_61 rfl ?_
                  refine Gp_get 2 hmq653745 he655348 dr_cX14_next_62 (gk_X14 D I) (Nat.le_of_ble_eq_true rfl) wr_9_38 rfl ?_
                  refine G_iconst 1 dr_cX14_next_65 (by decide +kernel) ?_
                  refine G_iadd dr_cX14_next_66 (G_nam fun z655363 hz655363 => ?_)
                  have ez655363 : z655363.toInt = g655346.toInt + 1 := by rw [gI_add hz655363 bg655346' (gBl (show Int32.toInt 1 = 1 by decide)) (by decide) (by decide), show Int32.toInt 1 = 1 from by decide]
                  have bz655363 : gB z655363 1 8192 := gB_add (gI_add hz655363 bg655346' (gBl (show Int32.toInt 1 = 1 by decide)) (by decide) (by decide)) bg655346' (gBl (show Int32.toInt 1 = 1 by decide)) (by decide) (by decide)
                  refine Gp_put 2 hmq653745 he655348 dr_cX14_next_67 (gk_X14 D I) (Nat.le_of_ble_eq_true rfl) wr_9_38 rfl rfl rfl (Nat.le_of_ble_eq_true rfl) (fun F655364 e655365 n655366 => ?_)
                  have he655367 : F655364 q653746 = .inl (I .byte, 8192, .inl f653760) := (n655366 q653746 (rn_ao he655349 he655348)).trans he655349
                  have he655368 : F655364 q653745 = .inr (19, [.ref q653746, .int p653747, .int z655363, .int p653749, .int p653750, .int p653751, .int p653749, .ref qo653753, .int p653754, .int p653755, .int p653756, .ref qo653757, .ref qo653758, .int p653759]) := e655365
                  have hfr655369 : rFr [q653745] P653743 F653744 F655364 := rFr_put' List.mem_cons_self hfr655350 n655366
                  refine G_goto 35 dr_cX14_next_70 (by decide +kernel) ?_
                  exact ih35_655353 F655364 z655363 (gB_w bz655363 (by decide) (by decide)) hfr655369 he655368 he655367 (by omega) (by omega) (by omega) (by omega)
          exact hlp35_655353 (((p653747.toInt : Int) + 1 - g654830.toInt).toNat + 1) F654831 g654830 (gB_w bg654830' (by decide) (by decide)) hfr654834 he654832 he654833 (by omega) (by omega) (by omega) (Nat.lt_succ_self _)
  exact hlp8_654836 (((p653747.toInt : Int) + 1 - p653748.toInt).toNat + 1) F653765 p653748 bp653748 hfr653770 he653769 he653768 (by omega) (by omega) (Nat.lt_succ_self _)
