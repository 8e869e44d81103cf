theorem dr_cX14_next_0 : decode cX14_next 0 = .ok (.aload_n 0, 1) := by decide +kernel
theorem dr_cX14_next_1 : decode cX14_next 1 = .ok (.aload_n 0, 1) := by decide +kernel
theorem dr_cX14_next_2 : decode cX14_next 2 = .ok (.getfield 38, 3) := by decide +kernel
theorem dr_cX14_next_5 : decode cX14_next 5 = .ok (.putfield 41, 3) := by decide +kernel
theorem wr_9_42 : (Jvm.Cond.fieldLink "SpillForgeModel$Reader" (41 : Nat) "SpillForgeModel$Reader" "before" "I") ∈ gw := gw_9 42 rfl rfl
theorem dr_cX14_next_8 : decode cX14_next 8 = .ok (.aload_n 0, 1) := by decide +kernel
theorem dr_cX14_next_9 : decode cX14_next 9 = .ok (.getfield 44, 3) := by decide +kernel
theorem dr_cX14_next_12 : decode cX14_next 12 = .ok (.aload_n 0, 1) := by decide +kernel
theorem dr_cX14_next_13 : decode cX14_next 13 = .ok (.getfield 32, 3) := by decide +kernel
theorem dr_cX14_next_16 : decode cX14_next 16 = .ok (.if_icmp .ge 94, 3) := by decide +kernel
theorem dr_cX14_next_110 : decode cX14_next 110 = .ok (.aload_n 0, 1) := by decide +kernel
theorem dr_cX14_next_111 : decode cX14_next 111 = .ok (.aload_n 0, 1) := by decide +kernel
theorem dr_cX14_next_112 : decode cX14_next 112 = .ok (.getfield 44, 3) := by decide +kernel
theorem dr_cX14_next_115 : decode cX14_next 115 = .ok (.putfield 47, 3) := by decide +kernel
theorem wr_9_40 : (Jvm.Cond.fieldLink "SpillForgeModel$Reader" (47 : Nat) "SpillForgeModel$Reader" "place" "I") ∈ gw := gw_9 40 rfl rfl
theorem dr_cX14_next_118 : decode cX14_next 118 = .ok (.aload_n 0, 1) := by decide +kernel
theorem dr_cX14_next_119 : decode cX14_next 119 = .ok (.ldc 9, 2) := by decide +kernel
theorem dr_cX14_next_121 : decode cX14_next 121 = .ok (.putfield 11, 3) := by decide +kernel
theorem dr_cX14_next_124 : decode cX14_next 124 = .ok (.aload_n 0, 1) := by decide +kernel
theorem dr_cX14_next_125 : decode cX14_next 125 = .ok (.getfield 44, 3) := by decide +kernel
theorem dr_cX14_next_128 : decode cX14_next 128 = .ok (.aload_n 0, 1) := by decide +kernel
theorem dr_cX14_next_129 : decode cX14_next 129 = .ok (.getfield 32, 3) := by decide +kernel
theorem dr_cX14_next_132 : decode cX14_next 132 = .ok (.if_icmp .ne 9, 3) := by decide +kernel
theorem dr_cX14_next_141 : decode cX14_next 141 = .ok (.aload_n 0, 1) := by decide +kernel
theorem dr_cX14_next_142 : decode cX14_next 142 = .ok (.getfield 28, 3) := by decide +kernel
theorem dr_cX14_next_145 : decode cX14_next 145 = .ok (.aload_n 0, 1) := by decide +kernel
theorem dr_cX14_next_146 : decode cX14_next 146 = .ok (.getfield 44, 3) := by decide +kernel
theorem dr_cX14_next_149 : decode cX14_next 149 = .ok (.baload, 1) := by decide +kernel
theorem dr_cX14_next_150 : decode cX14_next 150 = .ok (.istore_n 1, 1) := by decide +kernel
theorem dr_cX14_next_209 : decode cX14_next 209 = .ok (.iload_n 1, 1) := by decide +kernel
theorem dr_cX14_next_210 : decode cX14_next 210 = .ok (.invokestatic 54, 3) := by decide +kernel
theorem dr_cX14_next_213 : decode cX14_next 213 = .ok (.ifCond .eq 10, 3) := by decide +kernel
theorem dr_cX14_next_223 : decode cX14_next 223 = .ok (.iload_n 1, 1) := by decide +kernel
theorem dr_cX14_next_224 : decode cX14_next 224 = .ok (.invokestatic 50, 3) := by decide +kernel
theorem dr_cX14_next_227 : decode cX14_next 227 = .ok (.ifCond .ne 7, 3) := by decide +kernel
theorem dr_cX14_next_234 : decode cX14_next 234 = .ok (.aload_n 0, 1) := by decide +kernel
theorem dr_cX14_next_235 : decode cX14_next 235 = .ok (.iload_n 2, 1) := by decide +kernel
theorem dr_cX14_next_236 : decode cX14_next 236 = .ok (.invokevirtual 60, 3) := by decide +kernel
theorem wr_8_218 : (Jvm.Cond.methodLink "SpillForgeModel$Reader" (60 : Nat) ({ cls := "SpillForgeModel$Reader", name := "number", desc := "(Z)V" } : Jvm.MethodName)) ∈ gw := gw_8 218 rfl rfl
theorem wr_8_221 : (Jvm.Cond.code ({ cls := "SpillForgeModel$Reader", name := "number", desc := "(Z)V" } : Jvm.MethodName) prog_17_method_6_code (4 : Nat) (Option.none : Option Jvm.ClassFile.FieldType)) ∈ gw := gw_8 221 rfl rfl
theorem wr_8_220 : (Jvm.Cond.instanceMethod ({ cls := "SpillForgeModel$Reader", name := "number", desc := "(Z)V" } : Jvm.MethodName)) ∈ gw := gw_8 220 rfl rfl
theorem wr_p_77 : Cond.selects "SpillForgeModel$Reader" ⟨"SpillForgeModel$Reader", "number", "(Z)V"⟩ ⟨"SpillForgeModel$Reader", "number", "(Z)V"⟩ ∈ gw := gw_p _ 77 rfl rfl rfl
theorem dr_cX14_next_239 : decode cX14_next 239 = .ok (.goto 8, 3) := by decide +kernel
theorem dr_cX14_next_247 : decode cX14_next 247 = .ok (.return_, 1) := by decide +kernel
theorem dr_cX14_next_230 : decode cX14_next 230 = .ok (.iload_n 2, 1) := by decide +kernel
theorem dr_cX14_next_231 : decode cX14_next 231 = .ok (.ifCond .eq 11, 3) := by decide +kernel
theorem dr_cX14_next_242 : decode cX14_next 242 = .ok (.aload_n 0, 1) := by decide +kernel
theorem dr_cX14_next_243 : decode cX14_next 243 = .ok (.iload_n 1, 1) := by decide +kernel
theorem dr_cX14_next_244 : decode cX14_next 244 = .ok (.invokevirtual 64, 3) := by decide +kernel
theorem wr_8_223 : (Jvm.Cond.methodLink "SpillForgeModel$Reader" (64 : Nat) ({ cls := "SpillForgeModel$Reader", name := "symbol", desc := "(I)V" } : Jvm.MethodName)) ∈ gw := gw_8 223 rfl rfl
theorem wr_8_226 : (Jvm.Cond.code ({ cls := "SpillForgeModel$Reader", name := "symbol", desc := "(I)V" } : Jvm.MethodName) prog_17_method_7_code (4 : Nat) (Option.none : Option Jvm.ClassFile.FieldType)) ∈ gw := gw_8 226 rfl rfl
theorem wr_8_225 : (Jvm.Cond.instanceMethod ({ cls := "SpillForgeModel$Reader", name := "symbol", desc := "(I)V" } : Jvm.MethodName)) ∈ gw := gw_8 225 rfl rfl
theorem wr_p_78 : Cond.selects "SpillForgeModel$Reader" ⟨"SpillForgeModel$Reader", "symbol", "(I)V"⟩ ⟨"SpillForgeModel$Reader", "symbol", "(I)V"⟩ ∈ gw := gw_p _ 78 rfl rfl rfl
theorem dr_cX14_next_216 : decode cX14_next 216 = .ok (.aload_n 0, 1) := by decide +kernel
theorem dr_cX14_next_217 : decode cX14_next 217 = .ok (.invokevirtual 57, 3) := by decide +kernel
theorem wr_7_225 : (Jvm.Cond.methodLink "SpillForgeModel$Reader" (57 : Nat) ({ cls := "SpillForgeModel$Reader", name := "word", desc := "()V" } : Jvm.MethodName)) ∈ gw := gw_7 225 rfl rfl
theorem wr_7_228 : (Jvm.Cond.code ({ cls := "SpillForgeModel$Reader", name := "word", desc := "()V" } : Jvm.MethodName) prog_17_method_5_code (4 : Nat) (Option.none : Option Jvm.ClassFile.FieldType)) ∈ gw := gw_7 228 rfl rfl
theorem wr_7_227 : (Jvm.Cond.instanceMethod ({ cls := "SpillForgeModel$Reader", name := "word", desc := "()V" } : Jvm.MethodName)) ∈ gw := gw_7 227 rfl rfl
theorem wr_p_76 : Cond.selects "SpillForgeModel$Reader" ⟨"SpillForgeModel$Reader", "word", "()V"⟩ ⟨"SpillForgeModel$Reader", "word", "()V"⟩ ∈ gw := gw_p _ 76 rfl rfl rfl
theorem dr_cX14_next_220 : decode cX14_next 220 = .ok (.goto 27, 3) := by decide +kernel
theorem dr_cX14_next_151 : decode cX14_next 151 = .ok (.iload_n 1, 1) := by decide +kernel
theorem dr_cX14_next_152 : decode cX14_next 152 = .ok (.bipush 45, 2) := by decide +kernel
theorem dr_cX14_next_154 : decode cX14_next 154 = .ok (.if_icmp .ne 53, 3) := by decide +kernel
theorem dr_cX14_next_207 : decode cX14_next 207 = .ok (.iconst 0, 1) := by decide +kernel
theorem dr_cX14_next_208 : decode cX14_next 208 = .ok (.istore_n 2, 1) := by decide +kernel
theorem dr_cX14_next_157 : decode cX14_next 157 = .ok (.aload_n 0, 1) := by decide +kernel
theorem dr_cX14_next_158 : decode cX14_next 158 = .ok (.getfield 44, 3) := by decide +kernel
theorem dr_cX14_next_161 : decode cX14_next 161 = .ok (.iconst 1, 1) := by decide +kernel
theorem dr_cX14_next_162 : decode cX14_next 162 = .ok (.iadd, 1) := by decide +kernel
theorem dr_cX14_next_163 : decode cX14_next 163 = .ok (.aload_n 0, 1) := by decide +kernel
theorem dr_cX14_next_164 : decode cX14_next 164 = .ok (.getfield 32, 3) := by decide +kernel
theorem dr_cX14_next_167 : decode cX14_next 167 = .ok (.if_icmp .ge 40, 3) := by decide +kernel
theorem dr_cX14_next_170 : decode cX14_next 170 = .ok (.aload_n 0, 1) := by decide +kernel
theorem dr_cX14_next_171 : decode cX14_next 171 = .ok (.getfield 28, 3) := by decide +kernel
theorem dr_cX14_next_174 : decode cX14_next 174 = .ok (.aload_n 0, 1) := by decide +kernel
theorem dr_cX14_next_175 : decode cX14_next 175 = .ok (.getfield 44, 3) := by decide +kernel
theorem dr_cX14_next_178 : decode cX14_next 178 = .ok (.iconst 1, 1) := by decide +kernel
theorem dr_cX14_next_179 : decode cX14_next 179 = .ok (.iadd, 1) := by decide +kernel
theorem dr_cX14_next_180 : decode cX14_next 180 = .ok (.baload, 1) := by decide +kernel
theorem dr_cX14_next_181 : decode cX14_next 181 = .ok (.invokestatic 50, 3) := by decide +kernel
theorem dr_cX14_next_184 : decode cX14_next 184 = .ok (.ifCond .eq 23, 3) := by decide +kernel
theorem dr_cX14_next_187 : decode cX14_next 187 = .ok (.aload_n 0, 1) := by decide +kernel
theorem dr_cX14_next_188 : decode cX14_next 188 = .ok (.getfield 41, 3) := by decide +kernel
theorem dr_cX14_next_191 : decode cX14_next 191 = .ok (.iconst 2, 1) := by decide +kernel
theorem dr_cX14_next_192 : decode cX14_next 192 = .ok (.if_icmp .eq 15, 3) := by decide +kernel
theorem dr_cX14_next_195 : decode cX14_next 195 = .ok (.aload_n 0, 1) := by decide +kernel
theorem dr_cX14_next_196 : decode cX14_next 196 = .ok (.getfield 41, 3) := by decide +kernel
theorem dr_cX14_next_199 : decode cX14_next 199 = .ok (.iconst 4, 1) := by decide +kernel
theorem dr_cX14_next_200 : decode cX14_next 200 = .ok (.if_icmp .eq 7, 3) := by decide +kernel
theorem dr_cX14_next_203 : decode cX14_next 203 = .ok (.iconst 1, 1) := by decide +kernel
theorem dr_cX14_next_204 : decode cX14_next 204 = .ok (.goto 4, 3) := by decide +kernel
theorem dr_cX14_next_135 : decode cX14_next 135 = .ok (.aload_n 0, 1) := by decide +kernel
theorem dr_cX14_next_136 : decode cX14_next 136 = .ok (.iconst 0, 1) := by decide +kernel
theorem dr_cX14_next_137 : decode cX14_next 137 = .ok (.putfield 38, 3) := by decide +kernel
theorem dr_cX14_next_140 : decode cX14_next 140 = .ok (.return_, 1) := by decide +kernel
theorem dr_cX14_next_19 : decode cX14_next 19 = .ok (.aload_n 0, 1) := by decide +kernel
theorem dr_cX14_next_20 : decode cX14_next 20 = .ok (.getfield 28, 3) := by decide +kernel
theorem dr_cX14_next_23 : decode cX14_next 23 = .ok (.aload_n 0, 1) := by decide +kernel
theorem dr_cX14_next_24 : decode cX14_next 24 = .ok (.getfield 44, 3) := by decide +kernel
theorem dr_cX14_next_27 : decode cX14_next 27 = .ok (.baload, 1) := by decide +kernel
theorem dr_cX14_next_28 : decode cX14_next 28 = .ok (.istore_n 1, 1) := by decide +kernel
theorem dr_cX14_next_29 : decode cX14_next 29 = .ok (.iload_n 1, 1) := by decide +kernel
theorem dr_cX14_next_30 : decode cX14_next 30 = .ok (.bipush 59, 2) := by decide +kernel
theorem dr_cX14_next_32 : decode cX14_next 32 = .ok (.if_icmp .ne 41, 3) := by decide +kernel
theorem dr_cX14_next_73 : decode cX14_next 73 = .ok (.iload_n 1, 1) := by decide +kernel
theorem dr_cX14_next_74 : decode cX14_next 74 = .ok (.bipush 9, 2) := by decide +kernel
theorem dr_cX14_next_76 : decode cX14_next 76 = .ok (.if_icmp .eq 21, 3) := by decide +kernel
theorem dr_cX14_next_97 : decode cX14_next 97 = .ok (.aload_n 0, 1) := by decide +kernel
theorem dr_cX14_next_98 : decode cX14_next 98 = .ok (.dup, 1) := by decide +kernel
theorem dr_cX14_next_99 : decode cX14_next 99 = .ok (.getfield 44, 3) := by decide +kernel
theorem dr_cX14_next_102 : decode cX14_next 102 = .ok (.iconst 1, 1) := by decide +kernel
theorem dr_cX14_next_103 : decode cX14_next 103 = .ok (.iadd, 1) := by decide +kernel
theorem dr_cX14_next_104 : decode cX14_next 104 = .ok (.putfield 44, 3) := by decide +kernel
theorem dr_cX14_next_107 : decode cX14_next 107 = .ok (.goto (-99), 3) := by decide +kernel
theorem dr_cX14_next_79 : decode cX14_next 79 = .ok (.iload_n 1, 1) := by decide +kernel
theorem dr_cX14_next_80 : decode cX14_next 80 = .ok (.bipush 10, 2) := by decide +kernel
theorem dr_cX14_next_82 : decode cX14_next 82 = .ok (.if_icmp .eq 15, 3) := by decide +kernel
theorem dr_cX14_next_85 : decode cX14_next 85 = .ok (.iload_n 1, 1) := by decide +kernel
theorem dr_cX14_next_86 : decode cX14_next 86 = .ok (.bipush 13, 2) := by decide +kernel
theorem dr_cX14_next_88 : decode cX14_next 88 = .ok (.if_icmp .eq 9, 3) := by decide +kernel
theorem dr_cX14_next_91 : decode cX14_next 91 = .ok (.iload_n 1, 1) := by decide +kernel
theorem dr_cX14_next_92 : decode cX14_next 92 = .ok (.bipush 32, 2) := by decide +kernel
theorem dr_cX14_next_94 : decode cX14_next 94 = .ok (.if_icmp .ne 16, 3) := by decide +kernel
theorem dr_cX14_next_35 : decode cX14_next 35 = .ok (.aload_n 0, 1) := by decide +kernel
theorem dr_cX14_next_36 : decode cX14_next 36 = .ok (.getfield 44, 3) := by decide +kernel
theorem dr_cX14_next_39 : decode cX14_next 39 = .ok (.aload_n 0, 1) := by decide +kernel
theorem dr_cX14_next_40 : decode cX14_next 40 = .ok (.getfield 32, 3) := by decide +kernel
theorem dr_cX14_next_43 : decode cX14_next 43 = .ok (.if_icmp .ge 64, 3) := by decide +kernel
theorem dr_cX14_next_46 : decode cX14_next 46 = .ok (.aload_n 0, 1) := by decide +kernel
theorem dr_cX14_next_47 : decode cX14_next 47 = .ok (.getfield 28, 3) := by decide +kernel
theorem dr_cX14_next_50 : decode cX14_next 50 = .ok (.aload_n 0, 1) := by decide +kernel
theorem dr_cX14_next_51 : decode cX14_next 51 = .ok (.getfield 44, 3) := by decide +kernel
theorem dr_cX14_next_54 : decode cX14_next 54 = .ok (.baload, 1) := by decide +kernel
theorem dr_cX14_next_55 : decode cX14_next 55 = .ok (.bipush 10, 2) := by decide +kernel
theorem dr_cX14_next_57 : decode cX14_next 57 = .ok (.if_icmp .eq 50, 3) := by decide +kernel
theorem dr_cX14_next_60 : decode cX14_next 60 = .ok (.aload_n 0, 1) := by decide +kernel
theorem dr_cX14_next_61 : decode cX14_next 61 = .ok (.dup, 1) := by decide +kernel
theorem dr_cX14_next_62 : decode cX14_next 62 = .ok (.getfield 44, 3) := by decide +kernel
theorem dr_cX14_next_65 : decode cX14_next 65 = .ok (.iconst 1, 1) := by decide +kernel
theorem dr_cX14_next_66 : decode cX14_next 66 = .ok (.iadd, 1) := by decide +kernel
theorem dr_cX14_next_67 : decode cX14_next 67 = .ok (.putfield 44, 3) := by decide +kernel
theorem dr_cX14_next_70 : decode cX14_next 70 = .ok (.goto (-35), 3) := by decide +kernel
abbrev ky_653750_Reader_next : gKey := (cX14_next, 3, "SpillForgeModel$Reader", none, [], "next", fun _ _ => True)
def pp_653750_Reader_next (D : va_G) (I : FieldType → ClassId) (P653729 : List Nat) (F653730 : Nat → va_E) (q653731 : Nat) (q653732 : Nat) (p653733 : Int32) (p653734 : Int32) (p653735 : Int32) (p653736 : Int32) (p653737 : Int32) (p653738 : Int32) (qo653739 : Nat) (p653740 : Int32) (p653741 : Int32) (p653742 : Int32) (qo653743 : Nat) (qo653744 : Nat) (p653745 : Int32) (f653746 : Nat → Int32) : Option Value → va_W → Nat → Nat → Prop := fun r w dc ds => ∃ (P655361 : List Nat) (F655362 : Nat → va_E) (o655356 : Int32) (o655357 : Int32) (o655358 : Int32) (o655359 : Int32) (q655360 : Nat), r = none ∧ w = va_pl P655361 F655362 ∧ rSub P653729 P655361 ∧ rFr [q653731] P653729 F653730 F655362 ∧ F655362 q653731 = .inr (19, [.ref q653732, .int p653733, .int o655356, .int o655357, .int o655358, .int o655359, .int p653735, .ref q655360, .int p653740, .int p653741, .int p653742, .ref qo653743, .ref qo653744, .int p653745]) ∧ F655362 q653732 = .inl (I .byte, 8192, .inl f653746) ∧ dc ≤ (16 * (o655356.toInt - p653734.toInt)).toNat ∧ ds ≤ (256 * (o655356.toInt - p653734.toInt)).toNat ∧ gB o655356 0 8192 ∧ gB o655357 0 6 ∧ gB o655358 0 8192 ∧ p653734.toInt ≤ o655356.toInt ∧ prP o655357 p653734 o655356 ∧ o655356.toInt ≤ p653733.toInt ∧ tP I P655361 F655362 o655357 q655360 qo653744 qo653743 ∧ vP o655357 o655359
set_option maxRecDepth 100000 in
set_option maxHeartbeats 4000000 in
theorem cp_653750_Reader_next (l : Launch) (hl0 : l.stackTraces = false) (D : va_G) (I : FieldType → ClassId) (P653729 : List Nat) (F653730 : Nat → va_E) (q653731 : Nat) (q653732 : Nat) (p653733 : Int32) (p653734 : Int32) (p653735 : Int32) (p653736 : Int32) (p653737 : Int32) (p653738 : Int32) (qo653739 : Nat) (p653740 : Int32) (p653741 : Int32) (p653742 : Int32) (qo653743 : Nat) (qo653744 : Nat) (p653745 : Int32) (f653746 : Nat → Int32) (hmq653731 : q653731 ∈ P653729) (hmq653732 : q653732 ∈ P653729) (heq653731 : F653730 q653731 = .inr (19, [.ref q653732, .int p653733, .int p653734, .int p653735, .int p653736, .int p653737, .int p653738, .ref qo653739, .int p653740, .int p653741, .int p653742, .ref qo653743, .ref qo653744, .int p653745])) (heq653732 : F653730 q653732 = .inl (I .byte, 8192, .inl f653746)) (bp653733 : gB p653733 0 8192) (bp653734 : gB p653734 0 8192) (bp653735 : gB p653735 0 6) (bp653736 : gB p653736 0 8192) (bp653738 : gB p653738 0 6) (bp653740 : gB p653740 (-1) 8192) (bp653741 : gB p653741 0 4) (bp653742 : gB p653742 0 1000000) (bp653745 : gB p653745 0 1000000) (bf653746 : gF f653746 (-128) 127) (x653747 : p653734.toInt ≤ p653733.toInt) (x653748 : qo653744 ∈ P653729) (x653749 : qo653743 ∈ P653729) : CtA (gV D I) l yX14_next cX14_next 3 none 7 155 ((16 * (p653733.toInt - p653734.toInt)).toNat) ((256 * (p653733.toInt - p653734.toInt)).toNat) [.ref q653731] (va_pl P653729 F653730) (pp_653750_Reader_next D I P653729 F653730 q653731 q653732 p653733 p653734 p653735 p653736 p653737 p653738 qo653739 p653740 p653741 p653742 qo653743 qo653744 p653745 f653746) gNA := by
  refine CtA_of hl0 (by decide) (Nat.le_of_ble_eq_true rfl) ?_
  have bp653737 := gB_any p653737
  refine G_aload_n 0 dr_cX14_next_0 rfl ?_
  refine G_aload_n 0 dr_cX14_next_1 rfl ?_
  refine Gp_get 3 hmq653731 heq653731 dr_cX14_next_2 (gk_X14 D I) (Nat.le_of_ble_eq_true rfl) wr_9_39 rfl ?_
  refine Gp_put 6 hmq653731 heq653731 dr_cX14_next_5 (gk_X14 D I) (Nat.le_of_ble_eq_true rfl) wr_9_42 rfl rfl rfl (Nat.le_of_ble_eq_true rfl) (fun F653751 e653752 n653753 => ?_)
  have he653754 : F653751 q653732 = .inl (I .byte, 8192, .inl f653746) := (n653753 q653732 (rn_ao heq653732 heq653731)).trans heq653732
  have he653755 : F653751 q653731 = .inr (19, [.ref q653732, .int p653733, .int p653734, .int p653735, .int p653736, .int p653737, .int p653735, .ref qo653739, .int p653740, .int p653741, .int p653742, .ref qo653743, .ref qo653744, .int p653745]) := e653752
  have hfr653756 : rFr [q653731] P653729 F653730 F653751 := rFr_put (rFr_rf (W := []) (P := P653729) (F := F653730)) n653753
  have hlp8_654822 : ∀ (n8_654822 : Nat) (F654817 : Nat → va_E) (g654816 : Int32), gB g654816 0 8192 → rFr [q653731] P653729 F653730 F654817 → F654817 q653731 = .inr (19, [.ref q653732, .int p653733, .int g654816, .int p653735, .int p653736, .int p653737, .int p653735, .ref qo653739, .int p653740, .int p653741, .int p653742, .ref qo653743, .ref qo653744, .int p653745]) → F654817 q653732 = .inl (I .byte, 8192, .inl f653746) → p653734.toInt ≤ g654816.toInt → g654816.toInt ≤ p653733.toInt → ((p653733.toInt : Int) + 1 - g654816.toInt).toNat < n8_654822 → G (gV D I) l (gRm 7 155 ((16 * (p653733.toInt - p653734.toInt)).toNat) ((256 * (p653733.toInt - p653734.toInt)).toNat)) (gMA (gV D I) (pp_653750_Reader_next D I P653729 F653730 q653731 q653732 p653733 p653734 p653735 p653736 p653737 p653738 qo653739 p653740 p653741 p653742 qo653743 qo653744 p653745 f653746) gNA ((16 * (p653733.toInt - p653734.toInt)).toNat) ((256 * (p653733.toInt - p653734.toInt)).toNat)) ky_653750_Reader_next 8 [(0, .ref q653731)] [] (va_pl P653729 F654817) 0 0 := by
    intro n8_654822
    induction n8_654822 with
    | zero => intro F654817 g654816 bg654816 hfr654820 he654818 he654819 x654821 x654822 hm8_654822; exact absurd hm8_654822 (Nat.not_lt_zero _)
    | succ n8_654822 ih8_654822 =>
      intro F654817 g654816 bg654816 hfr654820 he654818 he654819 x654821 x654822 hm8_654822
      refine G_aload_n 0 dr_cX14_next_8 rfl ?_
      refine Gp_get 2 hmq653731 he654818 dr_cX14_next_9 (gk_X14 D I) (Nat.le_of_ble_eq_true rfl) wr_9_38 rfl ?_
      refine G_aload_n 0 dr_cX14_next_12 rfl ?_
      refine Gp_get 1 hmq653731 he654818 dr_cX14_next_13 (gk_X14 D I) (Nat.le_of_ble_eq_true rfl) wr_9_37 rfl ?_
      refine G_icmp_ge 110 dr_cX14_next_16 (by decide +kernel) (fun hc654823 => ?_) (fun hc654823 => ?_)
      · have r654824 : p653733.toInt ≤ g654816.toInt := gC_le hc654823
        clear he653754 he653755 hfr653756
        refine G_aload_n 0 dr_cX14_next_110 rfl ?_
        refine G_aload_n 0 dr_cX14_next_111 rfl ?_
        refine Gp_get 2 hmq653731 he654818 dr_cX14_next_112 (gk_X14 D I) (Nat.le_of_ble_eq_true rfl) wr_9_38 rfl ?_
        refine Gp_put 4 hmq653731 he654818 dr_cX14_next_115 (gk_X14 D I) (Nat.le_of_ble_eq_true rfl) wr_9_40 rfl rfl rfl (Nat.le_of_ble_eq_true rfl) (fun F654825 e654826 n654827 => ?_)
        have he654828 : F654825 q653732 = .inl (I .byte, 8192, .inl f653746) := (n654827 q653732 (rn_ao he654819 he654818)).trans he654819
        have he654829 : F654825 q653731 = .inr (19, [.ref q653732, .int p653733, .int g654816, .int p653735, .int g654816, .int p653737, .int p653735, .ref qo653739, .int p653740, .int p653741, .int p653742, .ref qo653743, .ref qo653744, .int p653745]) := e654826
        have hfr654830 : rFr [q653731] P653729 F653730 F654825 := rFr_put' List.mem_cons_self hfr654820 n654827
        refine G_aload_n 0 dr_cX14_next_118 rfl ?_
        refine G_ldcK (a := D.2 1000 32) dr_cX14_next_119 (fun _ _ _ h => gx_vk 32 rfl rfl h) ?_
        have hl32_654830 : (sb_32.length : Int) = 0 := rfl
        refine Gp_put 7 hmq653731 he654829 dr_cX14_next_121 (gk_X14 D I) (Nat.le_of_ble_eq_true rfl) wr_9_43 rfl rfl rfl (Nat.le_of_ble_eq_true rfl) (fun F654832 e654833 n654834 => ?_)
        have he654835 : F654832 q653732 = .inl (I .byte, 8192, .inl f653746) := (n654834 q653732 (rn_ao he654828 he654829)).trans he654828
        have he654836 : F654832 q653731 = .inr (19, [.ref q653732, .int p653733, .int g654816, .int p653735, .int g654816, .int p653737, .int p653735, .ref (D.2 1000 32), .int p653740, .int p653741, .int p653742, .ref qo653743, .ref qo653744, .int p653745]) := e654833
        have hfr654837 : rFr [q653731] P653729 F653730 F654832 := rFr_put' List.mem_cons_self hfr654830 n654834
        clear he654828 he654829 hfr654830
        refine G_aload_n 0 dr_cX14_next_124 rfl ?_
        refine Gp_get 2 hmq653731 he654836 dr_cX14_next_125 (gk_X14 D I) (Nat.le_of_ble_eq_true rfl) wr_9_38 rfl ?_
        refine G_aload_n 0 dr_cX14_next_128 rfl ?_
        refine Gp_get 1 hmq653731 he654836 dr_cX14_next_129 (gk_X14 D I) (Nat.le_of_ble_eq_true rfl) wr_9_37 rfl ?_
        refine G_icmp_ne 141 dr_cX14_next_132 (by decide +kernel) (fun hc654838 => ?_) (fun hc654838 => ?_)
        · have r654839 : g654816.toInt ≠ p653733.toInt := gC_ne hc654838
          refine G_aload_n 0 dr_cX14_next_141 rfl ?_
          refine Gp_get 0 hmq653731 he654836 dr_cX14_next_142 (gk_X14 D I) (Nat.le_of_ble_eq_true rfl) wr_9_36 rfl ?_
          refine G_aload_n 0 dr_cX14_next_145 rfl ?_
          refine Gp_get 2 hmq653731 he654836 dr_cX14_next_146 (gk_X14 D I) (Nat.le_of_ble_eq_true rfl) wr_9_38 rfl ?_
          refine Gp_bald 1 hmq653732 he654835 dr_cX14_next_149 rfl (gB_inr (by omega) (by omega)) (G_nam fun z654840 hz654840 => ?_)
          have bz654840 : gB z654840 (-128) 127 := by rw [hz654840]; exact bf653746 _
          refine G_istore_n (L' := [(1, .int z654840), (0, .ref q653731)]) dr_cX14_next_150 (Nat.le_of_ble_eq_true rfl) rfl ?_
          have jn654841 : G (gV D I) l (gRm 7 155 ((16 * (p653733.toInt - p653734.toInt)).toNat) ((256 * (p653733.toInt - p653734.toInt)).toNat)) (gMA (gV D I) (pp_653750_Reader_next D I P653729 F653730 q653731 q653732 p653733 p653734 p653735 p653736 p653737 p653738 qo653739 p653740 p653741 p653742 qo653743 qo653744 p653745 f653746) gNA ((16 * (p653733.toInt - p653734.toInt)).toNat) ((256 * (p653733.toInt - p653734.toInt)).toNat)) ky_653750_Reader_next 209 [(2, .int 0), (1, .int z654840), (0, .ref q653731)] [] (va_pl P653729 F654832) 0 0 := by
            refine G_iload_n 1 dr_cX14_next_209 rfl ?_
            refine Gw_callS (As := [.int z654840]) (gV_ok D I) (cp_651516_Reader_isLetter l hl0 D I P653729 F654832 z654840 ) dr_cX14_next_210 ⟨wr_7_222, wr_1_32, wr_7_224, by decide, rfl, (Nat.le_of_ble_eq_true rfl), (Nat.le_of_ble_eq_true rfl)⟩ wr_7_223 (show 0 + 0 ≤ ((16 * (p653733.toInt - p653734.toInt)).toNat) by first | omega | decide) (show 0 + 0 ≤ ((256 * (p653733.toInt - p653734.toInt)).toNat) by first | omega | decide) (Nat.le_of_ble_eq_true rfl) (fun r654845 w654846 dc654842 ds654843 hp654844 => ?_) (fun _ _ _ _ _ z => z.elim)
            obtain ⟨o654847, rfl, rfl, hdc, hds, bo654847, x654848⟩ := hp654844
            change G _ _ _ _ _ _ _ (.int o654847 :: _) _ _ _
            refine G_widen (cs' := 0) (sl' := 0) (by omega) (by omega) ?_
            refine G_if_eq 223 dr_cX14_next_213 (by decide +kernel) (fun hc654849 => ?_) (fun hc654849 => ?_)
            · have r654850 : o654847.toInt = 0 := gj_eq hc654849 (show Int32.toInt 0 = 0 by decide)
              have bo654847' : gB o654847 0 0 := ⟨by omega, by omega⟩
              clear bo654847 bo654847'; try clear r654845; try clear w654846; try clear dc654842; try clear ds654843; try clear hp654844; try clear x654848; try clear r654850
              refine G_iload_n 1 dr_cX14_next_223 rfl ?_
              refine Gw_callS (As := [.int z654840]) (gV_ok D I) (cp_649619_Reader_isDigit l hl0 D I P653729 F654832 z654840 ) dr_cX14_next_224 ⟨wr_7_219, wr_1_32, wr_7_221, by decide, rfl, (Nat.le_of_ble_eq_true rfl), (Nat.le_of_ble_eq_true rfl)⟩ wr_7_220 (show 0 + 0 ≤ ((16 * (p653733.toInt - p653734.toInt)).toNat) by first | omega | decide) (show 0 + 0 ≤ ((256 * (p653733.toInt - p653734.toInt)).toNat) by first | omega | decide) (Nat.le_of_ble_eq_true rfl) (fun r654854 w654855 dc654851 ds654852 hp654853 => ?_) (fun _ _ _ _ _ z => z.elim)
              obtain ⟨o654856, rfl, rfl, hdc, hds, bo654856, x654857⟩ := hp654853
              change G _ _ _ _ _ _ _ (.int o654856 :: _) _ _ _
              refine G_widen (cs' := 0) (sl' := 0) (by omega) (by omega) ?_
              refine G_if_ne 234 dr_cX14_next_227 (by decide +kernel) (fun hc654858 => ?_) (fun hc654858 => ?_)
              · have r654859 : o654856.toInt ≠ 0 := gj_neq hc654858 (show Int32.toInt 0 = 0 by decide)
                have bo654856' : gB o654856 1 1 := ⟨by omega, by omega⟩
                have bi654860 : gB z654840 48 57 := isP_1 x654857 (by omega)
                refine G_aload_n 2 dr_cX14_next_234 rfl ?_
                refine G_iload_n 0 dr_cX14_next_235 rfl ?_
                refine Gw_callV (As := [.int 0]) (gV_ok D I) (cp_649583_Reader_number l hl0 D I P653729 F654832 q653731 q653732 0 p653733 g654816 p653735 g654816 p653737 p653735 (D.2 1000 32) p653740 p653741 p653742 qo653743 qo653744 p653745 f653746 hmq653731 hmq653732 he654836 he654835 (gB_w (gBl (show Int32.toInt 0 = 0 by decide)) (by decide) (by decide)) bp653733 bg654816 bp653735 bg654816 bp653735 bp653740 bp653741 bp653742 bp653745 bf653746 (by have qa0 : Int32.toInt 0 = 0 := (by decide); omega) (by have qa0 : Int32.toInt 0 = 0 := (by decide); omega) (by first | assumption | exact cDg_no (by omega) | exact cDg_no (by decide) | exact cDg_of (by assumption) (by omega) (by omega)) x653748 x653749) dr_cX14_next_236 ⟨wr_8_218, wr_1_32, wr_8_221, by decide, rfl, (Nat.le_of_ble_eq_true rfl), (Nat.le_of_ble_eq_true rfl)⟩ wr_8_220 wr_p_77 hmq653731 he654836 rfl (show 0 + ((16 * (p653733.toInt - g654816.toInt)).toNat) ≤ ((16 * (p653733.toInt - p653734.toInt)).toNat) by first | omega | decide) (show 0 + ((256 * (p653733.toInt - g654816.toInt)).toNat) ≤ ((256 * (p653733.toInt - p653734.toInt)).toNat) by first | omega | decide) (Nat.le_of_ble_eq_true rfl) (fun r654864 w654865 dc654861 ds654862 hp654863 => ?_) (fun _ _ _ _ _ z => z.elim)
                obtain ⟨F654873, o654866, o654867, o654868, rfl, rfl, hfr654875, he654876, he654877, hdc, hds, bo654866, bo654867, x654869, x654870, x654871, x654872⟩ := hp654863
                have hfr654878 : rFr [q653731] P653729 F653730 F654873 := rFr_call (rSub_rf (P := P653729)) hfr654837 hfr654875 (fun b hb hn => ⟨(nm_c (fun e => hn (e ▸ List.mem_cons_self)) nm_n), (nm_c (fun e => hn (e ▸ List.mem_cons_self)) nm_n)⟩)
                have bo654868 := gB_any o654868
                change G _ _ _ _ _ _ _ _ _ _ _
                refine G_widen (cs' := (16 * (o654866.toInt - g654816.toInt)).toNat) (sl' := (256 * (o654866.toInt - g654816.toInt)).toNat) (by omega) (by omega) ?_
                refine G_goto 247 dr_cX14_next_239 (by decide +kernel) ?_
                exact G_vretA dr_cX14_next_247 rfl (show (16 * (o654866.toInt - g654816.toInt)).toNat ≤ ((16 * (p653733.toInt - p653734.toInt)).toNat) by omega) (show (256 * (o654866.toInt - g654816.toInt)).toNat ≤ ((256 * (p653733.toInt - p653734.toInt)).toNat) by omega) ⟨P653729, F654873, o654866, o654867, g654816, o654868, (D.2 1000 32), rfl, rfl, (rSub_rf (P := P653729)), hfr654878, he654876, he654877, (by omega), (by omega), bo654866, (gB_w bo654867 (by decide) (by decide)), bg654816, (by have qa0 : Int32.toInt 0 = 0 := (by decide); omega), (Or.inr (by omega)), (by have qa0 : Int32.toInt 0 = 0 := (by decide); omega), (by first | exact tP_no (by omega) (by omega) | assumption), x654872⟩
              · have r654879 : o654856.toInt = 0 := gj_eq hc654858 (show Int32.toInt 0 = 0 by decide)
                have bo654856' : gB o654856 0 0 := ⟨by omega, by omega⟩
                refine G_iload_n 0 dr_cX14_next_230 rfl ?_
                refine G_if_eq 242 dr_cX14_next_231 (by decide +kernel) (fun _ => ?_) (fun hc => absurd hc (by decide))
                refine G_aload_n 2 dr_cX14_next_242 rfl ?_
                refine G_iload_n 1 dr_cX14_next_243 rfl ?_
                refine Gw_callV (As := [.int z654840]) (gV_ok D I) (cp_650189_Reader_symbol l hl0 D I P653729 F654832 q653731 q653732 z654840 p653733 g654816 p653735 g654816 p653737 p653735 (D.2 1000 32) p653740 p653741 p653742 qo653743 qo653744 p653745 f653746 hmq653731 hmq653732 he654836 he654835 bz654840 bp653733 bg654816 bp653735 bg654816 bp653735 bp653740 bp653741 bp653742 bp653745 bf653746 (by have qa0 : Int32.toInt 0 = 0 := (by decide); omega) (by have qa0 : Int32.toInt 0 = 0 := (by decide); omega) x653748 x653749) dr_cX14_next_244 ⟨wr_8_223, wr_1_32, wr_8_226, by decide, rfl, (Nat.le_of_ble_eq_true rfl), (Nat.le_of_ble_eq_true rfl)⟩ wr_8_225 wr_p_78 hmq653731 he654836 rfl (show 0 + ((16 * (p653733.toInt - g654816.toInt)).toNat) ≤ ((16 * (p653733.toInt - p653734.toInt)).toNat) by first | omega | decide) (show 0 + ((256 * (p653733.toInt - g654816.toInt)).toNat) ≤ ((256 * (p653733.toInt - p653734.toInt)).toNat) by first | omega | decide) (Nat.le_of_ble_eq_true rfl) (fun r654883 w654884 dc654880 ds654881 hp654882 => ?_) (fun _ _ _ _ _ z => z.elim)
                obtain ⟨P654892, F654893, o654885, o654886, q654887, rfl, rfl, hsb654894, hfr654895, he654896, he654897, hdc, hds, bo654885, bo654886, x654888, x654889, x654890, x654891⟩ := hp654882
                have hm654898 : q653731 ∈ P654892 := hsb654894 q653731 hmq653731
                have hm654899 : q653732 ∈ P654892 := hsb654894 q653732 hmq653732
                have hsb654900 : rSub P653729 P654892 := rSub_tr (rSub_rf (P := P653729)) hsb654894
                have hfr654901 : rFr [q653731] P653729 F653730 F654893 := rFr_call (rSub_rf (P := P653729)) hfr654837 hfr654895 (fun b hb hn => ⟨(nm_c (fun e => hn (e ▸ List.mem_cons_self)) nm_n), (nm_c (fun e => hn (e ▸ List.mem_cons_self)) nm_n)⟩)
                change G _ _ _ _ _ _ _ _ _ _ _
                refine G_widen (cs' := (16 * (o654885.toInt - g654816.toInt)).toNat) (sl' := (256 * (o654885.toInt - g654816.toInt)).toNat) (by omega) (by omega) ?_
                exact G_vretA dr_cX14_next_247 rfl (show (16 * (o654885.toInt - g654816.toInt)).toNat ≤ ((16 * (p653733.toInt - p653734.toInt)).toNat) by omega) (show (256 * (o654885.toInt - g654816.toInt)).toNat ≤ ((256 * (p653733.toInt - p653734.toInt)).toNat) by omega) ⟨P654892, F654893, o654885, o654886, g654816, p653737, q654887, rfl, rfl, hsb654900, hfr654901, he654896, he654897, (by omega), (by omega), (gB_w bo654885 (by decide) (by decide)), (gB_w bo654886 (by decide) (by decide)), bg654816, (by have qa0 : Int32.toInt 0 = 0 := (by decide); omega), (Or.inr (by omega)), (by have qa0 : Int32.toInt 0 = 0 := (by decide); omega), x654890, x654891⟩
            · have r654902 : o654847.toInt ≠ 0 := gj_neq hc654849 (show Int32.toInt 0 = 0 by decide)
              have bo654847' : gB o654847 1 1 := ⟨by omega, by omega⟩
              have bi654903 : gB z654840 97 122 := isP_1 x654848 (by omega)
              refine G_aload_n 2 dr_cX14_next_216 rfl ?_
              refine Gw_callV (As := []) (gV_ok D I) (cp_651181_Reader_word l hl0 D I P653729 F654832 q653731 q653732 p653733 g654816 p653735 g654816 p653737 p653735 (D.2 1000 32) p653740 p653741 p653742 qo653743 qo653744 p653745 f653746 hmq653731 hmq653732 he654836 he654835 bp653733 bg654816 bp653735 bg654816 bp653735 bp653740 bp653741 bp653742 bp653745 bf653746 (by have qa0 : Int32.toInt 0 = 0 := (by decide); omega) (by have qa0 : Int32.toInt 0 = 0 := (by decide); omega) (by first | assumption | exact cLt_of (by assumption) (by omega) (by omega)) x653748 x653749) dr_cX14_next_217 ⟨wr_7_225, wr_1_32, wr_7_228, by decide, rfl, (Nat.le_of_ble_eq_true rfl), (Nat.le_of_ble_eq_true rfl)⟩ wr_7_227 wr_p_76 hmq653731 he654836 rfl (show 0 + ((16 * (p653733.toInt - g654816.toInt)).toNat) ≤ ((16 * (p653733.toInt - p653734.toInt)).toNat) by first | omega | decide) (show 0 + ((256 * (p653733.toInt - g654816.toInt)).toNat) ≤ ((256 * (p653733.toInt - p653734.toInt)).toNat) by first | omega | decide) (Nat.le_of_ble_eq_true rfl) (fun r654907 w654908 dc654904 ds654905 hp654906 => ?_) (fun _ _ _ _ _ z => z.elim)
              obtain ⟨P654917, F654918, o654909, o654910, o654911, q654912, rfl, rfl, hsb654919, hfr654920, he654921, he654922, hdc, hds, bo654909, bo654910, x654913, x654914, x654915, x654916⟩ := hp654906
              have hm654923 : q653731 ∈ P654917 := hsb654919 q653731 hmq653731
              have hm654924 : q653732 ∈ P654917 := hsb654919 q653732 hmq653732
              have hsb654925 : rSub P653729 P654917 := rSub_tr (rSub_rf (P := P653729)) hsb654919
              have hfr654926 : rFr [q653731] P653729 F653730 F654918 := rFr_call (rSub_rf (P := P653729)) hfr654837 hfr654920 (fun b hb hn => ⟨(nm_c (fun e => hn (e ▸ List.mem_cons_self)) nm_n), (nm_c (fun e => hn (e ▸ List.mem_cons_self)) nm_n)⟩)
              have bo654911 := gB_any o654911
              change G _ _ _ _ _ _ _ _ _ _ _
              refine G_widen (cs' := (16 * (o654909.toInt - g654816.toInt)).toNat) (sl' := (256 * (o654909.toInt - g654816.toInt)).toNat) (by omega) (by omega) ?_
              refine G_goto 247 dr_cX14_next_220 (by decide +kernel) ?_
              exact G_vretA dr_cX14_next_247 rfl (show (16 * (o654909.toInt - g654816.toInt)).toNat ≤ ((16 * (p653733.toInt - p653734.toInt)).toNat) by omega) (show (256 * (o654909.toInt - g654816.toInt)).toNat ≤ ((256 * (p653733.toInt - p653734.toInt)).toNat) by omega) ⟨P654917, F654918, o654909, o654910, g654816, o654911, q654912, rfl, rfl, hsb654925, hfr654926, he654921, he654922, (by omega), (by omega), bo654909, (gB_w bo654910 (by decide) (by decide)), bg654816, (by have qa0 : Int32.toInt 0 = 0 := (by decide); omega), (Or.inr (by omega)), (by have qa0 : Int32.toInt 0 = 0 := (by decide); omega), x654915, x654916⟩
          refine G_iload_n 0 dr_cX14_next_151 rfl ?_
          refine G_bipush 45 dr_cX14_next_152 (by decide +kernel) ?_
          refine G_icmp_ne 207 dr_cX14_next_154 (by decide +kernel) (fun hc654927 => ?_) (fun hc654927 => ?_)
          · have r654928 : z654840.toInt ≠ 45 := gj_neq hc654927 (show Int32.toInt 45 = 45 by decide)
            refine G_iconst 0 dr_cX14_next_207 (by decide +kernel) ?_
            refine G_istore_n (L' := [(2, .int 0), (1, .int z654840), (0, .ref q653731)]) dr_cX14_next_208 (Nat.le_of_ble_eq_true rfl) rfl ?_
            refine G_lv (L' := [(2, .int 0), (1, .int z654840), (0, .ref q653731)]) [0, 1, 2] rfl ?_
            exact jn654841
          · have r654929 : z654840.toInt = 45 := gj_eq hc654927 (show Int32.toInt 45 = 45 by decide)
            have bz654840' : gB z654840 45 45 := ⟨by omega, by omega⟩
            refine G_aload_n 1 dr_cX14_next_157 rfl ?_
            refine Gp_get 2 hmq653731 he654836 dr_cX14_next_158 (gk_X14 D I) (Nat.le_of_ble_eq_true rfl) wr_9_38 rfl ?_
            refine G_iconst 1 dr_cX14_next_161 (by decide +kernel) ?_
            refine G_iadd dr_cX14_next_162 (G_nam fun z654930 hz654930 => ?_)
            have ez654930 : z654930.toInt = g654816.toInt + 1 := by rw [gI_add hz654930 bg654816 (gBl (show Int32.toInt 1 = 1 by decide)) (by decide) (by decide), show Int32.toInt 1 = 1 from by decide]
            have bz654930 : gB z654930 1 8193 := gB_add (gI_add hz654930 bg654816 (gBl (show Int32.toInt 1 = 1 by decide)) (by decide) (by decide)) bg654816 (gBl (show Int32.toInt 1 = 1 by decide)) (by decide) (by decide)
            refine G_aload_n 1 dr_cX14_next_163 rfl ?_
            refine Gp_get 1 hmq653731 he654836 dr_cX14_next_164 (gk_X14 D I) (Nat.le_of_ble_eq_true rfl) wr_9_37 rfl ?_
            refine G_icmp_ge 207 dr_cX14_next_167 (by decide +kernel) (fun hc654931 => ?_) (fun hc654931 => ?_)
            · have r654932 : p653733.toInt ≤ z654930.toInt := gC_le hc654931
              refine G_iconst 0 dr_cX14_next_207 (by decide +kernel) ?_
              refine G_istore_n (L' := [(2, .int 0), (1, .int z654840), (0, .ref q653731)]) dr_cX14_next_208 (Nat.le_of_ble_eq_true rfl) rfl ?_
              refine G_lv (L' := [(2, .int 0), (1, .int z654840), (0, .ref q653731)]) [0, 1, 2] rfl ?_
              exact jn654841
            · have r654933 : z654930.toInt < p653733.toInt := gC_nle hc654931
              have bz654930' : gB z654930 1 8191 := ⟨by omega, by omega⟩
              have bp653733' : gB p653733 2 8192 := ⟨by omega, by omega⟩
              refine G_aload_n 1 dr_cX14_next_170 rfl ?_
              refine Gp_get 0 hmq653731 he654836 dr_cX14_next_171 (gk_X14 D I) (Nat.le_of_ble_eq_true rfl) wr_9_36 rfl ?_
              refine G_aload_n 1 dr_cX14_next_174 rfl ?_
              refine Gp_get 2 hmq653731 he654836 dr_cX14_next_175 (gk_X14 D I) (Nat.le_of_ble_eq_true rfl) wr_9_38 rfl ?_
              refine G_iconst 1 dr_cX14_next_178 (by decide +kernel) ?_
              refine G_iadd dr_cX14_next_179 (G_eqi (y := z654930) hz654930.symm ?_)
              refine Gp_bald 1 hmq653732 he654835 dr_cX14_next_180 rfl (gB_in bz654930' (by decide) (by decide)) (G_nam fun z654934 hz654934 => ?_)
              have bz654934 : gB z654934 (-128) 127 := by rw [hz654934]; exact bf653746 _
              refine Gw_callS (As := [.int z654934]) (gV_ok D I) (cp_649619_Reader_isDigit l hl0 D I P653729 F654832 z654934 ) dr_cX14_next_181 ⟨wr_7_219, wr_1_32, wr_7_221, by decide, rfl, (Nat.le_of_ble_eq_true rfl), (Nat.le_of_ble_eq_true rfl)⟩ wr_7_220 (show 0 + 0 ≤ ((16 * (p653733.toInt - p653734.toInt)).toNat) by first | omega | decide) (show 0 + 0 ≤ ((256 * (p653733.toInt - p653734.toInt)).toNat) by first | omega | decide) (Nat.le_of_ble_eq_true rfl) (fun r654938 w654939 dc654935 ds654936 hp654937 => ?_) (fun _ _ _ _ _ z => z.elim)
              obtain ⟨o654940, rfl, rfl, hdc, hds, bo654940, x654941⟩ := hp654937
              change G _ _ _ _ _ _ _ (.int o654940 :: _) _ _ _
              refine G_widen (cs' := 0) (sl' := 0) (by omega) (by omega) ?_
              refine G_if_eq 207 dr_cX14_next_184 (by decide +kernel) (fun hc654942 => ?_) (fun hc654942 => ?_)
              · have r654943 : o654940.toInt = 0 := gj_eq hc654942 (show Int32.toInt 0 = 0 by decide)
                have bo654940' : gB o654940 0 0 := ⟨by omega, by omega⟩
                refine G_iconst 0 dr_cX14_next_207 (by decide +kernel) ?_
                refine G_istore_n (L' := [(2, .int 0), (1, .int z654840), (0, .ref q653731)]) dr_cX14_next_208 (Nat.le_of_ble_eq_true rfl) rfl ?_
                refine G_lv (L' := [(2, .int 0), (1, .int z654840), (0, .ref q653731)]) [0, 1, 2] rfl ?_
                exact jn654841
              · have r654944 : o654940.toInt ≠ 0 := gj_neq hc654942 (show Int32.toInt 0 = 0 by decide)
                have bo654940' : gB o654940 1 1 := ⟨by omega, by omega⟩
                have bi654945 : gB z654934 48 57 := isP_1 x654941 (by omega)
                refine G_aload_n 1 dr_cX14_next_187 rfl ?_
                refine Gp_get 6 hmq653731 he654836 dr_cX14_next_188 (gk_X14 D I) (Nat.le_of_ble_eq_true rfl) wr_9_42 rfl ?_
                refine G_iconst 2 dr_cX14_next_191 (by decide +kernel) ?_
                refine G_icmp_eq 207 dr_cX14_next_192 (by decide +kernel) (fun hc654946 => ?_) (fun hc654946 => ?_)
                · have r654947 : p653735.toInt = 2 := gj_eq hc654946 (show Int32.toInt 2 = 2 by decide)
                  have bp653735' : gB p653735 2 2 := ⟨by omega, by omega⟩
                  refine G_iconst 0 dr_cX14_next_207 (by decide +kernel) ?_
                  refine G_istore_n (L' := [(2, .int 0), (1, .int z654840), (0, .ref q653731)]) dr_cX14_next_208 (Nat.le_of_ble_eq_true rfl) rfl ?_
                  refine G_lv (L' := [(2, .int 0), (1, .int z654840), (0, .ref q653731)]) [0, 1, 2] rfl ?_
                  exact jn654841
                · have r654948 : p653735.toInt ≠ 2 := gj_neq hc654946 (show Int32.toInt 2 = 2 by decide)
                  refine G_aload_n 1 dr_cX14_next_195 rfl ?_
                  refine Gp_get 6 hmq653731 he654836 dr_cX14_next_196 (gk_X14 D I) (Nat.le_of_ble_eq_true rfl) wr_9_42 rfl ?_
                  refine G_iconst 4 dr_cX14_next_199 (by decide +kernel) ?_
                  refine G_icmp_eq 207 dr_cX14_next_200 (by decide +kernel) (fun hc654949 => ?_) (fun hc654949 => ?_)
                  · have r654950 : p653735.toInt = 4 := gj_eq hc654949 (show Int32.toInt 4 = 4 by decide)
                    have bp653735' : gB p653735 4 4 := ⟨by omega, by omega⟩
                    refine G_iconst 0 dr_cX14_next_207 (by decide +kernel) ?_
                    refine G_istore_n (L' := [(2, .int 0), (1, .int z654840), (0, .ref q653731)]) dr_cX14_next_208 (Nat.le_of_ble_eq_true rfl) rfl ?_
                    refine G_lv (L' := [(2, .int 0), (1, .int z654840), (0, .ref q653731)]) [0, 1, 2] rfl ?_
                    exact jn654841
                  · have r654951 : p653735.toInt ≠ 4 := gj_neq hc654949 (show Int32.toInt 4 = 4 by decide)
                    refine G_iconst 1 dr_cX14_next_203 (by decide +kernel) ?_
                    refine G_goto 208 dr_cX14_next_204 (by decide +kernel) ?_
                    refine G_istore_n (L' := [(2, .int 1), (1, .int z654840), (0, .ref q653731)]) dr_cX14_next_208 (Nat.le_of_ble_eq_true rfl) rfl ?_
                    clear bz654840 jn654841 bz654930 bz654934 bo654940 bo654940'; try clear r654938; try clear w654939; try clear dc654935; try clear ds654936; try clear hp654937; try clear x654941; try clear r654944
                    refine G_iload_n 1 dr_cX14_next_209 rfl ?_
                    refine Gw_callS (As := [.int z654840]) (gV_ok D I) (cp_651516_Reader_isLetter l hl0 D I P653729 F654832 z654840 ) dr_cX14_next_210 ⟨wr_7_222, wr_1_32, wr_7_224, by decide, rfl, (Nat.le_of_ble_eq_true rfl), (Nat.le_of_ble_eq_true rfl)⟩ wr_7_223 (show 0 + 0 ≤ ((16 * (p653733.toInt - p653734.toInt)).toNat) by first | omega | decide) (show 0 + 0 ≤ ((256 * (p653733.toInt - p653734.toInt)).toNat) by first | omega | decide) (Nat.le_of_ble_eq_true rfl) (fun r654955 w654956 dc654952 ds654953 hp654954 => ?_) (fun _ _ _ _ _ z => z.elim)
                    obtain ⟨o654957, rfl, rfl, hdc, hds, bo654957, x654958⟩ := hp654954
                    change G _ _ _ _ _ _ _ (.int o654957 :: _) _ _ _
                    refine G_widen (cs' := 0) (sl' := 0) (by omega) (by omega) ?_
                    refine G_if_eq 223 dr_cX14_next_213 (by decide +kernel) (fun hc654959 => ?_) (fun hc654959 => ?_)
                    · have r654960 : o654957.toInt = 0 := gj_eq hc654959 (show Int32.toInt 0 = 0 by decide)
                      have bo654957' : gB o654957 0 0 := ⟨by omega, by omega⟩
                      clear bo654957 bo654957'; try clear r654955; try clear w654956; try clear dc654952; try clear ds654953; try clear hp654954; try clear x654958; try clear r654960
                      refine G_iload_n 1 dr_cX14_next_223 rfl ?_
                      refine Gw_callS (As := [.int z654840]) (gV_ok D I) (cp_649619_Reader_isDigit l hl0 D I P653729 F654832 z654840 ) dr_cX14_next_224 ⟨wr_7_219, wr_1_32, wr_7_221, by decide, rfl, (Nat.le_of_ble_eq_true rfl), (Nat.le_of_ble_eq_true rfl)⟩ wr_7_220 (show 0 + 0 ≤ ((16 * (p653733.toInt - p653734.toInt)).toNat) by first | omega | decide) (show 0 + 0 ≤ ((256 * (p653733.toInt - p653734.toInt)).toNat) by first | omega | decide) (Nat.le_of_ble_eq_true rfl) (fun r654964 w654965 dc654961 ds654962 hp654963 => ?_) (fun _ _ _ _ _ z => z.elim)
                      obtain ⟨o654966, rfl, rfl, hdc, hds, bo654966, x654967⟩ := hp654963
                      change G _ _ _ _ _ _ _ (.int o654966 :: _) _ _ _
                      refine G_widen (cs' := 0) (sl' := 0) (by omega) (by omega) ?_
                      refine G_if_ne 234 dr_cX14_next_227 (by decide +kernel) (fun hc654968 => ?_) (fun hc654968 => ?_)
                      · have r654969 : o654966.toInt ≠ 0 := gj_neq hc654968 (show Int32.toInt 0 = 0 by decide)
                        have bo654966' : gB o654966 1 1 := ⟨by omega, by omega⟩
                        have bi654970 : gB z654840 48 57 := isP_1 x654967 (by omega)
                        refine G_aload_n 2 dr_cX14_next_234 rfl ?_
                        refine G_iload_n 0 dr_cX14_next_235 rfl ?_
                        refine Gw_callV (As := [.int 1]) (gV_ok D I) (cp_649583_Reader_number l hl0 D I P653729 F654832 q653731 q653732 1 p653733 g654816 p653735 g654816 p653737 p653735 (D.2 1000 32) p653740 p653741 p653742 qo653743 qo653744 p653745 f653746 hmq653731 hmq653732 he654836 he654835 (gB_w (gBl (show Int32.toInt 1 = 1 by decide)) (by decide) (by decide)) (gB_w bp653733' (by decide) (by decide)) bg654816 bp653735 bg654816 bp653735 bp653740 bp653741 bp653742 bp653745 bf653746 (by have qa0 : Int32.toInt 1 = 1 := (by decide); omega) (by have qa0 : Int32.toInt 1 = 1 := (by decide); omega) (by first | assumption | exact cDg_no (by omega) | exact cDg_no (by decide) | exact cDg_of (by assumption) (by omega) (by omega)) x653748 x653749) dr_cX14_next_236 ⟨wr_8_218, wr_1_32, wr_8_221, by decide, rfl, (Nat.le_of_ble_eq_true rfl), (Nat.le_of_ble_eq_true rfl)⟩ wr_8_220 wr_p_77 hmq653731 he654836 rfl (show 0 + ((16 * (p653733.toInt - g654816.toInt)).toNat) ≤ ((16 * (p653733.toInt - p653734.toInt)).toNat) by first | omega | decide) (show 0 + ((256 * (p653733.toInt - g654816.toInt)).toNat) ≤ ((256 * (p653733.toInt - p653734.toInt)).toNat) by first | omega | decide) (Nat.le_of_ble_eq_true rfl) (fun r654974 w654975 dc654971 ds654972 hp654973 => ?_) (fun _ _ _ _ _ z => z.elim)
                        obtain ⟨F654983, o654976, o654977, o654978, rfl, rfl, hfr654985, he654986, he654987, hdc, hds, bo654976, bo654977, x654979, x654980, x654981, x654982⟩ := hp654973
                        have hfr654988 : rFr [q653731] P653729 F653730 F654983 := rFr_call (rSub_rf (P := P653729)) hfr654837 hfr654985 (fun b hb hn => ⟨(nm_c (fun e => hn (e ▸ List.mem_cons_self)) nm_n), (nm_c (fun e => hn (e ▸ List.mem_cons_self)) nm_n)⟩)
                        have bo654978 := gB_any o654978
                        change G _ _ _ _ _ _ _ _ _ _ _
                        refine G_widen (cs' := (16 * (o654976.toInt - g654816.toInt)).toNat) (sl' := (256 * (o654976.toInt - g654816.toInt)).toNat) (by omega) (by omega) ?_
                        refine G_goto 247 dr_cX14_next_239 (by decide +kernel) ?_
                        exact G_vretA dr_cX14_next_247 rfl (show (16 * (o654976.toInt - g654816.toInt)).toNat ≤ ((16 * (p653733.toInt - p653734.toInt)).toNat) by omega) (show (256 * (o654976.toInt - g654816.toInt)).toNat ≤ ((256 * (p653733.toInt - p653734.toInt)).toNat) by omega) ⟨P653729, F654983, o654976, o654977, g654816, o654978, (D.2 1000 32), rfl, rfl, (rSub_rf (P := P653729)), hfr654988, he654986, he654987, (by omega), (by omega), bo654976, (gB_w bo654977 (by decide) (by decide)), bg654816, (by have qa0 : Int32.toInt 1 = 1 := (by decide); omega), (Or.inr (by omega)), (by have qa0 : Int32.toInt 1 = 1 := (by decide); omega), (by first | exact tP_no (by omega) (by omega) | assumption), x654982⟩
                      · have r654989 : o654966.toInt = 0 := gj_eq hc654968 (show Int32.toInt 0 = 0 by decide)
                        have bo654966' : gB o654966 0 0 := ⟨by omega, by omega⟩
                        refine G_iload_n 0 dr_cX14_next_230 rfl ?_
                        refine G_if_eq 242 dr_cX14_next_231 (by decide +kernel) (fun hc => absurd hc (by decide)) (fun _ => ?_)
                        refine G_aload_n 2 dr_cX14_next_234 rfl ?_
                        refine G_iload_n 0 dr_cX14_next_235 rfl ?_
                        refine Gw_callV (As := [.int 1]) (gV_ok D I) (cp_649583_Reader_number l hl0 D I P653729 F654832 q653731 q653732 1 p653733 g654816 p653735 g654816 p653737 p653735 (D.2 1000 32) p653740 p653741 p653742 qo653743 qo653744 p653745 f653746 hmq653731 hmq653732 he654836 he654835 (gB_w (gBl (show Int32.toInt 1 = 1 by decide)) (by decide) (by decide)) (gB_w bp653733' (by decide) (by decide)) bg654816 bp653735 bg654816 bp653735 bp653740 bp653741 bp653742 bp653745 bf653746 (by have qa0 : Int32.toInt 1 = 1 := (by decide); omega) (by have qa0 : Int32.toInt 1 = 1 := (by decide); omega) (by first | assumption | exact cDg_no (by omega) | exact cDg_no (by decide) | exact cDg_of (by assumption) (by omega) (by omega)) x653748 x653749) dr_cX14_next_236 ⟨wr_8_218, wr_1_32, wr_8_221, by decide, rfl, (Nat.le_of_ble_eq_true rfl), (Nat.le_of_ble_eq_true rfl)⟩ wr_8_220 wr_p_77 hmq653731 he654836 rfl (show 0 + ((16 * (p653733.toInt - g654816.toInt)).toNat) ≤ ((16 * (p653733.toInt - p653734.toInt)).toNat) by first | omega | decide) (show 0 + ((256 * (p653733.toInt - g654816.toInt)).toNat) ≤ ((256 * (p653733.toInt - p653734.toInt)).toNat) by first | omega | decide) (Nat.le_of_ble_eq_true rfl) (fun r654993 w654994 dc654990 ds654991 hp654992 => ?_) (fun _ _ _ _ _ z => z.elim)
                        obtain ⟨F655002, o654995, o654996, o654997, rfl, rfl, hfr655004, he655005, he655006, hdc, hds, bo654995, bo654996, x654998, x654999, x655000, x655001⟩ := hp654992
                        have hfr655007 : rFr [q653731] P653729 F653730 F655002 := rFr_call (rSub_rf (P := P653729)) hfr654837 hfr655004 (fun b hb hn => ⟨(nm_c (fun e => hn (e ▸ List.mem_cons_self)) nm_n), (nm_c (fun e => hn (e ▸ List.mem_cons_self)) nm_n)⟩)
                        have bo654997 := gB_any o654997
                        change G _ _ _ _ _ _ _ _ _ _ _
                        refine G_widen (cs' := (16 * (o654995.toInt - g654816.toInt)).toNat) (sl' := (256 * (o654995.toInt - g654816.toInt)).toNat) (by omega) (by omega) ?_
                        refine G_goto 247 dr_cX14_next_239 (by decide +kernel) ?_
                        exact G_vretA dr_cX14_next_247 rfl (show (16 * (o654995.toInt - g654816.toInt)).toNat ≤ ((16 * (p653733.toInt - p653734.toInt)).toNat) by omega) (show (256 * (o654995.toInt - g654816.toInt)).toNat ≤ ((256 * (p653733.toInt - p653734.toInt)).toNat) by omega) ⟨P653729, F655002, o654995, o654996, g654816, o654997, (D.2 1000 32), rfl, rfl, (rSub_rf (P := P653729)), hfr655007, he655005, he655006, (by omega), (by omega), bo654995, (gB_w bo654996 (by decide) (by decide)), bg654816, (by have qa0 : Int32.toInt 1 = 1 := (by decide); omega), (Or.inr (by omega)), (by have qa0 : Int32.toInt 1 = 1 := (by decide); omega), (by first | exact tP_no (by omega) (by omega) | assumption), x655001⟩
                    · have r655008 : o654957.toInt ≠ 0 := gj_neq hc654959 (show Int32.toInt 0 = 0 by decide)
                      have bo654957' : gB o654957 1 1 := ⟨by omega, by omega⟩
                      have bi655009 : gB z654840 97 122 := isP_1 x654958 (by omega)
                      refine G_aload_n 2 dr_cX14_next_216 rfl ?_
                      refine Gw_callV (As := []) (gV_ok D I) (cp_651181_Reader_word l hl0 D I P653729 F654832 q653731 q653732 p653733 g654816 p653735 g654816 p653737 p653735 (D.2 1000 32) p653740 p653741 p653742 qo653743 qo653744 p653745 f653746 hmq653731 hmq653732 he654836 he654835 (gB_w bp653733' (by decide) (by decide)) bg654816 bp653735 bg654816 bp653735 bp653740 bp653741 bp653742 bp653745 bf653746 (by have qa0 : Int32.toInt 1 = 1 := (by decide); omega) (by have qa0 : Int32.toInt 1 = 1 := (by decide); omega) (by first | assumption | exact cLt_of (by assumption) (by omega) (by omega)) x653748 x653749) dr_cX14_next_217 ⟨wr_7_225, wr_1_32, wr_7_228, by decide, rfl, (Nat.le_of_ble_eq_true rfl), (Nat.le_of_ble_eq_true rfl)⟩ wr_7_227 wr_p_76 hmq653731 he654836 rfl (show 0 + ((16 * (p653733.toInt - g654816.toInt)).toNat) ≤ ((16 * (p653733.toInt - p653734.toInt)).toNat) by first | omega | decide) (show 0 + ((256 * (p653733.toInt - g654816.toInt)).toNat) ≤ ((256 * (p653733.toInt - p653734.toInt)).toNat) by first | omega | decide) (Nat.le_of_ble_eq_true rfl) (fun r655013 w655014 dc655010 ds655011 hp655012 => ?_) (fun _ _ _ _ _ z => z.elim)
                      obtain ⟨P655023, F655024, o655015, o655016, o655017, q655018, rfl, rfl, hsb655025, hfr655026, he655027, he655028, hdc, hds, bo655015, bo655016, x655019, x655020, x655021, x655022⟩ := hp655012
                      have hm655029 : q653731 ∈ P655023 := hsb655025 q653731 hmq653731
                      have hm655030 : q653732 ∈ P655023 := hsb655025 q653732 hmq653732
                      have hsb655031 : rSub P653729 P655023 := rSub_tr (rSub_rf (P := P653729)) hsb655025
                      have hfr655032 : rFr [q653731] P653729 F653730 F655024 := rFr_call (rSub_rf (P := P653729)) hfr654837 hfr655026 (fun b hb hn => ⟨(nm_c (fun e => hn (e ▸ List.mem_cons_self)) nm_n), (nm_c (fun e => hn (e ▸ List.mem_cons_self)) nm_n)⟩)
                      have bo655017 := gB_any o655017
                      change G _ _ _ _ _ _ _ _ _ _ _
                      refine G_widen (cs' := (16 * (o655015.toInt - g654816.toInt)).toNat) (sl' := (256 * (o655015.toInt - g654816.toInt)).toNat) (by omega) (by omega) ?_
                      refine G_goto 247 dr_cX14_next_220 (by decide +kernel) ?_
                      exact G_vretA dr_cX14_next_247 rfl (show (16 * (o655015.toInt - g654816.toInt)).toNat ≤ ((16 * (p653733.toInt - p653734.toInt)).toNat) by omega) (show (256 * (o655015.toInt - g654816.toInt)).toNat ≤ ((256 * (p653733.toInt - p653734.toInt)).toNat) by omega) ⟨P655023, F655024, o655015, o655016, g654816, o655017, q655018, rfl, rfl, hsb655031, hfr655032, he655027, he655028, (by omega), (by omega), bo655015, (gB_w bo655016 (by decide) (by decide)), bg654816, (by have qa0 : Int32.toInt 1 = 1 := (by decide); omega), (Or.inr (by omega)), (by have qa0 : Int32.toInt 1 = 1 := (by decide); omega), x655021, x655022⟩
        · have r655033 : g654816.toInt = p653733.toInt := gC_eq hc654838
          refine G_aload_n 0 dr_cX14_next_135 rfl ?_
          refine G_iconst 0 dr_cX14_next_136 (by decide +kernel) ?_
          refine Gp_put 3 hmq653731 he654836 dr_cX14_next_137 (gk_X14 D I) (Nat.le_of_ble_eq_true rfl) wr_9_39 rfl rfl rfl (Nat.le_of_ble_eq_true rfl) (fun F655034 e655035 n655036 => ?_)
          have he655037 : F655034 q653732 = .inl (I .byte, 8192, .inl f653746) := (n655036 q653732 (rn_ao he654835 he654836)).trans he654835
          have he655038 : F655034 q653731 = .inr (19, [.ref q653732, .int p653733, .int g654816, .int 0, .int g654816, .int p653737, .int p653735, .ref (D.2 1000 32), .int p653740, .int p653741, .int p653742, .ref qo653743, .ref qo653744, .int p653745]) := e655035
          have hfr655039 : rFr [q653731] P653729 F653730 F655034 := rFr_put' List.mem_cons_self hfr654837 n655036
          exact G_vretA dr_cX14_next_140 rfl (show 0 ≤ ((16 * (p653733.toInt - p653734.toInt)).toNat) by omega) (show 0 ≤ ((256 * (p653733.toInt - p653734.toInt)).toNat) by omega) ⟨P653729, F655034, g654816, 0, g654816, p653737, (D.2 1000 32), rfl, rfl, (rSub_rf (P := P653729)), hfr655039, he655038, he655037, (by omega), (by omega), bg654816, (gB_w (gBl (show Int32.toInt 0 = 0 by decide)) (by decide) (by decide)), bg654816, (by have qa0 : Int32.toInt 0 = 0 := (by decide); omega), (Or.inl (by decide)), (by have qa0 : Int32.toInt 0 = 0 := (by decide); omega), (tP_no (by decide) (by decide)), (vP_no (by decide) (by decide))⟩
      · have r655040 : g654816.toInt < p653733.toInt := gC_nle hc654823
        have bg654816' : gB g654816 0 8191 := ⟨by omega, by omega⟩
        have bp653733' : gB p653733 1 8192 := ⟨by omega, by omega⟩
        refine G_aload_n 0 dr_cX14_next_19 rfl ?_
        refine Gp_get 0 hmq653731 he654818 dr_cX14_next_20 (gk_X14 D I) (Nat.le_of_ble_eq_true rfl) wr_9_36 rfl ?_
        refine G_aload_n 0 dr_cX14_next_23 rfl ?_
        refine Gp_get 2 hmq653731 he654818 dr_cX14_next_24 (gk_X14 D I) (Nat.le_of_ble_eq_true rfl) wr_9_38 rfl ?_
        refine Gp_bald 1 hmq653732 he654819 dr_cX14_next_27 rfl (gB_in bg654816' (by decide) (by decide)) (G_nam fun z655041 hz655041 => ?_)
        have bz655041 : gB z655041 (-128) 127 := by rw [hz655041]; exact bf653746 _
        refine G_istore_n (L' := [(1, .int z655041), (0, .ref q653731)]) dr_cX14_next_28 (Nat.le_of_ble_eq_true rfl) rfl ?_
        refine G_iload_n 0 dr_cX14_next_29 rfl ?_
        refine G_bipush 59 dr_cX14_next_30 (by decide +kernel) ?_
        refine G_icmp_ne 73 dr_cX14_next_32 (by decide +kernel) (fun hc655042 => ?_) (fun hc655042 => ?_)
        · have r655043 : z655041.toInt ≠ 59 := gj_neq hc655042 (show Int32.toInt 59 = 59 by decide)
          refine G_iload_n 0 dr_cX14_next_73 rfl ?_
          refine G_bipush 9 dr_cX14_next_74 (by decide +kernel) ?_
          refine G_icmp_eq 97 dr_cX14_next_76 (by decide +kernel) (fun hc655044 => ?_) (fun hc655044 => ?_)
          · have r655045 : z655041.toInt = 9 := gj_eq hc655044 (show Int32.toInt 9 = 9 by decide)
            have bz655041' : gB z655041 9 9 := ⟨by omega, by omega⟩
            refine G_aload_n 1 dr_cX14_next_97 rfl ?_
            refine G_dup dr_cX14_next_98 rfl ?_
            refine Gp_get 2 hmq653731 he654818 dr_cX14_next_99 (gk_X14 D I) (Nat.le_of_ble_eq_true rfl) wr_9_38 rfl ?_
            refine G_iconst 1 dr_cX14_next_102 (by decide +kernel) ?_
            refine G_iadd dr_cX14_next_103 (G_nam fun z655046 hz655046 => ?_)
            have ez655046 : z655046.toInt = g654816.toInt + 1 := by rw [gI_add hz655046 bg654816' (gBl (show Int32.toInt 1 = 1 by decide)) (by decide) (by decide), show Int32.toInt 1 = 1 from by decide]
            have bz655046 : gB z655046 1 8192 := gB_add (gI_add hz655046 bg654816' (gBl (show Int32.toInt 1 = 1 by decide)) (by decide) (by decide)) bg654816' (gBl (show Int32.toInt 1 = 1 by decide)) (by decide) (by decide)
            refine Gp_put 2 hmq653731 he654818 dr_cX14_next_104 (gk_X14 D I) (Nat.le_of_ble_eq_true rfl) wr_9_38 rfl rfl rfl (Nat.le_of_ble_eq_true rfl) (fun F655047 e655048 n655049 => ?_)
            have he655050 : F655047 q653732 = .inl (I .byte, 8192, .inl f653746) := (n655049 q653732 (rn_ao he654819 he654818)).trans he654819
            have he655051 : F655047 q653731 = .inr (19, [.ref q653732, .int p653733, .int z655046, .int p653735, .int p653736, .int p653737, .int p653735, .ref qo653739, .int p653740, .int p653741, .int p653742, .ref qo653743, .ref qo653744, .int p653745]) := e655048
            have hfr655052 : rFr [q653731] P653729 F653730 F655047 := rFr_put' List.mem_cons_self hfr654820 n655049
            have x655053 : g654816.toInt < z655046.toInt := by first | omega | exact chNe (a := g654816) (b := z655046) (by assumption) (by assumption) (by omega) (by omega)
            refine G_goto 8 dr_cX14_next_107 (by decide +kernel) ?_
            refine G_lv (L' := [(0, .ref q653731)]) [1] rfl ?_
            exact ih8_654822 F655047 z655046 (gB_w bz655046 (by decide) (by decide)) hfr655052 he655051 he655050 (by omega) (by omega) (by omega)
          · have r655054 : z655041.toInt ≠ 9 := gj_neq hc655044 (show Int32.toInt 9 = 9 by decide)
            refine G_iload_n 0 dr_cX14_next_79 rfl ?_
            refine G_bipush 10 dr_cX14_next_80 (by decide +kernel) ?_
            refine G_icmp_eq 97 dr_cX14_next_82 (by decide +kernel) (fun hc655055 => ?_) (fun hc655055 => ?_)
            · have r655056 : z655041.toInt = 10 := gj_eq hc655055 (show Int32.toInt 10 = 10 by decide)
              have bz655041' : gB z655041 10 10 := ⟨by omega, by omega⟩
              refine G_aload_n 1 dr_cX14_next_97 rfl ?_
              refine G_dup dr_cX14_next_98 rfl ?_
              refine Gp_get 2 hmq653731 he654818 dr_cX14_next_99 (gk_X14 D I) (Nat.le_of_ble_eq_true rfl) wr_9_38 rfl ?_
              refine G_iconst 1 dr_cX14_next_102 (by decide +kernel) ?_
              refine G_iadd dr_cX14_next_103 (G_nam fun z655057 hz655057 => ?_)
              have ez655057 : z655057.toInt = g654816.toInt + 1 := by rw [gI_add hz655057 bg654816' (gBl (show Int32.toInt 1 = 1 by decide)) (by decide) (by decide), show Int32.toInt 1 = 1 from by decide]
              have bz655057 : gB z655057 1 8192 := gB_add (gI_add hz655057 bg654816' (gBl (show Int32.toInt 1 = 1 by decide)) (by decide) (by decide)) bg654816' (gBl (show Int32.toInt 1 = 1 by decide)) (by decide) (by decide)
              refine Gp_put 2 hmq653731 he654818 dr_cX14_next_104 (gk_X14 D I) (Nat.le_of_ble_eq_true rfl) wr_9_38 rfl rfl rfl (Nat.le_of_ble_eq_true rfl) (fun F655058 e655059 n655060 => ?_)
              have he655061 : F655058 q653732 = .inl (I .byte, 8192, .inl f653746) := (n655060 q653732 (rn_ao he654819 he654818)).trans he654819
              have he655062 : F655058 q653731 = .inr (19, [.ref q653732, .int p653733, .int z655057, .int p653735, .int p653736, .int p653737, .int p653735, .ref qo653739, .int p653740, .int p653741, .int p653742, .ref qo653743, .ref qo653744, .int p653745]) := e655059
              have hfr655063 : rFr [q653731] P653729 F653730 F655058 := rFr_put' List.mem_cons_self hfr654820 n655060
              have x655064 : g654816.toInt < z655057.toInt := by first | omega | exact chNe (a := g654816) (b := z655057) (by assumption) (by assumption) (by omega) (by omega)
              refine G_goto 8 dr_cX14_next_107 (by decide +kernel) ?_
              refine G_lv (L' := [(0, .ref q653731)]) [1] rfl ?_
              exact ih8_654822 F655058 z655057 (gB_w bz655057 (by decide) (by decide)) hfr655063 he655062 he655061 (by omega) (by omega) (by omega)
            · have r655065 : z655041.toInt ≠ 10 := gj_neq hc655055 (show Int32.toInt 10 = 10 by decide)
              refine G_iload_n 0 dr_cX14_next_85 rfl ?_
              refine G_bipush 13 dr_cX14_next_86 (by decide +kernel) ?_
              refine G_icmp_eq 97 dr_cX14_next_88 (by decide +kernel) (fun hc655066 => ?_) (fun hc655066 => ?_)
              · have r655067 : z655041.toInt = 13 := gj_eq hc655066 (show Int32.toInt 13 = 13 by decide)
                have bz655041' : gB z655041 13 13 := ⟨by omega, by omega⟩
                refine G_aload_n 1 dr_cX14_next_97 rfl ?_
                refine G_dup dr_cX14_next_98 rfl ?_
                refine Gp_get 2 hmq653731 he654818 dr_cX14_next_99 (gk_X14 D I) (Nat.le_of_ble_eq_true rfl) wr_9_38 rfl ?_
                refine G_iconst 1 dr_cX14_next_102 (by decide +kernel) ?_
                refine G_iadd dr_cX14_next_103 (G_nam fun z655068 hz655068 => ?_)
                have ez655068 : z655068.toInt = g654816.toInt + 1 := by rw [gI_add hz655068 bg654816' (gBl (show Int32.toInt 1 = 1 by decide)) (by decide) (by decide), show Int32.toInt 1 = 1 from by decide]
                have bz655068 : gB z655068 1 8192 := gB_add (gI_add hz655068 bg654816' (gBl (show Int32.toInt 1 = 1 by decide)) (by decide) (by decide)) bg654816' (gBl (show Int32.toInt 1 = 1 by decide)) (by decide) (by decide)
                refine Gp_put 2 hmq653731 he654818 dr_cX14_next_104 (gk_X14 D I) (Nat.le_of_ble_eq_true rfl) wr_9_38 rfl rfl rfl (Nat.le_of_ble_eq_true rfl) (fun F655069 e655070 n655071 => ?_)
                have he655072 : F655069 q653732 = .inl (I .byte, 8192, .inl f653746) := (n655071 q653732 (rn_ao he654819 he654818)).trans he654819
                have he655073 : F655069 q653731 = .inr (19, [.ref q653732, .int p653733, .int z655068, .int p653735, .int p653736, .int p653737, .int p653735, .ref qo653739, .int p653740, .int p653741, .int p653742, .ref qo653743, .ref qo653744, .int p653745]) := e655070
                have hfr655074 : rFr [q653731] P653729 F653730 F655069 := rFr_put' List.mem_cons_self hfr654820 n655071
                have x655075 : g654816.toInt < z655068.toInt := by first | omega | exact chNe (a := g654816) (b := z655068) (by assumption) (by assumption) (by omega) (by omega)
                refine G_goto 8 dr_cX14_next_107 (by decide +kernel) ?_
                refine G_lv (L' := [(0, .ref q653731)]) [1] rfl ?_
                exact ih8_654822 F655069 z655068 (gB_w bz655068 (by decide) (by decide)) hfr655074 he655073 he655072 (by omega) (by omega) (by omega)
              · have r655076 : z655041.toInt ≠ 13 := gj_neq hc655066 (show Int32.toInt 13 = 13 by decide)
                refine G_iload_n 0 dr_cX14_next_91 rfl ?_
                refine G_bipush 32 dr_cX14_next_92 (by decide +kernel) ?_
                refine G_icmp_ne 110 dr_cX14_next_94 (by decide +kernel) (fun hc655077 => ?_) (fun hc655077 => ?_)
                · have r655078 : z655041.toInt ≠ 32 := gj_neq hc655077 (show Int32.toInt 32 = 32 by decide)
                  clear he653754 he653755 hfr653756
                  refine G_aload_n 1 dr_cX14_next_110 rfl ?_
                  refine G_aload_n 1 dr_cX14_next_111 rfl ?_
                  refine Gp_get 2 hmq653731 he654818 dr_cX14_next_112 (gk_X14 D I) (Nat.le_of_ble_eq_true rfl) wr_9_38 rfl ?_
                  refine Gp_put 4 hmq653731 he654818 dr_cX14_next_115 (gk_X14 D I) (Nat.le_of_ble_eq_true rfl) wr_9_40 rfl rfl rfl (Nat.le_of_ble_eq_true rfl) (fun F655079 e655080 n655081 => ?_)
                  have he655082 : F655079 q653732 = .inl (I .byte, 8192, .inl f653746) := (n655081 q653732 (rn_ao he654819 he654818)).trans he654819
                  have he655083 : F655079 q653731 = .inr (19, [.ref q653732, .int p653733, .int g654816, .int p653735, .int g654816, .int p653737, .int p653735, .ref qo653739, .int p653740, .int p653741, .int p653742, .ref qo653743, .ref qo653744, .int p653745]) := e655080
                  have hfr655084 : rFr [q653731] P653729 F653730 F655079 := rFr_put' List.mem_cons_self hfr654820 n655081
                  refine G_aload_n 1 dr_cX14_next_118 rfl ?_
                  refine G_ldcK (a := D.2 1000 32) dr_cX14_next_119 (fun _ _ _ h => gx_vk 32 rfl rfl h) ?_
                  have hl32_655084 : (sb_32.length : Int) = 0 := rfl
                  refine Gp_put 7 hmq653731 he655083 dr_cX14_next_121 (gk_X14 D I) (Nat.le_of_ble_eq_true rfl) wr_9_43 rfl rfl rfl (Nat.le_of_ble_eq_true rfl) (fun F655086 e655087 n655088 => ?_)
                  have he655089 : F655086 q653732 = .inl (I .byte, 8192, .inl f653746) := (n655088 q653732 (rn_ao he655082 he655083)).trans he655082
                  have he655090 : F655086 q653731 = .inr (19, [.ref q653732, .int p653733, .int g654816, .int p653735, .int g654816, .int p653737, .int p653735, .ref (D.2 1000 32), .int p653740, .int p653741, .int p653742, .ref qo653743, .ref qo653744, .int p653745]) := e655087
                  have hfr655091 : rFr [q653731] P653729 F653730 F655086 := rFr_put' List.mem_cons_self hfr655084 n655088
                  clear he655082 he655083 hfr655084
                  refine G_aload_n 1 dr_cX14_next_124 rfl ?_
                  refine Gp_get 2 hmq653731 he655090 dr_cX14_next_125 (gk_X14 D I) (Nat.le_of_ble_eq_true rfl) wr_9_38 rfl ?_
                  refine G_aload_n 1 dr_cX14_next_128 rfl ?_
                  refine Gp_get 1 hmq653731 he655090 dr_cX14_next_129 (gk_X14 D I) (Nat.le_of_ble_eq_true rfl) wr_9_37 rfl ?_
                  refine G_icmp_ne 141 dr_cX14_next_132 (by decide +kernel) (fun hc655092 => ?_) (fun hc655092 => ?_)
                  · have r655093 : g654816.toInt ≠ p653733.toInt := gC_ne hc655092
                    refine G_aload_n 1 dr_cX14_next_141 rfl ?_
                    refine Gp_get 0 hmq653731 he655090 dr_cX14_next_142 (gk_X14 D I) (Nat.le_of_ble_eq_true rfl) wr_9_36 rfl ?_
                    refine G_aload_n 1 dr_cX14_next_145 rfl ?_
                    refine Gp_get 2 hmq653731 he655090 dr_cX14_next_146 (gk_X14 D I) (Nat.le_of_ble_eq_true rfl) wr_9_38 rfl ?_
                    refine Gp_bald 1 hmq653732 he655089 dr_cX14_next_149 rfl (gB_in bg654816' (by decide) (by decide)) (G_eqi (y := z655041) hz655041.symm ?_)
                    refine G_istore_n (L' := [(1, .int z655041), (0, .ref q653731)]) dr_cX14_next_150 (Nat.le_of_ble_eq_true rfl) rfl ?_
                    have jn655094 : G (gV D I) l (gRm 7 155 ((16 * (p653733.toInt - p653734.toInt)).toNat) ((256 * (p653733.toInt - p653734.toInt)).toNat)) (gMA (gV D I) (pp_653750_Reader_next D I P653729 F653730 q653731 q653732 p653733 p653734 p653735 p653736 p653737 p653738 qo653739 p653740 p653741 p653742 qo653743 qo653744 p653745 f653746) gNA ((16 * (p653733.toInt - p653734.toInt)).toNat) ((256 * (p653733.toInt - p653734.toInt)).toNat)) ky_653750_Reader_next 209 [(2, .int 0), (1, .int z655041), (0, .ref q653731)] [] (va_pl P653729 F655086) 0 0 := by
                      refine G_iload_n 1 dr_cX14_next_209 rfl ?_
                      refine Gw_callS (As := [.int z655041]) (gV_ok D I) (cp_651516_Reader_isLetter l hl0 D I P653729 F655086 z655041 ) dr_cX14_next_210 ⟨wr_7_222, wr_1_32, wr_7_224, by decide, rfl, (Nat.le_of_ble_eq_true rfl), (Nat.le_of_ble_eq_true rfl)⟩ wr_7_223 (show 0 + 0 ≤ ((16 * (p653733.toInt - p653734.toInt)).toNat) by first | omega | decide) (show 0 + 0 ≤ ((256 * (p653733.toInt - p653734.toInt)).toNat) by first | omega | decide) (Nat.le_of_ble_eq_true rfl) (fun r655098 w655099 dc655095 ds655096 hp655097 => ?_) (fun _ _ _ _ _ z => z.elim)
                      obtain ⟨o655100, rfl, rfl, hdc, hds, bo655100, x655101⟩ := hp655097
                      change G _ _ _ _ _ _ _ (.int o655100 :: _) _ _ _
                      refine G_widen (cs' := 0) (sl' := 0) (by omega) (by omega) ?_
                      refine G_if_eq 223 dr_cX14_next_213 (by decide +kernel) (fun hc655102 => ?_) (fun hc655102 => ?_)
                      · have r655103 : o655100.toInt = 0 := gj_eq hc655102 (show Int32.toInt 0 = 0 by decide)
                        have bo655100' : gB o655100 0 0 := ⟨by omega, by omega⟩
                        clear bo655100 bo655100'; try clear r655098; try clear w655099; try clear dc655095; try clear ds655096; try clear hp655097; try clear x655101; try clear r655103
                        refine G_iload_n 1 dr_cX14_next_223 rfl ?_
                        refine Gw_callS (As := [.int z655041]) (gV_ok D I) (cp_649619_Reader_isDigit l hl0 D I P653729 F655086 z655041 ) dr_cX14_next_224 ⟨wr_7_219, wr_1_32, wr_7_221, by decide, rfl, (Nat.le_of_ble_eq_true rfl), (Nat.le_of_ble_eq_true rfl)⟩ wr_7_220 (show 0 + 0 ≤ ((16 * (p653733.toInt - p653734.toInt)).toNat) by first | omega | decide) (show 0 + 0 ≤ ((256 * (p653733.toInt - p653734.toInt)).toNat) by first | omega | decide) (Nat.le_of_ble_eq_true rfl) (fun r655107 w655108 dc655104 ds655105 hp655106 => ?_) (fun _ _ _ _ _ z => z.elim)
                        obtain ⟨o655109, rfl, rfl, hdc, hds, bo655109, x655110⟩ := hp655106
                        change G _ _ _ _ _ _ _ (.int o655109 :: _) _ _ _
                        refine G_widen (cs' := 0) (sl' := 0) (by omega) (by omega) ?_
                        refine G_if_ne 234 dr_cX14_next_227 (by decide +kernel) (fun hc655111 => ?_) (fun hc655111 => ?_)
                        · have r655112 : o655109.toInt ≠ 0 := gj_neq hc655111 (show Int32.toInt 0 = 0 by decide)
                          have bo655109' : gB o655109 1 1 := ⟨by omega, by omega⟩
                          have bi655113 : gB z655041 48 57 := isP_1 x655110 (by omega)
                          refine G_aload_n 2 dr_cX14_next_234 rfl ?_
                          refine G_iload_n 0 dr_cX14_next_235 rfl ?_
                          refine Gw_callV (As := [.int 0]) (gV_ok D I) (cp_649583_Reader_number l hl0 D I P653729 F655086 q653731 q653732 0 p653733 g654816 p653735 g654816 p653737 p653735 (D.2 1000 32) p653740 p653741 p653742 qo653743 qo653744 p653745 f653746 hmq653731 hmq653732 he655090 he655089 (gB_w (gBl (show Int32.toInt 0 = 0 by decide)) (by decide) (by decide)) (gB_w bp653733' (by decide) (by decide)) (gB_w bg654816' (by decide) (by decide)) bp653735 (gB_w bg654816' (by decide) (by decide)) bp653735 bp653740 bp653741 bp653742 bp653745 bf653746 (by have qa0 : Int32.toInt 0 = 0 := (by decide); omega) (by have qa0 : Int32.toInt 0 = 0 := (by decide); omega) (by first | assumption | exact cDg_no (by omega) | exact cDg_no (by decide) | exact cDg_of (by assumption) (by omega) (by omega)) x653748 x653749) dr_cX14_next_236 ⟨wr_8_218, wr_1_32, wr_8_221, by decide, rfl, (Nat.le_of_ble_eq_true rfl), (Nat.le_of_ble_eq_true rfl)⟩ wr_8_220 wr_p_77 hmq653731 he655090 rfl (show 0 + ((16 * (p653733.toInt - g654816.toInt)).toNat) ≤ ((16 * (p653733.toInt - p653734.toInt)).toNat) by first | omega | decide) (show 0 + ((256 * (p653733.toInt - g654816.toInt)).toNat) ≤ ((256 * (p653733.toInt - p653734.toInt)).toNat) by first | omega | decide) (Nat.le_of_ble_eq_true rfl) (fun r655117 w655118 dc655114 ds655115 hp655116 => ?_) (fun _ _ _ _ _ z => z.elim)
                          obtain ⟨F655126, o655119, o655120, o655121, rfl, rfl, hfr655128, he655129, he655130, hdc, hds, bo655119, bo655120, x655122, x655123, x655124, x655125⟩ := hp655116
                          have hfr655131 : rFr [q653731] P653729 F653730 F655126 := rFr_call (rSub_rf (P := P653729)) hfr655091 hfr655128 (fun b hb hn => ⟨(nm_c (fun e => hn (e ▸ List.mem_cons_self)) nm_n), (nm_c (fun e => hn (e ▸ List.mem_cons_self)) nm_n)⟩)
                          have bo655121 := gB_any o655121
                          change G _ _ _ _ _ _ _ _ _ _ _
                          refine G_widen (cs' := (16 * (o655119.toInt - g654816.toInt)).toNat) (sl' := (256 * (o655119.toInt - g654816.toInt)).toNat) (by omega) (by omega) ?_
                          refine G_goto 247 dr_cX14_next_239 (by decide +kernel) ?_
                          exact G_vretA dr_cX14_next_247 rfl (show (16 * (o655119.toInt - g654816.toInt)).toNat ≤ ((16 * (p653733.toInt - p653734.toInt)).toNat) by omega) (show (256 * (o655119.toInt - g654816.toInt)).toNat ≤ ((256 * (p653733.toInt - p653734.toInt)).toNat) by omega) ⟨P653729, F655126, o655119, o655120, g654816, o655121, (D.2 1000 32), rfl, rfl, (rSub_rf (P := P653729)), hfr655131, he655129, he655130, (by omega), (by omega), bo655119, (gB_w bo655120 (by decide) (by decide)), (gB_w bg654816' (by decide) (by decide)), (by have qa0 : Int32.toInt 0 = 0 := (by decide); omega), (Or.inr (by omega)), (by have qa0 : Int32.toInt 0 = 0 := (by decide); omega), (by first | exact tP_no (by omega) (by omega) | assumption), x655125⟩
                        · have r655132 : o655109.toInt = 0 := gj_eq hc655111 (show Int32.toInt 0 = 0 by decide)
                          have bo655109' : gB o655109 0 0 := ⟨by omega, by omega⟩
                          refine G_iload_n 0 dr_cX14_next_230 rfl ?_
                          refine G_if_eq 242 dr_cX14_next_231 (by decide +kernel) (fun _ => ?_) (fun hc => absurd hc (by decide))
                          refine G_aload_n 2 dr_cX14_next_242 rfl ?_
                          refine G_iload_n 1 dr_cX14_next_243 rfl ?_
                          refine Gw_callV (As := [.int z655041]) (gV_ok D I) (cp_650189_Reader_symbol l hl0 D I P653729 F655086 q653731 q653732 z655041 p653733 g654816 p653735 g654816 p653737 p653735 (D.2 1000 32) p653740 p653741 p653742 qo653743 qo653744 p653745 f653746 hmq653731 hmq653732 he655090 he655089 bz655041 (gB_w bp653733' (by decide) (by decide)) (gB_w bg654816' (by decide) (by decide)) bp653735 (gB_w bg654816' (by decide) (by decide)) bp653735 bp653740 bp653741 bp653742 bp653745 bf653746 (by have qa0 : Int32.toInt 0 = 0 := (by decide); omega) (by have qa0 : Int32.toInt 0 = 0 := (by decide); omega) x653748 x653749) dr_cX14_next_244 ⟨wr_8_223, wr_1_32, wr_8_226, by decide, rfl, (Nat.le_of_ble_eq_true rfl), (Nat.le_of_ble_eq_true rfl)⟩ wr_8_225 wr_p_78 hmq653731 he655090 rfl (show 0 + ((16 * (p653733.toInt - g654816.toInt)).toNat) ≤ ((16 * (p653733.toInt - p653734.toInt)).toNat) by first | omega | decide) (show 0 + ((256 * (p653733.toInt - g654816.toInt)).toNat) ≤ ((256 * (p653733.toInt - p653734.toInt)).toNat) by first | omega | decide) (Nat.le_of_ble_eq_true rfl) (fun r655136 w655137 dc655133 ds655134 hp655135 => ?_) (fun _ _ _ _ _ z => z.elim)
                          obtain ⟨P655145, F655146, o655138, o655139, q655140, rfl, rfl, hsb655147, hfr655148, he655149, he655150, hdc, hds, bo655138, bo655139, x655141, x655142, x655143, x655144⟩ := hp655135
                          have hm655151 : q653731 ∈ P655145 := hsb655147 q653731 hmq653731
                          have hm655152 : q653732 ∈ P655145 := hsb655147 q653732 hmq653732
                          have hsb655153 : rSub P653729 P655145 := rSub_tr (rSub_rf (P := P653729)) hsb655147
                          have hfr655154 : rFr [q653731] P653729 F653730 F655146 := rFr_call (rSub_rf (P := P653729)) hfr655091 hfr655148 (fun b hb hn => ⟨(nm_c (fun e => hn (e ▸ List.mem_cons_self)) nm_n), (nm_c (fun e => hn (e ▸ List.mem_cons_self)) nm_n)⟩)
                          change G _ _ _ _ _ _ _ _ _ _ _
                          refine G_widen (cs' := (16 * (o655138.toInt - g654816.toInt)).toNat) (sl' := (256 * (o655138.toInt - g654816.toInt)).toNat) (by omega) (by omega) ?_
                          exact G_vretA dr_cX14_next_247 rfl (show (16 * (o655138.toInt - g654816.toInt)).toNat ≤ ((16 * (p653733.toInt - p653734.toInt)).toNat) by omega) (show (256 * (o655138.toInt - g654816.toInt)).toNat ≤ ((256 * (p653733.toInt - p653734.toInt)).toNat) by omega) ⟨P655145, F655146, o655138, o655139, g654816, p653737, q655140, rfl, rfl, hsb655153, hfr655154, he655149, he655150, (by omega), (by omega), (gB_w bo655138 (by decide) (by decide)), (gB_w bo655139 (by decide) (by decide)), (gB_w bg654816' (by decide) (by decide)), (by have qa0 : Int32.toInt 0 = 0 := (by decide); omega), (Or.inr (by omega)), (by have qa0 : Int32.toInt 0 = 0 := (by decide); omega), x655143, x655144⟩
                      · have r655155 : o655100.toInt ≠ 0 := gj_neq hc655102 (show Int32.toInt 0 = 0 by decide)
                        have bo655100' : gB o655100 1 1 := ⟨by omega, by omega⟩
                        have bi655156 : gB z655041 97 122 := isP_1 x655101 (by omega)
                        refine G_aload_n 2 dr_cX14_next_216 rfl ?_
                        refine Gw_callV (As := []) (gV_ok D I) (cp_651181_Reader_word l hl0 D I P653729 F655086 q653731 q653732 p653733 g654816 p653735 g654816 p653737 p653735 (D.2 1000 32) p653740 p653741 p653742 qo653743 qo653744 p653745 f653746 hmq653731 hmq653732 he655090 he655089 (gB_w bp653733' (by decide) (by decide)) (gB_w bg654816' (by decide) (by decide)) bp653735 (gB_w bg654816' (by decide) (by decide)) bp653735 bp653740 bp653741 bp653742 bp653745 bf653746 (by have qa0 : Int32.toInt 0 = 0 := (by decide); omega) (by have qa0 : Int32.toInt 0 = 0 := (by decide); omega) (by first | assumption | exact cLt_of (by assumption) (by omega) (by omega)) x653748 x653749) dr_cX14_next_217 ⟨wr_7_225, wr_1_32, wr_7_228, by decide, rfl, (Nat.le_of_ble_eq_true rfl), (Nat.le_of_ble_eq_true rfl)⟩ wr_7_227 wr_p_76 hmq653731 he655090 rfl (show 0 + ((16 * (p653733.toInt - g654816.toInt)).toNat) ≤ ((16 * (p653733.toInt - p653734.toInt)).toNat) by first | omega | decide) (show 0 + ((256 * (p653733.toInt - g654816.toInt)).toNat) ≤ ((256 * (p653733.toInt - p653734.toInt)).toNat) by first | omega | decide) (Nat.le_of_ble_eq_true rfl) (fun r655160 w655161 dc655157 ds655158 hp655159 => ?_) (fun _ _ _ _ _ z => z.elim)
                        obtain ⟨P655170, F655171, o655162, o655163, o655164, q655165, rfl, rfl, hsb655172, hfr655173, he655174, he655175, hdc, hds, bo655162, bo655163, x655166, x655167, x655168, x655169⟩ := hp655159
                        have hm655176 : q653731 ∈ P655170 := hsb655172 q653731 hmq653731
                        have hm655177 : q653732 ∈ P655170 := hsb655172 q653732 hmq653732
                        have hsb655178 : rSub P653729 P655170 := rSub_tr (rSub_rf (P := P653729)) hsb655172
                        have hfr655179 : rFr [q653731] P653729 F653730 F655171 := rFr_call (rSub_rf (P := P653729)) hfr655091 hfr655173 (fun b hb hn => ⟨(nm_c (fun e => hn (e ▸ List.mem_cons_self)) nm_n), (nm_c (fun e => hn (e ▸ List.mem_cons_self)) nm_n)⟩)
                        have bo655164 := gB_any o655164
                        change G _ _ _ _ _ _ _ _ _ _ _
                        refine G_widen (cs' := (16 * (o655162.toInt - g654816.toInt)).toNat) (sl' := (256 * (o655162.toInt - g654816.toInt)).toNat) (by omega) (by omega) ?_
                        refine G_goto 247 dr_cX14_next_220 (by decide +kernel) ?_
                        exact G_vretA dr_cX14_next_247 rfl (show (16 * (o655162.toInt - g654816.toInt)).toNat ≤ ((16 * (p653733.toInt - p653734.toInt)).toNat) by omega) (show (256 * (o655162.toInt - g654816.toInt)).toNat ≤ ((256 * (p653733.toInt - p653734.toInt)).toNat) by omega) ⟨P655170, F655171, o655162, o655163, g654816, o655164, q655165, rfl, rfl, hsb655178, hfr655179, he655174, he655175, (by omega), (by omega), bo655162, (gB_w bo655163 (by decide) (by decide)), (gB_w bg654816' (by decide) (by decide)), (by have qa0 : Int32.toInt 0 = 0 := (by decide); omega), (Or.inr (by omega)), (by have qa0 : Int32.toInt 0 = 0 := (by decide); omega), x655168, x655169⟩
                    refine G_iload_n 0 dr_cX14_next_151 rfl ?_
                    refine G_bipush 45 dr_cX14_next_152 (by decide +kernel) ?_
                    refine G_icmp_ne 207 dr_cX14_next_154 (by decide +kernel) (fun hc655180 => ?_) (fun hc655180 => ?_)
                    · have r655181 : z655041.toInt ≠ 45 := gj_neq hc655180 (show Int32.toInt 45 = 45 by decide)
                      refine G_iconst 0 dr_cX14_next_207 (by decide +kernel) ?_
                      refine G_istore_n (L' := [(2, .int 0), (1, .int z655041), (0, .ref q653731)]) dr_cX14_next_208 (Nat.le_of_ble_eq_true rfl) rfl ?_
                      refine G_lv (L' := [(2, .int 0), (1, .int z655041), (0, .ref q653731)]) [0, 1, 2] rfl ?_
                      exact jn655094
                    · have r655182 : z655041.toInt = 45 := gj_eq hc655180 (show Int32.toInt 45 = 45 by decide)
                      have bz655041' : gB z655041 45 45 := ⟨by omega, by omega⟩
                      refine G_aload_n 1 dr_cX14_next_157 rfl ?_
                      refine Gp_get 2 hmq653731 he655090 dr_cX14_next_158 (gk_X14 D I) (Nat.le_of_ble_eq_true rfl) wr_9_38 rfl ?_
                      refine G_iconst 1 dr_cX14_next_161 (by decide +kernel) ?_
                      refine G_iadd dr_cX14_next_162 (G_nam fun z655183 hz655183 => ?_)
                      have ez655183 : z655183.toInt = g654816.toInt + 1 := by rw [gI_add hz655183 bg654816' (gBl (show Int32.toInt 1 = 1 by decide)) (by decide) (by decide), show Int32.toInt 1 = 1 from by decide]
                      have bz655183 : gB z655183 1 8192 := gB_add (gI_add hz655183 bg654816' (gBl (show Int32.toInt 1 = 1 by decide)) (by decide) (by decide)) bg654816' (gBl (show Int32.toInt 1 = 1 by decide)) (by decide) (by decide)
                      refine G_aload_n 1 dr_cX14_next_163 rfl ?_
                      refine Gp_get 1 hmq653731 he655090 dr_cX14_next_164 (gk_X14 D I) (Nat.le_of_ble_eq_true rfl) wr_9_37 rfl ?_
                      refine G_icmp_ge 207 dr_cX14_next_167 (by decide +kernel) (fun hc655184 => ?_) (fun hc655184 => ?_)
                      · have r655185 : p653733.toInt ≤ z655183.toInt := gC_le hc655184
                        refine G_iconst 0 dr_cX14_next_207 (by decide +kernel) ?_
                        refine G_istore_n (L' := [(2, .int 0), (1, .int z655041), (0, .ref q653731)]) dr_cX14_next_208 (Nat.le_of_ble_eq_true rfl) rfl ?_
                        refine G_lv (L' := [(2, .int 0), (1, .int z655041), (0, .ref q653731)]) [0, 1, 2] rfl ?_
                        exact jn655094
                      · have r655186 : z655183.toInt < p653733.toInt := gC_nle hc655184
                        have bz655183' : gB z655183 1 8191 := ⟨by omega, by omega⟩
                        have bp653733'' : gB p653733 2 8192 := ⟨by omega, by omega⟩
                        refine G_aload_n 1 dr_cX14_next_170 rfl ?_
                        refine Gp_get 0 hmq653731 he655090 dr_cX14_next_171 (gk_X14 D I) (Nat.le_of_ble_eq_true rfl) wr_9_36 rfl ?_
                        refine G_aload_n 1 dr_cX14_next_174 rfl ?_
                        refine Gp_get 2 hmq653731 he655090 dr_cX14_next_175 (gk_X14 D I) (Nat.le_of_ble_eq_true rfl) wr_9_38 rfl ?_
                        refine G_iconst 1 dr_cX14_next_178 (by decide +kernel) ?_
                        refine G_iadd dr_cX14_next_179 (G_eqi (y := z655183) hz655183.symm ?_)
                        refine Gp_bald 1 hmq653732 he655089 dr_cX14_next_180 rfl (gB_in bz655183' (by decide) (by decide)) (G_nam fun z655187 hz655187 => ?_)
                        have bz655187 : gB z655187 (-128) 127 := by rw [hz655187]; exact bf653746 _
                        refine Gw_callS (As := [.int z655187]) (gV_ok D I) (cp_649619_Reader_isDigit l hl0 D I P653729 F655086 z655187 ) dr_cX14_next_181 ⟨wr_7_219, wr_1_32, wr_7_221, by decide, rfl, (Nat.le_of_ble_eq_true rfl), (Nat.le_of_ble_eq_true rfl)⟩ wr_7_220 (show 0 + 0 ≤ ((16 * (p653733.toInt - p653734.toInt)).toNat) by first | omega | decide) (show 0 + 0 ≤ ((256 * (p653733.toInt - p653734.toInt)).toNat) by first | omega | decide) (Nat.le_of_ble_eq_true rfl) (fun r655191 w655192 dc655188 ds655189 hp655190 => ?_) (fun _ _ _ _ _ z => z.elim)
                        obtain ⟨o655193, rfl, rfl, hdc, hds, bo655193, x655194⟩ := hp655190
                        change G _ _ _ _ _ _ _ (.int o655193 :: _) _ _ _
                        refine G_widen (cs' := 0) (sl' := 0) (by omega) (by omega) ?_
                        refine G_if_eq 207 dr_cX14_next_184 (by decide +kernel) (fun hc655195 => ?_) (fun hc655195 => ?_)
                        · have r655196 : o655193.toInt = 0 := gj_eq hc655195 (show Int32.toInt 0 = 0 by decide)
                          have bo655193' : gB o655193 0 0 := ⟨by omega, by omega⟩
                          refine G_iconst 0 dr_cX14_next_207 (by decide +kernel) ?_
                          refine G_istore_n (L' := [(2, .int 0), (1, .int z655041), (0, .ref q653731)]) dr_cX14_next_208 (Nat.le_of_ble_eq_true rfl) rfl ?_
                          refine G_lv (L' := [(2, .int 0), (1, .int z655041), (0, .ref q653731)]) [0, 1, 2] rfl ?_
                          exact jn655094
                        · have r655197 : o655193.toInt ≠ 0 := gj_neq hc655195 (show Int32.toInt 0 = 0 by decide)
                          have bo655193' : gB o655193 1 1 := ⟨by omega, by omega⟩
                          have bi655198 : gB z655187 48 57 := isP_1 x655194 (by omega)
                          refine G_aload_n 1 dr_cX14_next_187 rfl ?_
                          refine Gp_get 6 hmq653731 he655090 dr_cX14_next_188 (gk_X14 D I) (Nat.le_of_ble_eq_true rfl) wr_9_42 rfl ?_
                          refine G_iconst 2 dr_cX14_next_191 (by decide +kernel) ?_
                          refine G_icmp_eq 207 dr_cX14_next_192 (by decide +kernel) (fun hc655199 => ?_) (fun hc655199 => ?_)
                          · have r655200 : p653735.toInt = 2 := gj_eq hc655199 (show Int32.toInt 2 = 2 by decide)
                            have bp653735' : gB p653735 2 2 := ⟨by omega, by omega⟩
                            refine G_iconst 0 dr_cX14_next_207 (by decide +kernel) ?_
                            refine G_istore_n (L' := [(2, .int 0), (1, .int z655041), (0, .ref q653731)]) dr_cX14_next_208 (Nat.le_of_ble_eq_true rfl) rfl ?_
                            refine G_lv (L' := [(2, .int 0), (1, .int z655041), (0, .ref q653731)]) [0, 1, 2] rfl ?_
                            exact jn655094
                          · have r655201 : p653735.toInt ≠ 2 := gj_neq hc655199 (show Int32.toInt 2 = 2 by decide)
                            refine G_aload_n 1 dr_cX14_next_195 rfl ?_
                            refine Gp_get 6 hmq653731 he655090 dr_cX14_next_196 (gk_X14 D I) (Nat.le_of_ble_eq_true rfl) wr_9_42 rfl ?_
                            refine G_iconst 4 dr_cX14_next_199 (by decide +kernel) ?_
                            refine G_icmp_eq 207 dr_cX14_next_200 (by decide +kernel) (fun hc655202 => ?_) (fun hc655202 => ?_)
                            · have r655203 : p653735.toInt = 4 := gj_eq hc655202 (show Int32.toInt 4 = 4 by decide)
                              have bp653735' : gB p653735 4 4 := ⟨by omega, by omega⟩
                              refine G_iconst 0 dr_cX14_next_207 (by decide +kernel) ?_
                              refine G_istore_n (L' := [(2, .int 0), (1, .int z655041), (0, .ref q653731)]) dr_cX14_next_208 (Nat.le_of_ble_eq_true rfl) rfl ?_
                              refine G_lv (L' := [(2, .int 0), (1, .int z655041), (0, .ref q653731)]) [0, 1, 2] rfl ?_
                              exact jn655094
                            · have r655204 : p653735.toInt ≠ 4 := gj_neq hc655202 (show Int32.toInt 4 = 4 by decide)
                              refine G_iconst 1 dr_cX14_next_203 (by decide +kernel) ?_
                              refine G_goto 208 dr_cX14_next_204 (by decide +kernel) ?_
                              refine G_istore_n (L' := [(2, .int 1), (1, .int z655041), (0, .ref q653731)]) dr_cX14_next_208 (Nat.le_of_ble_eq_true rfl) rfl ?_
                              clear bp653733' bz655041 jn655094 bz655183 bz655187 bo655193 bo655193'; try clear r655191; try clear w655192; try clear dc655188; try clear ds655189; try clear hp655190; try clear x655194; try clear r655197
                              refine G_iload_n 1 dr_cX14_next_209 rfl ?_
                              refine Gw_callS (As := [.int z655041]) (gV_ok D I) (cp_651516_Reader_isLetter l hl0 D I P653729 F655086 z655041 ) dr_cX14_next_210 ⟨wr_7_222, wr_1_32, wr_7_224, by decide, rfl, (Nat.le_of_ble_eq_true rfl), (Nat.le_of_ble_eq_true rfl)⟩ wr_7_223 (show 0 + 0 ≤ ((16 * (p653733.toInt - p653734.toInt)).toNat) by first | omega | decide) (show 0 + 0 ≤ ((256 * (p653733.toInt - p653734.toInt)).toNat) by first | omega | decide) (Nat.le_of_ble_eq_true rfl) (fun r655208 w655209 dc655205 ds655206 hp655207 => ?_) (fun _ _ _ _ _ z => z.elim)
                              obtain ⟨o655210, rfl, rfl, hdc, hds, bo655210, x655211⟩ := hp655207
                              change G _ _ _ _ _ _ _ (.int o655210 :: _) _ _ _
                              refine G_widen (cs' := 0) (sl' := 0) (by omega) (by omega) ?_
                              refine G_if_eq 223 dr_cX14_next_213 (by decide +kernel) (fun hc655212 => ?_) (fun hc655212 => ?_)
                              · have r655213 : o655210.toInt = 0 := gj_eq hc655212 (show Int32.toInt 0 = 0 by decide)
                                have bo655210' : gB o655210 0 0 := ⟨by omega, by omega⟩
                                clear bo655210 bo655210'; try clear r655208; try clear w655209; try clear dc655205; try clear ds655206; try clear hp655207; try clear x655211; try clear r655213
                                refine G_iload_n 1 dr_cX14_next_223 rfl ?_
                                refine Gw_callS (As := [.int z655041]) (gV_ok D I) (cp_649619_Reader_isDigit l hl0 D I P653729 F655086 z655041 ) dr_cX14_next_224 ⟨wr_7_219, wr_1_32, wr_7_221, by decide, rfl, (Nat.le_of_ble_eq_true rfl), (Nat.le_of_ble_eq_true rfl)⟩ wr_7_220 (show 0 + 0 ≤ ((16 * (p653733.toInt - p653734.toInt)).toNat) by first | omega | decide) (show 0 + 0 ≤ ((256 * (p653733.toInt - p653734.toInt)).toNat) by first | omega | decide) (Nat.le_of_ble_eq_true rfl) (fun r655217 w655218 dc655214 ds655215 hp655216 => ?_) (fun _ _ _ _ _ z => z.elim)
                                obtain ⟨o655219, rfl, rfl, hdc, hds, bo655219, x655220⟩ := hp655216
                                change G _ _ _ _ _ _ _ (.int o655219 :: _) _ _ _
                                refine G_widen (cs' := 0) (sl' := 0) (by omega) (by omega) ?_
                                refine G_if_ne 234 dr_cX14_next_227 (by decide +kernel) (fun hc655221 => ?_) (fun hc655221 => ?_)
                                · have r655222 : o655219.toInt ≠ 0 := gj_neq hc655221 (show Int32.toInt 0 = 0 by decide)
                                  have bo655219' : gB o655219 1 1 := ⟨by omega, by omega⟩
                                  have bi655223 : gB z655041 48 57 := isP_1 x655220 (by omega)
                                  refine G_aload_n 2 dr_cX14_next_234 rfl ?_
                                  refine G_iload_n 0 dr_cX14_next_235 rfl ?_
                                  refine Gw_callV (As := [.int 1]) (gV_ok D I) (cp_649583_Reader_number l hl0 D I P653729 F655086 q653731 q653732 1 p653733 g654816 p653735 g654816 p653737 p653735 (D.2 1000 32) p653740 p653741 p653742 qo653743 qo653744 p653745 f653746 hmq653731 hmq653732 he655090 he655089 (gB_w (gBl (show Int32.toInt 1 = 1 by decide)) (by decide) (by decide)) (gB_w bp653733'' (by decide) (by decide)) (gB_w bg654816' (by decide) (by decide)) bp653735 (gB_w bg654816' (by decide) (by decide)) bp653735 bp653740 bp653741 bp653742 bp653745 bf653746 (by have qa0 : Int32.toInt 1 = 1 := (by decide); omega) (by have qa0 : Int32.toInt 1 = 1 := (by decide); omega) (by first | assumption | exact cDg_no (by omega) | exact cDg_no (by decide) | exact cDg_of (by assumption) (by omega) (by omega)) x653748 x653749) dr_cX14_next_236 ⟨wr_8_218, wr_1_32, wr_8_221, by decide, rfl, (Nat.le_of_ble_eq_true rfl), (Nat.le_of_ble_eq_true rfl)⟩ wr_8_220 wr_p_77 hmq653731 he655090 rfl (show 0 + ((16 * (p653733.toInt - g654816.toInt)).toNat) ≤ ((16 * (p653733.toInt - p653734.toInt)).toNat) by first | omega | decide) (show 0 + ((256 * (p653733.toInt - g654816.toInt)).toNat) ≤ ((256 * (p653733.toInt - p653734.toInt)).toNat) by first | omega | decide) (Nat.le_of_ble_eq_true rfl) (fun r655227 w655228 dc655224 ds655225 hp655226 => ?_) (fun _ _ _ _ _ z => z.elim)
                                  obtain ⟨F655236, o655229, o655230, o655231, rfl, rfl, hfr655238, he655239, he655240, hdc, hds, bo655229, bo655230, x655232, x655233, x655234, x655235⟩ := hp655226
                                  have hfr655241 : rFr [q653731] P653729 F653730 F655236 := rFr_call (rSub_rf (P := P653729)) hfr655091 hfr655238 (fun b hb hn => ⟨(nm_c (fun e => hn (e ▸ List.mem_cons_self)) nm_n), (nm_c (fun e => hn (e ▸ List.mem_cons_self)) nm_n)⟩)
                                  have bo655231 := gB_any o655231
                                  change G _ _ _ _ _ _ _ _ _ _ _
                                  refine G_widen (cs' := (16 * (o655229.toInt - g654816.toInt)).toNat) (sl' := (256 * (o655229.toInt - g654816.toInt)).toNat) (by omega) (by omega) ?_
                                  refine G_goto 247 dr_cX14_next_239 (by decide +kernel) ?_
                                  exact G_vretA dr_cX14_next_247 rfl (show (16 * (o655229.toInt - g654816.toInt)).toNat ≤ ((16 * (p653733.toInt - p653734.toInt)).toNat) by omega) (show (256 * (o655229.toInt - g654816.toInt)).toNat ≤ ((256 * (p653733.toInt - p653734.toInt)).toNat) by omega) ⟨P653729, F655236, o655229, o655230, g654816, o655231, (D.2 1000 32), rfl, rfl, (rSub_rf (P := P653729)), hfr655241, he655239, he655240, (by omega), (by omega), bo655229, (gB_w bo655230 (by decide) (by decide)), (gB_w bg654816' (by decide) (by decide)), (by have qa0 : Int32.toInt 1 = 1 := (by decide); omega), (Or.inr (by omega)), (by have qa0 : Int32.toInt 1 = 1 := (by decide); omega), (by first | exact tP_no (by omega) (by omega) | assumption), x655235⟩
                                · have r655242 : o655219.toInt = 0 := gj_eq hc655221 (show Int32.toInt 0 = 0 by decide)
                                  have bo655219' : gB o655219 0 0 := ⟨by omega, by omega⟩
                                  refine G_iload_n 0 dr_cX14_next_230 rfl ?_
                                  refine G_if_eq 242 dr_cX14_next_231 (by decide +kernel) (fun hc => absurd hc (by decide)) (fun _ => ?_)
                                  refine G_aload_n 2 dr_cX14_next_234 rfl ?_
                                  refine G_iload_n 0 dr_cX14_next_235 rfl ?_
                                  refine Gw_callV (As := [.int 1]) (gV_ok D I) (cp_649583_Reader_number l hl0 D I P653729 F655086 q653731 q653732 1 p653733 g654816 p653735 g654816 p653737 p653735 (D.2 1000 32) p653740 p653741 p653742 qo653743 qo653744 p653745 f653746 hmq653731 hmq653732 he655090 he655089 (gB_w (gBl (show Int32.toInt 1 = 1 by decide)) (by decide) (by decide)) (gB_w bp653733'' (by decide) (by decide)) (gB_w bg654816' (by decide) (by decide)) bp653735 (gB_w bg654816' (by decide) (by decide)) bp653735 bp653740 bp653741 bp653742 bp653745 bf653746 (by have qa0 : Int32.toInt 1 = 1 := (by decide); omega) (by have qa0 : Int32.toInt 1 = 1 := (by decide); omega) (by first | assumption | exact cDg_no (by omega) | exact cDg_no (by decide) | exact cDg_of (by assumption) (by omega) (by omega)) x653748 x653749) dr_cX14_next_236 ⟨wr_8_218, wr_1_32, wr_8_221, by decide, rfl, (Nat.le_of_ble_eq_true rfl), (Nat.le_of_ble_eq_true rfl)⟩ wr_8_220 wr_p_77 hmq653731 he655090 rfl (show 0 + ((16 * (p653733.toInt - g654816.toInt)).toNat) ≤ ((16 * (p653733.toInt - p653734.toInt)).toNat) by first | omega | decide) (show 0 + ((256 * (p653733.toInt - g654816.toInt)).toNat) ≤ ((256 * (p653733.toInt - p653734.toInt)).toNat) by first | omega | decide) (Nat.le_of_ble_eq_true rfl) (fun r655246 w655247 dc655243 ds655244 hp655245 => ?_) (fun _ _ _ _ _ z => z.elim)
                                  obtain ⟨F655255, o655248, o655249, o655250, rfl, rfl, hfr655257, he655258, he655259, hdc, hds, bo655248, bo655249, x655251, x655252, x655253, x655254⟩ := hp655245
                                  have hfr655260 : rFr [q653731] P653729 F653730 F655255 := rFr_call (rSub_rf (P := P653729)) hfr655091 hfr655257 (fun b hb hn => ⟨(nm_c (fun e => hn (e ▸ List.mem_cons_self)) nm_n), (nm_c (fun e => hn (e ▸ List.mem_cons_self)) nm_n)⟩)
                                  have bo655250 := gB_any o655250
                                  change G _ _ _ _ _ _ _ _ _ _ _
                                  refine G_widen (cs' := (16 * (o655248.toInt - g654816.toInt)).toNat) (sl' := (256 * (o655248.toInt - g654816.toInt)).toNat) (by omega) (by omega) ?_
                                  refine G_goto 247 dr_cX14_next_239 (by decide +kernel) ?_
                                  exact G_vretA dr_cX14_next_247 rfl (show (16 * (o655248.toInt - g654816.toInt)).toNat ≤ ((16 * (p653733.toInt - p653734.toInt)).toNat) by omega) (show (256 * (o655248.toInt - g654816.toInt)).toNat ≤ ((256 * (p653733.toInt - p653734.toInt)).toNat) by omega) ⟨P653729, F655255, o655248, o655249, g654816, o655250, (D.2 1000 32), rfl, rfl, (rSub_rf (P := P653729)), hfr655260, he655258, he655259, (by omega), (by omega), bo655248, (gB_w bo655249 (by decide) (by decide)), (gB_w bg654816' (by decide) (by decide)), (by have qa0 : Int32.toInt 1 = 1 := (by decide); omega), (Or.inr (by omega)), (by have qa0 : Int32.toInt 1 = 1 := (by decide); omega), (by first | exact tP_no (by omega) (by omega) | assumption), x655254⟩
                              · have r655261 : o655210.toInt ≠ 0 := gj_neq hc655212 (show Int32.toInt 0 = 0 by decide)
                                have bo655210' : gB o655210 1 1 := ⟨by omega, by omega⟩
                                have bi655262 : gB z655041 97 122 := isP_1 x655211 (by omega)
                                refine G_aload_n 2 dr_cX14_next_216 rfl ?_
                                refine Gw_callV (As := []) (gV_ok D I) (cp_651181_Reader_word l hl0 D I P653729 F655086 q653731 q653732 p653733 g654816 p653735 g654816 p653737 p653735 (D.2 1000 32) p653740 p653741 p653742 qo653743 qo653744 p653745 f653746 hmq653731 hmq653732 he655090 he655089 (gB_w bp653733'' (by decide) (by decide)) (gB_w bg654816' (by decide) (by decide)) bp653735 (gB_w bg654816' (by decide) (by decide)) bp653735 bp653740 bp653741 bp653742 bp653745 bf653746 (by have qa0 : Int32.toInt 1 = 1 := (by decide); omega) (by have qa0 : Int32.toInt 1 = 1 := (by decide); omega) (by first | assumption | exact cLt_of (by assumption) (by omega) (by omega)) x653748 x653749) dr_cX14_next_217 ⟨wr_7_225, wr_1_32, wr_7_228, by decide, rfl, (Nat.le_of_ble_eq_true rfl), (Nat.le_of_ble_eq_true rfl)⟩ wr_7_227 wr_p_76 hmq653731 he655090 rfl (show 0 + ((16 * (p653733.toInt - g654816.toInt)).toNat) ≤ ((16 * (p653733.toInt - p653734.toInt)).toNat) by first | omega | decide) (show 0 + ((256 * (p653733.toInt - g654816.toInt)).toNat) ≤ ((256 * (p653733.toInt - p653734.toInt)).toNat) by first | omega | decide) (Nat.le_of_ble_eq_true rfl) (fun r655266 w655267 dc655263 ds655264 hp655265 => ?_) (fun _ _ _ _ _ z => z.elim)
                                obtain ⟨P655276, F655277, o655268, o655269, o655270, q655271, rfl, rfl, hsb655278, hfr655279, he655280, he655281, hdc, hds, bo655268, bo655269, x655272, x655273, x655274, x655275⟩ := hp655265
                                have hm655282 : q653731 ∈ P655276 := hsb655278 q653731 hmq653731
                                have hm655283 : q653732 ∈ P655276 := hsb655278 q653732 hmq653732
                                have hsb655284 : rSub P653729 P655276 := rSub_tr (rSub_rf (P := P653729)) hsb655278
                                have hfr655285 : rFr [q653731] P653729 F653730 F655277 := rFr_call (rSub_rf (P := P653729)) hfr655091 hfr655279 (fun b hb hn => ⟨(nm_c (fun e => hn (e ▸ List.mem_cons_self)) nm_n), (nm_c (fun e => hn (e ▸ List.mem_cons_self)) nm_n)⟩)
                                have bo655270 := gB_any o655270
                                change G _ _ _ _ _ _ _ _ _ _ _
                                refine G_widen (cs' := (16 * (o655268.toInt - g654816.toInt)).toNat) (sl' := (256 * (o655268.toInt - g654816.toInt)).toNat) (by omega) (by omega) ?_
                                refine G_goto 247 dr_cX14_next_220 (by decide +kernel) ?_
                                exact G_vretA dr_cX14_next_247 rfl (show (16 * (o655268.toInt - g654816.toInt)).toNat ≤ ((16 * (p653733.toInt - p653734.toInt)).toNat) by omega) (show (256 * (o655268.toInt - g654816.toInt)).toNat ≤ ((256 * (p653733.toInt - p653734.toInt)).toNat) by omega) ⟨P655276, F655277, o655268, o655269, g654816, o655270, q655271, rfl, rfl, hsb655284, hfr655285, he655280, he655281, (by omega), (by omega), bo655268, (gB_w bo655269 (by decide) (by decide)), (gB_w bg654816' (by decide) (by decide)), (by have qa0 : Int32.toInt 1 = 1 := (by decide); omega), (Or.inr (by omega)), (by have qa0 : Int32.toInt 1 = 1 := (by decide); omega), x655274, x655275⟩
                  · have r655286 : g654816.toInt = p653733.toInt := gC_eq hc655092
                    have bg654816'' : gB g654816 1 8191 := ⟨by omega, by omega⟩
                    have bp653733'' : gB p653733 1 8191 := ⟨by omega, by omega⟩
                    refine G_aload_n 1 dr_cX14_next_135 rfl ?_
                    refine G_iconst 0 dr_cX14_next_136 (by decide +kernel) ?_
                    refine Gp_put 3 hmq653731 he655090 dr_cX14_next_137 (gk_X14 D I) (Nat.le_of_ble_eq_true rfl) wr_9_39 rfl rfl rfl (Nat.le_of_ble_eq_true rfl) (fun F655287 e655288 n655289 => ?_)
                    have he655290 : F655287 q653732 = .inl (I .byte, 8192, .inl f653746) := (n655289 q653732 (rn_ao he655089 he655090)).trans he655089
                    have he655291 : F655287 q653731 = .inr (19, [.ref q653732, .int p653733, .int g654816, .int 0, .int g654816, .int p653737, .int p653735, .ref (D.2 1000 32), .int p653740, .int p653741, .int p653742, .ref qo653743, .ref qo653744, .int p653745]) := e655288
                    have hfr655292 : rFr [q653731] P653729 F653730 F655287 := rFr_put' List.mem_cons_self hfr655091 n655289
                    exact G_vretA dr_cX14_next_140 rfl (show 0 ≤ ((16 * (p653733.toInt - p653734.toInt)).toNat) by omega) (show 0 ≤ ((256 * (p653733.toInt - p653734.toInt)).toNat) by omega) ⟨P653729, F655287, g654816, 0, g654816, p653737, (D.2 1000 32), rfl, rfl, (rSub_rf (P := P653729)), hfr655292, he655291, he655290, (by omega), (by omega), (gB_w bg654816'' (by decide) (by decide)), (gB_w (gBl (show Int32.toInt 0 = 0 by decide)) (by decide) (by decide)), (gB_w bg654816'' (by decide) (by decide)), (by have qa0 : Int32.toInt 0 = 0 := (by decide); omega), (Or.inl (by decide)), (by have qa0 : Int32.toInt 0 = 0 := (by decide); omega), (tP_no (by decide) (by decide)), (vP_no (by decide) (by decide))⟩
                · have r655293 : z655041.toInt = 32 := gj_eq hc655077 (show Int32.toInt 32 = 32 by decide)
                  have bz655041' : gB z655041 32 32 := ⟨by omega, by omega⟩
                  refine G_aload_n 1 dr_cX14_next_97 rfl ?_
                  refine G_dup dr_cX14_next_98 rfl ?_
                  refine Gp_get 2 hmq653731 he654818 dr_cX14_next_99 (gk_X14 D I) (Nat.le_of_ble_eq_true rfl) wr_9_38 rfl ?_
                  refine G_iconst 1 dr_cX14_next_102 (by decide +kernel) ?_
                  refine G_iadd dr_cX14_next_103 (G_nam fun z655294 hz655294 => ?_)
                  have ez655294 : z655294.toInt = g654816.toInt + 1 := by rw [gI_add hz655294 bg654816' (gBl (show Int32.toInt 1 = 1 by decide)) (by decide) (by decide), show Int32.toInt 1 = 1 from by decide]
                  have bz655294 : gB z655294 1 8192 := gB_add (gI_add hz655294 bg654816' (gBl (show Int32.toInt 1 = 1 by decide)) (by decide) (by decide)) bg654816' (gBl (show Int32.toInt 1 = 1 by decide)) (by decide) (by decide)
                  refine Gp_put 2 hmq653731 he654818 dr_cX14_next_104 (gk_X14 D I) (Nat.le_of_ble_eq_true rfl) wr_9_38 rfl rfl rfl (Nat.le_of_ble_eq_true rfl) (fun F655295 e655296 n655297 => ?_)
                  have he655298 : F655295 q653732 = .inl (I .byte, 8192, .inl f653746) := (n655297 q653732 (rn_ao he654819 he654818)).trans he654819
                  have he655299 : F655295 q653731 = .inr (19, [.ref q653732, .int p653733, .int z655294, .int p653735, .int p653736, .int p653737, .int p653735, .ref qo653739, .int p653740, .int p653741, .int p653742, .ref qo653743, .ref qo653744, .int p653745]) := e655296
                  have hfr655300 : rFr [q653731] P653729 F653730 F655295 := rFr_put' List.mem_cons_self hfr654820 n655297
                  have x655301 : g654816.toInt < z655294.toInt := by first | omega | exact chNe (a := g654816) (b := z655294) (by assumption) (by assumption) (by omega) (by omega)
                  refine G_goto 8 dr_cX14_next_107 (by decide +kernel) ?_
                  refine G_lv (L' := [(0, .ref q653731)]) [1] rfl ?_
                  exact ih8_654822 F655295 z655294 (gB_w bz655294 (by decide) (by decide)) hfr655300 he655299 he655298 (by omega) (by omega) (by omega)
        · have r655302 : z655041.toInt = 59 := gj_eq hc655042 (show Int32.toInt 59 = 59 by decide)
          have bz655041' : gB z655041 59 59 := ⟨by omega, by omega⟩
          have hlp35_655339 : ∀ (n35_655339 : Nat) (F655333 : Nat → va_E) (g655332 : Int32), gB g655332 0 8192 → rFr [q653731] P653729 F653730 F655333 → F655333 q653731 = .inr (19, [.ref q653732, .int p653733, .int g655332, .int p653735, .int p653736, .int p653737, .int p653735, .ref qo653739, .int p653740, .int p653741, .int p653742, .ref qo653743, .ref qo653744, .int p653745]) → F655333 q653732 = .inl (I .byte, 8192, .inl f653746) → p653734.toInt ≤ g655332.toInt → g655332.toInt ≤ p653733.toInt → g654816.toInt ≤ g655332.toInt → ((p653733.toInt : Int) + 1 - g655332.toInt).toNat < n35_655339 → G (gV D I) l (gRm 7 155 ((16 * (p653733.toInt - p653734.toInt)).toNat) ((256 * (p653733.toInt - p653734.toInt)).toNat)) (gMA (gV D I) (pp_653750_Reader_next D I P653729 F653730 q653731 q653732 p653733 p653734 p653735 p653736 p653737 p653738 qo653739 p653740 p653741 p653742 qo653743 qo653744 p653745 f653746) gNA ((16 * (p653733.toInt - p653734.toInt)).toNat) ((256 * (p653733.toInt - p653734.toInt)).toNat)) ky_653750_Reader_next 35 [(1, .int z655041), (0, .ref q653731)] [] (va_pl P653729 F655333) 0 0 := by
            intro n35_655339
            induction n35_655339 with
            | zero => intro F655333 g655332 bg655332 hfr655336 he655334 he655335 x655337 x655338 x655339 hm35_655339; exact absurd hm35_655339 (Nat.not_lt_zero _)
            | succ n35_655339 ih35_655339 =>
              intro F655333 g655332 bg655332 hfr655336 he655334 he655335 x655337 x655338 x655339 hm35_655339
              refine G_aload_n 1 dr_cX14_next_35 rfl ?_
              refine Gp_get 2 hmq653731 he655334 dr_cX14_next_36 (gk_X14 D I) (Nat.le_of_ble_eq_true rfl) wr_9_38 rfl ?_
              refine G_aload_n 1 dr_cX14_next_39 rfl ?_
              refine Gp_get 1 hmq653731 he655334 dr_cX14_next_40 (gk_X14 D I) (Nat.le_of_ble_eq_true rfl) wr_9_37 rfl ?_
              refine G_icmp_ge 107 dr_cX14_next_43 (by decide +kernel) (fun hc655340 => ?_) (fun hc655340 => ?_)
              · have r655341 : p653733.toInt ≤ g655332.toInt := gC_le hc655340
                have bg655332' : gB g655332 1 8192 := ⟨by omega, by omega⟩
                have x655342 : g654816.toInt < g655332.toInt := by first | omega | exact chNe (a := g654816) (b := g655332) (by assumption) (by assumption) (by omega) (by omega)
                refine G_goto 8 dr_cX14_next_107 (by decide +kernel) ?_
                refine G_lv (L' := [(0, .ref q653731)]) [1] rfl ?_
                exact ih8_654822 F655333 g655332 (gB_w bg655332' (by decide) (by decide)) hfr655336 he655334 he655335 (by omega) (by omega) (by omega)
              · have r655343 : g655332.toInt < p653733.toInt := gC_nle hc655340
                have bg655332' : gB g655332 0 8191 := ⟨by omega, by omega⟩
                refine G_aload_n 1 dr_cX14_next_46 rfl ?_
                refine Gp_get 0 hmq653731 he655334 dr_cX14_next_47 (gk_X14 D I) (Nat.le_of_ble_eq_true rfl) wr_9_36 rfl ?_
                refine G_aload_n 1 dr_cX14_next_50 rfl ?_
                refine Gp_get 2 hmq653731 he655334 dr_cX14_next_51 (gk_X14 D I) (Nat.le_of_ble_eq_true rfl) wr_9_38 rfl ?_
                refine Gp_bald 1 hmq653732 he655335 dr_cX14_next_54 rfl (gB_in bg655332' (by decide) (by decide)) (G_nam fun z655344 hz655344 => ?_)
                have bz655344 : gB z655344 (-128) 127 := by rw [hz655344]; exact bf653746 _
                refine G_bipush 10 dr_cX14_next_55 (by decide +kernel) ?_
                refine G_icmp_eq 107 dr_cX14_next_57 (by decide +kernel) (fun hc655345 => ?_) (fun hc655345 => ?_)
                · have r655346 : z655344.toInt = 10 := gj_eq hc655345 (show Int32.toInt 10 = 10 by decide)
                  have bz655344' : gB z655344 10 10 := ⟨by omega, by omega⟩
                  have x655347 : g654816.toInt < g655332.toInt := by first | omega | exact chNe (a := g654816) (b := g655332) (by assumption) (by assumption) (by omega) (by omega)
                  refine G_goto 8 dr_cX14_next_107 (by decide +kernel) ?_
                  refine G_lv (L' := [(0, .ref q653731)]) [1] rfl ?_
                  exact ih8_654822 F655333 g655332 (gB_w bg655332' (by decide) (by decide)) hfr655336 he655334 he655335 (by omega) (by omega) (by omega)
                · have r655348 : z655344.toInt ≠ 10 := gj_neq hc655345 (show Int32.toInt 10 = 10 by decide)
                  refine G_aload_n 1 dr_cX14_next_60 rfl ?_
                  refine G_dup dr_cX14_next_61 rfl ?_
                  refine Gp_get 2 hmq653731 he655334 dr_cX14_next_62 (gk_X14 D I) (Nat.le_of_ble_eq_true rfl) wr_9_38 rfl ?_
                  refine G_iconst 1 dr_cX14_next_65 (by decide +kernel) ?_
                  refine G_iadd dr_cX14_next_66 (G_nam fun z655349 hz655349 => ?_)
                  have ez655349 : z655349.toInt = g655332.toInt + 1 := by rw [gI_add hz655349 bg655332' (gBl (show Int32.toInt 1 = 1 by decide)) (by decide) (by decide), show Int32.toInt 1 = 1 from by decide]
                  have bz655349 : gB z655349 1 8192 := gB_add (gI_add hz655349 bg655332' (gBl (show Int32.toInt 1 = 1 by decide)) (by decide) (by decide)) bg655332' (gBl (show Int32.toInt 1 = 1 by decide)) (by decide) (by decide)
                  refine Gp_put 2 hmq653731 he655334 dr_cX14_next_67 (gk_X14 D I) (Nat.le_of_ble_eq_true rfl) wr_9_38 rfl rfl rfl (Nat.le_of_ble_eq_true rfl) (fun F655350 e655351 n655352 => ?_)
                  have he655353 : F655350 q653732 = .inl (I .byte, 8192, .inl f653746) := (n655352 q653732 (rn_ao he655335 he655334)).trans he655335
                  have he655354 : F655350 q653731 = .inr (19, [.ref q653732, .int p653733, .int z655349, .int p653735, .int p653736, .int p653737, .int p653735, .ref qo653739, .int p653740, .int p653741, .int p653742, .ref qo653743, .ref qo653744, .int p653745]) := e655351
                  have hfr655355 : rFr [q653731] P653729 F653730 F655350 := rFr_put' List.mem_cons_self hfr655336 n655352
                  refine G_goto 35 dr_cX14_next_70 (by decide +kernel) ?_
                  exact ih35_655339 F655350 z655349 (gB_w bz655349 (by decide) (by decide)) hfr655355 he655354 he655353 (by omega) (by omega) (by omega) (by omega)
          exact hlp35_655339 (((p653733.toInt : Int) + 1 - g654816.toInt).toNat + 1) F654817 g654816 (gB_w bg654816' (by decide) (by decide)) hfr654820 he654818 he654819 (by omega) (by omega) (by omega) (Nat.lt_succ_self _)
  exact hlp8_654822 (((p653733.toInt : Int) + 1 - p653734.toInt).toNat + 1) F653751 p653734 bp653734 hfr653756 he653755 he653754 (by omega) (by omega) (Nat.lt_succ_self _)
