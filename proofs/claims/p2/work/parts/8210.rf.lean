theorem dr_cX14_next_0 : decode cX14_next 0 = .ok (.aload_n 0, 1) := by decide +kernel
theorem dr_cX14_next_1 : decode cX14_next 1 = .ok (.aload_n 0, 1) := by decide +kernel
theorem dr_cX14_next_2 : decode cX14_next 2 = .ok (.getfield 38, 3) := by decide +kernel
theorem dr_cX14_next_5 : decode cX14_next 5 = .ok (.putfield 41, 3) := by decide +kernel
theorem wr_9_42 : (Jvm.Cond.fieldLink "SpillForgeModel$Reader" (41 : Nat) "SpillForgeModel$Reader" "before" "I") ∈ gw := gw_9 42 rfl rfl
theorem dr_cX14_next_8 : decode cX14_next 8 = .ok (.aload_n 0, 1) := by decide +kernel
theorem dr_cX14_next_9 : decode cX14_next 9 = .ok (.getfield 44, 3) := by decide +kernel
theorem dr_cX14_next_12 : decode cX14_next 12 = .ok (.aload_n 0, 1) := by decide +kernel
theorem dr_cX14_next_13 : decode cX14_next 13 = .ok (.getfield 32, 3) := by decide +kernel
theorem dr_cX14_next_16 : decode cX14_next 16 = .ok (.if_icmp .ge 94, 3) := by decide +kernel
theorem dr_cX14_next_110 : decode cX14_next 110 = .ok (.aload_n 0, 1) := by decide +kernel
theorem dr_cX14_next_111 : decode cX14_next 111 = .ok (.aload_n 0, 1) := by decide +kernel
theorem dr_cX14_next_112 : decode cX14_next 112 = .ok (.getfield 44, 3) := by decide +kernel
theorem dr_cX14_next_115 : decode cX14_next 115 = .ok (.putfield 47, 3) := by decide +kernel
theorem wr_9_40 : (Jvm.Cond.fieldLink "SpillForgeModel$Reader" (47 : Nat) "SpillForgeModel$Reader" "place" "I") ∈ gw := gw_9 40 rfl rfl
theorem dr_cX14_next_118 : decode cX14_next 118 = .ok (.aload_n 0, 1) := by decide +kernel
theorem dr_cX14_next_119 : decode cX14_next 119 = .ok (.ldc 9, 2) := by decide +kernel
theorem dr_cX14_next_121 : decode cX14_next 121 = .ok (.putfield 11, 3) := by decide +kernel
theorem dr_cX14_next_124 : decode cX14_next 124 = .ok (.aload_n 0, 1) := by decide +kernel
theorem dr_cX14_next_125 : decode cX14_next 125 = .ok (.getfield 44, 3) := by decide +kernel
theorem dr_cX14_next_128 : decode cX14_next 128 = .ok (.aload_n 0, 1) := by decide +kernel
theorem dr_cX14_next_129 : decode cX14_next 129 = .ok (.getfield 32, 3) := by decide +kernel
theorem dr_cX14_next_132 : decode cX14_next 132 = .ok (.if_icmp .ne 9, 3) := by decide +kernel
theorem dr_cX14_next_141 : decode cX14_next 141 = .ok (.aload_n 0, 1) := by decide +kernel
theorem dr_cX14_next_142 : decode cX14_next 142 = .ok (.getfield 28, 3) := by decide +kernel
theorem dr_cX14_next_145 : decode cX14_next 145 = .ok (.aload_n 0, 1) := by decide +kernel
theorem dr_cX14_next_146 : decode cX14_next 146 = .ok (.getfield 44, 3) := by decide +kernel
theorem dr_cX14_next_149 : decode cX14_next 149 = .ok (.baload, 1) := by decide +kernel
theorem dr_cX14_next_150 : decode cX14_next 150 = .ok (.istore_n 1, 1) := by decide +kernel
theorem dr_cX14_next_209 : decode cX14_next 209 = .ok (.iload_n 1, 1) := by decide +kernel
theorem dr_cX14_next_210 : decode cX14_next 210 = .ok (.invokestatic 54, 3) := by decide +kernel
theorem dr_cX14_next_213 : decode cX14_next 213 = .ok (.ifCond .eq 10, 3) := by decide +kernel
theorem dr_cX14_next_223 : decode cX14_next 223 = .ok (.iload_n 1, 1) := by decide +kernel
theorem dr_cX14_next_224 : decode cX14_next 224 = .ok (.invokestatic 50, 3) := by decide +kernel
theorem dr_cX14_next_227 : decode cX14_next 227 = .ok (.ifCond .ne 7, 3) := by decide +kernel
theorem dr_cX14_next_234 : decode cX14_next 234 = .ok (.aload_n 0, 1) := by decide +kernel
theorem dr_cX14_next_235 : decode cX14_next 235 = .ok (.iload_n 2, 1) := by decide +kernel
theorem dr_cX14_next_236 : decode cX14_next 236 = .ok (.invokevirtual 60, 3) := by decide +kernel
theorem wr_8_218 : (Jvm.Cond.methodLink "SpillForgeModel$Reader" (60 : Nat) ({ cls := "SpillForgeModel$Reader", name := "number", desc := "(Z)V" } : Jvm.MethodName)) ∈ gw := gw_8 218 rfl rfl
theorem wr_8_221 : (Jvm.Cond.code ({ cls := "SpillForgeModel$Reader", name := "number", desc := "(Z)V" } : Jvm.MethodName) prog_17_method_6_code (4 : Nat) (Option.none : Option Jvm.ClassFile.FieldType)) ∈ gw := gw_8 221 rfl rfl
theorem wr_8_220 : (Jvm.Cond.instanceMethod ({ cls := "SpillForgeModel$Reader", name := "number", desc := "(Z)V" } : Jvm.MethodName)) ∈ gw := gw_8 220 rfl rfl
theorem wr_p_77 : Cond.selects "SpillForgeModel$Reader" ⟨"SpillForgeModel$Reader", "number", "(Z)V"⟩ ⟨"SpillForgeModel$Reader", "number", "(Z)V"⟩ ∈ gw := gw_p _ 77 rfl rfl rfl
theorem dr_cX14_next_239 : decode cX14_next 239 = .ok (.goto 8, 3) := by decide +kernel
theorem dr_cX14_next_247 : decode cX14_next 247 = .ok (.return_, 1) := by decide +kernel
theorem dr_cX14_next_230 : decode cX14_next 230 = .ok (.iload_n 2, 1) := by decide +kernel
theorem dr_cX14_next_231 : decode cX14_next 231 = .ok (.ifCond .eq 11, 3) := by decide +kernel
theorem dr_cX14_next_242 : decode cX14_next 242 = .ok (.aload_n 0, 1) := by decide +kernel
theorem dr_cX14_next_243 : decode cX14_next 243 = .ok (.iload_n 1, 1) := by decide +kernel
theorem dr_cX14_next_244 : decode cX14_next 244 = .ok (.invokevirtual 64, 3) := by decide +kernel
theorem wr_8_223 : (Jvm.Cond.methodLink "SpillForgeModel$Reader" (64 : Nat) ({ cls := "SpillForgeModel$Reader", name := "symbol", desc := "(I)V" } : Jvm.MethodName)) ∈ gw := gw_8 223 rfl rfl
theorem wr_8_226 : (Jvm.Cond.code ({ cls := "SpillForgeModel$Reader", name := "symbol", desc := "(I)V" } : Jvm.MethodName) prog_17_method_7_code (4 : Nat) (Option.none : Option Jvm.ClassFile.FieldType)) ∈ gw := gw_8 226 rfl rfl
theorem wr_8_225 : (Jvm.Cond.instanceMethod ({ cls := "SpillForgeModel$Reader", name := "symbol", desc := "(I)V" } : Jvm.MethodName)) ∈ gw := gw_8 225 rfl rfl
theorem wr_p_78 : Cond.selects "SpillForgeModel$Reader" ⟨"SpillForgeModel$Reader", "symbol", "(I)V"⟩ ⟨"SpillForgeModel$Reader", "symbol", "(I)V"⟩ ∈ gw := gw_p _ 78 rfl rfl rfl
theorem dr_cX14_next_216 : decode cX14_next 216 = .ok (.aload_n 0, 1) := by decide +kernel
theorem dr_cX14_next_217 : decode cX14_next 217 = .ok (.invokevirtual 57, 3) := by decide +kernel
theorem wr_7_225 : (Jvm.Cond.methodLink "SpillForgeModel$Reader" (57 : Nat) ({ cls := "SpillForgeModel$Reader", name := "word", desc := "()V" } : Jvm.MethodName)) ∈ gw := gw_7 225 rfl rfl
theorem wr_7_228 : (Jvm.Cond.code ({ cls := "SpillForgeModel$Reader", name := "word", desc := "()V" } : Jvm.MethodName) prog_17_method_5_code (4 : Nat) (Option.none : Option Jvm.ClassFile.FieldType)) ∈ gw := gw_7 228 rfl rfl
theorem wr_7_227 : (Jvm.Cond.instanceMethod ({ cls := "SpillForgeModel$Reader", name := "word", desc := "()V" } : Jvm.MethodName)) ∈ gw := gw_7 227 rfl rfl
theorem wr_p_76 : Cond.selects "SpillForgeModel$Reader" ⟨"SpillForgeModel$Reader", "word", "()V"⟩ ⟨"SpillForgeModel$Reader", "word", "()V"⟩ ∈ gw := gw_p _ 76 rfl rfl rfl
theorem dr_cX14_next_220 : decode cX14_next 220 = .ok (.goto 27, 3) := by decide +kernel
theorem dr_cX14_next_151 : decode cX14_next 151 = .ok (.iload_n 1, 1) := by decide +kernel
theorem dr_cX14_next_152 : decode cX14_next 152 = .ok (.bipush 45, 2) := by decide +kernel
theorem dr_cX14_next_154 : decode cX14_next 154 = .ok (.if_icmp .ne 53, 3) := by decide +kernel
theorem dr_cX14_next_207 : decode cX14_next 207 = .ok (.iconst 0, 1) := by decide +kernel
theorem dr_cX14_next_208 : decode cX14_next 208 = .ok (.istore_n 2, 1) := by decide +kernel
theorem dr_cX14_next_157 : decode cX14_next 157 = .ok (.aload_n 0, 1) := by decide +kernel
theorem dr_cX14_next_158 : decode cX14_next 158 = .ok (.getfield 44, 3) := by decide +kernel
theorem dr_cX14_next_161 : decode cX14_next 161 = .ok (.iconst 1, 1) := by decide +kernel
theorem dr_cX14_next_162 : decode cX14_next 162 = .ok (.iadd, 1) := by decide +kernel
theorem dr_cX14_next_163 : decode cX14_next 163 = .ok (.aload_n 0, 1) := by decide +kernel
theorem dr_cX14_next_164 : decode cX14_next 164 = .ok (.getfield 32, 3) := by decide +kernel
theorem dr_cX14_next_167 : decode cX14_next 167 = .ok (.if_icmp .ge 40, 3) := by decide +kernel
theorem dr_cX14_next_170 : decode cX14_next 170 = .ok (.aload_n 0, 1) := by decide +kernel
theorem dr_cX14_next_171 : decode cX14_next 171 = .ok (.getfield 28, 3) := by decide +kernel
theorem dr_cX14_next_174 : decode cX14_next 174 = .ok (.aload_n 0, 1) := by decide +kernel
theorem dr_cX14_next_175 : decode cX14_next 175 = .ok (.getfield 44, 3) := by decide +kernel
theorem dr_cX14_next_178 : decode cX14_next 178 = .ok (.iconst 1, 1) := by decide +kernel
theorem dr_cX14_next_179 : decode cX14_next 179 = .ok (.iadd, 1) := by decide +kernel
theorem dr_cX14_next_180 : decode cX14_next 180 = .ok (.baload, 1) := by decide +kernel
theorem dr_cX14_next_181 : decode cX14_next 181 = .ok (.invokestatic 50, 3) := by decide +kernel
theorem dr_cX14_next_184 : decode cX14_next 184 = .ok (.ifCond .eq 23, 3) := by decide +kernel
theorem dr_cX14_next_187 : decode cX14_next 187 = .ok (.aload_n 0, 1) := by decide +kernel
theorem dr_cX14_next_188 : decode cX14_next 188 = .ok (.getfield 41, 3) := by decide +kernel
theorem dr_cX14_next_191 : decode cX14_next 191 = .ok (.iconst 2, 1) := by decide +kernel
theorem dr_cX14_next_192 : decode cX14_next 192 = .ok (.if_icmp .eq 15, 3) := by decide +kernel
theorem dr_cX14_next_195 : decode cX14_next 195 = .ok (.aload_n 0, 1) := by decide +kernel
theorem dr_cX14_next_196 : decode cX14_next 196 = .ok (.getfield 41, 3) := by decide +kernel
theorem dr_cX14_next_199 : decode cX14_next 199 = .ok (.iconst 4, 1) := by decide +kernel
theorem dr_cX14_next_200 : decode cX14_next 200 = .ok (.if_icmp .eq 7, 3) := by decide +kernel
theorem dr_cX14_next_203 : decode cX14_next 203 = .ok (.iconst 1, 1) := by decide +kernel
theorem dr_cX14_next_204 : decode cX14_next 204 = .ok (.goto 4, 3) := by decide +kernel
theorem dr_cX14_next_135 : decode cX14_next 135 = .ok (.aload_n 0, 1) := by decide +kernel
theorem dr_cX14_next_136 : decode cX14_next 136 = .ok (.iconst 0, 1) := by decide +kernel
theorem dr_cX14_next_137 : decode cX14_next 137 = .ok (.putfield 38, 3) := by decide +kernel
theorem dr_cX14_next_140 : decode cX14_next 140 = .ok (.return_, 1) := by decide +kernel
theorem dr_cX14_next_19 : decode cX14_next 19 = .ok (.aload_n 0, 1) := by decide +kernel
theorem dr_cX14_next_20 : decode cX14_next 20 = .ok (.getfield 28, 3) := by decide +kernel
theorem dr_cX14_next_23 : decode cX14_next 23 = .ok (.aload_n 0, 1) := by decide +kernel
theorem dr_cX14_next_24 : decode cX14_next 24 = .ok (.getfield 44, 3) := by decide +kernel
theorem dr_cX14_next_27 : decode cX14_next 27 = .ok (.baload, 1) := by decide +kernel
theorem dr_cX14_next_28 : decode cX14_next 28 = .ok (.istore_n 1, 1) := by decide +kernel
theorem dr_cX14_next_29 : decode cX14_next 29 = .ok (.iload_n 1, 1) := by decide +kernel
theorem dr_cX14_next_30 : decode cX14_next 30 = .ok (.bipush 59, 2) := by decide +kernel
theorem dr_cX14_next_32 : decode cX14_next 32 = .ok (.if_icmp .ne 41, 3) := by decide +kernel
theorem dr_cX14_next_73 : decode cX14_next 73 = .ok (.iload_n 1, 1) := by decide +kernel
theorem dr_cX14_next_74 : decode cX14_next 74 = .ok (.bipush 9, 2) := by decide +kernel
theorem dr_cX14_next_76 : decode cX14_next 76 = .ok (.if_icmp .eq 21, 3) := by decide +kernel
theorem dr_cX14_next_97 : decode cX14_next 97 = .ok (.aload_n 0, 1) := by decide +kernel
theorem dr_cX14_next_98 : decode cX14_next 98 = .ok (.dup, 1) := by decide +kernel
theorem dr_cX14_next_99 : decode cX14_next 99 = .ok (.getfield 44, 3) := by decide +kernel
theorem dr_cX14_next_102 : decode cX14_next 102 = .ok (.iconst 1, 1) := by decide +kernel
theorem dr_cX14_next_103 : decode cX14_next 103 = .ok (.iadd, 1) := by decide +kernel
theorem dr_cX14_next_104 : decode cX14_next 104 = .ok (.putfield 44, 3) := by decide +kernel
theorem dr_cX14_next_107 : decode cX14_next 107 = .ok (.goto (-99), 3) := by decide +kernel
theorem dr_cX14_next_79 : decode cX14_next 79 = .ok (.iload_n 1, 1) := by decide +kernel
theorem dr_cX14_next_80 : decode cX14_next 80 = .ok (.bipush 10, 2) := by decide +kernel
theorem dr_cX14_next_82 : decode cX14_next 82 = .ok (.if_icmp .eq 15, 3) := by decide +kernel
theorem dr_cX14_next_85 : decode cX14_next 85 = .ok (.iload_n 1, 1) := by decide +kernel
theorem dr_cX14_next_86 : decode cX14_next 86 = .ok (.bipush 13, 2) := by decide +kernel
theorem dr_cX14_next_88 : decode cX14_next 88 = .ok (.if_icmp .eq 9, 3) := by decide +kernel
theorem dr_cX14_next_91 : decode cX14_next 91 = .ok (.iload_n 1, 1) := by decide +kernel
theorem dr_cX14_next_92 : decode cX14_next 92 = .ok (.bipush 32, 2) := by decide +kernel
theorem dr_cX14_next_94 : decode cX14_next 94 = .ok (.if_icmp .ne 16, 3) := by decide +kernel
theorem dr_cX14_next_35 : decode cX14_next 35 = .ok (.aload_n 0, 1) := by decide +kernel
theorem dr_cX14_next_36 : decode cX14_next 36 = .ok (.getfield 44, 3) := by decide +kernel
theorem dr_cX14_next_39 : decode cX14_next 39 = .ok (.aload_n 0, 1) := by decide +kernel
theorem dr_cX14_next_40 : decode cX14_next 40 = .ok (.getfield 32, 3) := by decide +kernel
theorem dr_cX14_next_43 : decode cX14_next 43 = .ok (.if_icmp .ge 64, 3) := by decide +kernel
theorem dr_cX14_next_46 : decode cX14_next 46 = .ok (.aload_n 0, 1) := by decide +kernel
theorem dr_cX14_next_47 : decode cX14_next 47 = .ok (.getfield 28, 3) := by decide +kernel
theorem dr_cX14_next_50 : decode cX14_next 50 = .ok (.aload_n 0, 1) := by decide +kernel
theorem dr_cX14_next_51 : decode cX14_next 51 = .ok (.getfield 44, 3) := by decide +kernel
theorem dr_cX14_next_54 : decode cX14_next 54 = .ok (.baload, 1) := by decide +kernel
theorem dr_cX14_next_55 : decode cX14_next 55 = .ok (.bipush 10, 2) := by decide +kernel
theorem dr_cX14_next_57 : decode cX14_next 57 = .ok (.if_icmp .eq 50, 3) := by decide +kernel
theorem dr_cX14_next_60 : decode cX14_next 60 = .ok (.aload_n 0, 1) := by decide +kernel
theorem dr_cX14_next_61 : decode cX14_next 61 = .ok (.dup, 1) := by decide +kernel
theorem dr_cX14_next_62 : decode cX14_next 62 = .ok (.getfield 44, 3) := by decide +kernel
theorem dr_cX14_next_65 : decode cX14_next 65 = .ok (.iconst 1, 1) := by decide +kernel
theorem dr_cX14_next_66 : decode cX14_next 66 = .ok (.iadd, 1) := by decide +kernel
theorem dr_cX14_next_67 : decode cX14_next 67 = .ok (.putfield 44, 3) := by decide +kernel
theorem dr_cX14_next_70 : decode cX14_next 70 = .ok (.goto (-35), 3) := by decide +kernel
abbrev ky_653748_Reader_next : gKey := (cX14_next, 3, "SpillForgeModel$Reader", none, [], "next", fun _ _ => True)
def pp_653748_Reader_next (D : va_G) (I : FieldType → ClassId) (P653727 : List Nat) (F653728 : Nat → va_E) (q653729 : Nat) (q653730 : Nat) (p653731 : Int32) (p653732 : Int32) (p653733 : Int32) (p653734 : Int32) (p653735 : Int32) (p653736 : Int32) (qo653737 : Nat) (p653738 : Int32) (p653739 : Int32) (p653740 : Int32) (qo653741 : Nat) (qo653742 : Nat) (p653743 : Int32) (f653744 : Nat → Int32) : Option Value → va_W → Nat → Nat → Prop := fun r w dc ds => ∃ (P655359 : List Nat) (F655360 : Nat → va_E) (o655354 : Int32) (o655355 : Int32) (o655356 : Int32) (o655357 : Int32) (q655358 : Nat), r = none ∧ w = va_pl P655359 F655360 ∧ rSub P653727 P655359 ∧ rFr [q653729] P653727 F653728 F655360 ∧ F655360 q653729 = .inr (19, [.ref q653730, .int p653731, .int o655354, .int o655355, .int o655356, .int o655357, .int p653733, .ref q655358, .int p653738, .int p653739, .int p653740, .ref qo653741, .ref qo653742, .int p653743]) ∧ F655360 q653730 = .inl (I .byte, 8192, .inl f653744) ∧ dc ≤ (16 * (o655354.toInt - p653732.toInt)).toNat ∧ ds ≤ (256 * (o655354.toInt - p653732.toInt)).toNat ∧ gB o655354 0 8192 ∧ gB o655355 0 6 ∧ gB o655356 0 8192 ∧ p653732.toInt ≤ o655354.toInt ∧ prP o655355 p653732 o655354 ∧ o655354.toInt ≤ p653731.toInt ∧ tP I P655359 F655360 o655355 q655358 qo653742 qo653741 ∧ vP o655355 o655357
set_option maxRecDepth 100000 in
set_option maxHeartbeats 4000000 in
theorem cp_653748_Reader_next (l : Launch) (hl0 : l.stackTraces = false) (D : va_G) (I : FieldType → ClassId) (P653727 : List Nat) (F653728 : Nat → va_E) (q653729 : Nat) (q653730 : Nat) (p653731 : Int32) (p653732 : Int32) (p653733 : Int32) (p653734 : Int32) (p653735 : Int32) (p653736 : Int32) (qo653737 : Nat) (p653738 : Int32) (p653739 : Int32) (p653740 : Int32) (qo653741 : Nat) (qo653742 : Nat) (p653743 : Int32) (f653744 : Nat → Int32) (hmq653729 : q653729 ∈ P653727) (hmq653730 : q653730 ∈ P653727) (heq653729 : F653728 q653729 = .inr (19, [.ref q653730, .int p653731, .int p653732, .int p653733, .int p653734, .int p653735, .int p653736, .ref qo653737, .int p653738, .int p653739, .int p653740, .ref qo653741, .ref qo653742, .int p653743])) (heq653730 : F653728 q653730 = .inl (I .byte, 8192, .inl f653744)) (bp653731 : gB p653731 0 8192) (bp653732 : gB p653732 0 8192) (bp653733 : gB p653733 0 6) (bp653734 : gB p653734 0 8192) (bp653736 : gB p653736 0 6) (bp653738 : gB p653738 (-1) 8192) (bp653739 : gB p653739 0 4) (bp653740 : gB p653740 0 1000000) (bp653743 : gB p653743 0 1000000) (bf653744 : gF f653744 (-128) 127) (x653745 : p653732.toInt ≤ p653731.toInt) (x653746 : qo653742 ∈ P653727) (x653747 : qo653741 ∈ P653727) : CtA (gV D I) l yX14_next cX14_next 3 none 7 155 ((16 * (p653731.toInt - p653732.toInt)).toNat) ((256 * (p653731.toInt - p653732.toInt)).toNat) [.ref q653729] (va_pl P653727 F653728) (pp_653748_Reader_next D I P653727 F653728 q653729 q653730 p653731 p653732 p653733 p653734 p653735 p653736 qo653737 p653738 p653739 p653740 qo653741 qo653742 p653743 f653744) gNA := by
  refine CtA_of hl0 (by decide) (Nat.le_of_ble_eq_true rfl) ?_
  have bp653735 := gB_any p653735
  refine G_aload_n 0 dr_cX14_next_0 rfl ?_
  refine G_aload_n 0 dr_cX14_next_1 rfl ?_
  refine Gp_get 3 hmq653729 heq653729 dr_cX14_next_2 (gk_X14 D I) (Nat.le_of_ble_eq_true rfl) wr_9_39 rfl ?_
  refine Gp_put 6 hmq653729 heq653729 dr_cX14_next_5 (gk_X14 D I) (Nat.le_of_ble_eq_true rfl) wr_9_42 rfl rfl rfl (Nat.le_of_ble_eq_true rfl) (fun F653749 e653750 n653751 => ?_)
  have he653752 : F653749 q653730 = .inl (I .byte, 8192, .inl f653744) := (n653751 q653730 (rn_ao heq653730 heq653729)).trans heq653730
  have he653753 : F653749 q653729 = .inr (19, [.ref q653730, .int p653731, .int p653732, .int p653733, .int p653734, .int p653735, .int p653733, .ref qo653737, .int p653738, .int p653739, .int p653740, .ref qo653741, .ref qo653742, .int p653743]) := e653750
  have hfr653754 : rFr [q653729] P653727 F653728 F653749 := rFr_put (rFr_rf (W := []) (P := P653727) (F := F653728)) n653751
  have hlp8_654820 : ∀ (n8_654820 : Nat) (F654815 : Nat → va_E) (g654814 : Int32), gB g654814 0 8192 → rFr [q653729] P653727 F653728 F654815 → F654815 q653729 = .inr (19, [.ref q653730, .int p653731, .int g654814, .int p653733, .int p653734, .int p653735, .int p653733, .ref qo653737, .int p653738, .int p653739, .int p653740, .ref qo653741, .ref qo653742, .int p653743]) → F654815 q653730 = .inl (I .byte, 8192, .inl f653744) → p653732.toInt ≤ g654814.toInt → g654814.toInt ≤ p653731.toInt → ((p653731.toInt : Int) + 1 - g654814.toInt).toNat < n8_654820 → G (gV D I) l (gRm 7 155 ((16 * (p653731.toInt - p653732.toInt)).toNat) ((256 * (p653731.toInt - p653732.toInt)).toNat)) (gMA (gV D I) (pp_653748_Reader_next D I P653727 F653728 q653729 q653730 p653731 p653732 p653733 p653734 p653735 p653736 qo653737 p653738 p653739 p653740 qo653741 qo653742 p653743 f653744) gNA ((16 * (p653731.toInt - p653732.toInt)).toNat) ((256 * (p653731.toInt - p653732.toInt)).toNat)) ky_653748_Reader_next 8 [(0, .ref q653729)] [] (va_pl P653727 F654815) 0 0 := by
    intro n8_654820
    induction n8_654820 with
    | zero => intro F654815 g654814 bg654814 hfr654818 he654816 he654817 x654819 x654820 hm8_654820; exact absurd hm8_654820 (Nat.not_lt_zero _)
    | succ n8_654820 ih8_654820 =>
      intro F654815 g654814 bg654814 hfr654818 he654816 he654817 x654819 x654820 hm8_654820
      refine G_aload_n 0 dr_cX14_next_8 rfl ?_
      refine Gp_get 2 hmq653729 he654816 dr_cX14_next_9 (gk_X14 D I) (Nat.le_of_ble_eq_true rfl) wr_9_38 rfl ?_
      refine G_aload_n 0 dr_cX14_next_12 rfl ?_
      refine Gp_get 1 hmq653729 he654816 dr_cX14_next_13 (gk_X14 D I) (Nat.le_of_ble_eq_true rfl) wr_9_37 rfl ?_
      refine G_icmp_ge 110 dr_cX14_next_16 (by decide +kernel) (fun hc654821 => ?_) (fun hc654821 => ?_)
      · have r654822 : p653731.toInt ≤ g654814.toInt := gC_le hc654821
        clear he653752 he653753 hfr653754
        refine G_aload_n 0 dr_cX14_next_110 rfl ?_
        refine G_aload_n 0 dr_cX14_next_111 rfl ?_
        refine Gp_get 2 hmq653729 he654816 dr_cX14_next_112 (gk_X14 D I) (Nat.le_of_ble_eq_true rfl) wr_9_38 rfl ?_
        refine Gp_put 4 hmq653729 he654816 dr_cX14_next_115 (gk_X14 D I) (Nat.le_of_ble_eq_true rfl) wr_9_40 rfl rfl rfl (Nat.le_of_ble_eq_true rfl) (fun F654823 e654824 n654825 => ?_)
        have he654826 : F654823 q653730 = .inl (I .byte, 8192, .inl f653744) := (n654825 q653730 (rn_ao he654817 he654816)).trans he654817
        have he654827 : F654823 q653729 = .inr (19, [.ref q653730, .int p653731, .int g654814, .int p653733, .int g654814, .int p653735, .int p653733, .ref qo653737, .int p653738, .int p653739, .int p653740, .ref qo653741, .ref qo653742, .int p653743]) := e654824
        have hfr654828 : rFr [q653729] P653727 F653728 F654823 := rFr_put' List.mem_cons_self hfr654818 n654825
        refine G_aload_n 0 dr_cX14_next_118 rfl ?_
        refine G_ldcK (a := D.2 1000 32) dr_cX14_next_119 (fun _ _ _ h => gx_vk 32 rfl rfl h) ?_
        have hl32_654828 : (sb_32.length : Int) = 0 := rfl
        refine Gp_put 7 hmq653729 he654827 dr_cX14_next_121 (gk_X14 D I) (Nat.le_of_ble_eq_true rfl) wr_9_43 rfl rfl rfl (Nat.le_of_ble_eq_true rfl) (fun F654830 e654831 n654832 => ?_)
        have he654833 : F654830 q653730 = .inl (I .byte, 8192, .inl f653744) := (n654832 q653730 (rn_ao he654826 he654827)).trans he654826
        have he654834 : F654830 q653729 = .inr (19, [.ref q653730, .int p653731, .int g654814, .int p653733, .int g654814, .int p653735, .int p653733, .ref (D.2 1000 32), .int p653738, .int p653739, .int p653740, .ref qo653741, .ref qo653742, .int p653743]) := e654831
        have hfr654835 : rFr [q653729] P653727 F653728 F654830 := rFr_put' List.mem_cons_self hfr654828 n654832
        clear he654826 he654827 hfr654828
        refine G_aload_n 0 dr_cX14_next_124 rfl ?_
        refine Gp_get 2 hmq653729 he654834 dr_cX14_next_125 (gk_X14 D I) (Nat.le_of_ble_eq_true rfl) wr_9_38 rfl ?_
        refine G_aload_n 0 dr_cX14_next_128 rfl ?_
        refine Gp_get 1 hmq653729 he654834 dr_cX14_next_129 (gk_X14 D I) (Nat.le_of_ble_eq_true rfl) wr_9_37 rfl ?_
        refine G_icmp_ne 141 dr_cX14_next_132 (by decide +kernel) (fun hc654836 => ?_) (fun hc654836 => ?_)
        · have r654837 : g654814.toInt ≠ p653731.toInt := gC_ne hc654836
          refine G_aload_n 0 dr_cX14_next_141 rfl ?_
          refine Gp_get 0 hmq653729 he654834 dr_cX14_next_142 (gk_X14 D I) (Nat.le_of_ble_eq_true rfl) wr_9_36 rfl ?_
          refine G_aload_n 0 dr_cX14_next_145 rfl ?_
          refine Gp_get 2 hmq653729 he654834 dr_cX14_next_146 (gk_X14 D I) (Nat.le_of_ble_eq_true rfl) wr_9_38 rfl ?_
          refine Gp_bald 1 hmq653730 he654833 dr_cX14_next_149 rfl (gB_inr (by omega) (by omega)) (G_nam fun z654838 hz654838 => ?_)
          have bz654838 : gB z654838 (-128) 127 := by rw [hz654838]; exact bf653744 _
          refine G_istore_n (L' := [(1, .int z654838), (0, .ref q653729)]) dr_cX14_next_150 (Nat.le_of_ble_eq_true rfl) rfl ?_
          have jn654839 : G (gV D I) l (gRm 7 155 ((16 * (p653731.toInt - p653732.toInt)).toNat) ((256 * (p653731.toInt - p653732.toInt)).toNat)) (gMA (gV D I) (pp_653748_Reader_next D I P653727 F653728 q653729 q653730 p653731 p653732 p653733 p653734 p653735 p653736 qo653737 p653738 p653739 p653740 qo653741 qo653742 p653743 f653744) gNA ((16 * (p653731.toInt - p653732.toInt)).toNat) ((256 * (p653731.toInt - p653732.toInt)).toNat)) ky_653748_Reader_next 209 [(2, .int 0), (1, .int z654838), (0, .ref q653729)] [] (va_pl P653727 F654830) 0 0 := by
            refine G_iload_n 1 dr_cX14_next_209 rfl ?_
            refine Gw_callS (As := [.int z654838]) (gV_ok D I) (cp_651515_Reader_isLetter l hl0 D I P653727 F654830 z654838 ) dr_cX14_next_210 ⟨wr_7_222, wr_1_32, wr_7_224, by decide, rfl, (Nat.le_of_ble_eq_true rfl), (Nat.le_of_ble_eq_true rfl)⟩ wr_7_223 (show 0 + 0 ≤ ((16 * (p653731.toInt - p653732.toInt)).toNat) by first | omega | decide) (show 0 + 0 ≤ ((256 * (p653731.toInt - p653732.toInt)).toNat) by first | omega | decide) (Nat.le_of_ble_eq_true rfl) (fun r654843 w654844 dc654840 ds654841 hp654842 => ?_) (fun _ _ _ _ _ z => z.elim)
            obtain ⟨o654845, rfl, rfl, hdc, hds, bo654845, x654846⟩ := hp654842
            change G _ _ _ _ _ _ _ (.int o654845 :: _) _ _ _
            refine G_widen (cs' := 0) (sl' := 0) (by omega) (by omega) ?_
            refine G_if_eq 223 dr_cX14_next_213 (by decide +kernel) (fun hc654847 => ?_) (fun hc654847 => ?_)
            · have r654848 : o654845.toInt = 0 := gj_eq hc654847 (show Int32.toInt 0 = 0 by decide)
              have bo654845' : gB o654845 0 0 := ⟨by omega, by omega⟩
              clear bo654845 bo654845'; try clear r654843; try clear w654844; try clear dc654840; try clear ds654841; try clear hp654842; try clear x654846; try clear r654848
              refine G_iload_n 1 dr_cX14_next_223 rfl ?_
              refine Gw_callS (As := [.int z654838]) (gV_ok D I) (cp_649619_Reader_isDigit l hl0 D I P653727 F654830 z654838 ) dr_cX14_next_224 ⟨wr_7_219, wr_1_32, wr_7_221, by decide, rfl, (Nat.le_of_ble_eq_true rfl), (Nat.le_of_ble_eq_true rfl)⟩ wr_7_220 (show 0 + 0 ≤ ((16 * (p653731.toInt - p653732.toInt)).toNat) by first | omega | decide) (show 0 + 0 ≤ ((256 * (p653731.toInt - p653732.toInt)).toNat) by first | omega | decide) (Nat.le_of_ble_eq_true rfl) (fun r654852 w654853 dc654849 ds654850 hp654851 => ?_) (fun _ _ _ _ _ z => z.elim)
              obtain ⟨o654854, rfl, rfl, hdc, hds, bo654854, x654855⟩ := hp654851
              change G _ _ _ _ _ _ _ (.int o654854 :: _) _ _ _
              refine G_widen (cs' := 0) (sl' := 0) (by omega) (by omega) ?_
              refine G_if_ne 234 dr_cX14_next_227 (by decide +kernel) (fun hc654856 => ?_) (fun hc654856 => ?_)
              · have r654857 : o654854.toInt ≠ 0 := gj_neq hc654856 (show Int32.toInt 0 = 0 by decide)
                have bo654854' : gB o654854 1 1 := ⟨by omega, by omega⟩
                have bi654858 : gB z654838 48 57 := isP_1 x654855 (by omega)
                refine G_aload_n 2 dr_cX14_next_234 rfl ?_
                refine G_iload_n 0 dr_cX14_next_235 rfl ?_
                refine Gw_callV (As := [.int 0]) (gV_ok D I) (cp_649583_Reader_number l hl0 D I P653727 F654830 q653729 q653730 0 p653731 g654814 p653733 g654814 p653735 p653733 (D.2 1000 32) p653738 p653739 p653740 qo653741 qo653742 p653743 f653744 hmq653729 hmq653730 he654834 he654833 (gB_w (gBl (show Int32.toInt 0 = 0 by decide)) (by decide) (by decide)) bp653731 bg654814 bp653733 bg654814 bp653733 bp653738 bp653739 bp653740 bp653743 bf653744 (by have qa0 : Int32.toInt 0 = 0 := (by decide); omega) (by have qa0 : Int32.toInt 0 = 0 := (by decide); omega) (by first | assumption | exact cDg_no (by omega) | exact cDg_no (by decide) | exact cDg_of (by assumption) (by omega) (by omega)) x653746 x653747) dr_cX14_next_236 ⟨wr_8_218, wr_1_32, wr_8_221, by decide, rfl, (Nat.le_of_ble_eq_true rfl), (Nat.le_of_ble_eq_true rfl)⟩ wr_8_220 wr_p_77 hmq653729 he654834 rfl (show 0 + ((16 * (p653731.toInt - g654814.toInt)).toNat) ≤ ((16 * (p653731.toInt - p653732.toInt)).toNat) by first | omega | decide) (show 0 + ((256 * (p653731.toInt - g654814.toInt)).toNat) ≤ ((256 * (p653731.toInt - p653732.toInt)).toNat) by first | omega | decide) (Nat.le_of_ble_eq_true rfl) (fun r654862 w654863 dc654859 ds654860 hp654861 => ?_) (fun _ _ _ _ _ z => z.elim)
                obtain ⟨F654871, o654864, o654865, o654866, rfl, rfl, hfr654873, he654874, he654875, hdc, hds, bo654864, bo654865, x654867, x654868, x654869, x654870⟩ := hp654861
                have hfr654876 : rFr [q653729] P653727 F653728 F654871 := rFr_call (rSub_rf (P := P653727)) hfr654835 hfr654873 (fun b hb hn => ⟨(nm_c (fun e => hn (e ▸ List.mem_cons_self)) nm_n), (nm_c (fun e => hn (e ▸ List.mem_cons_self)) nm_n)⟩)
                have bo654866 := gB_any o654866
                change G _ _ _ _ _ _ _ _ _ _ _
                refine G_widen (cs' := (16 * (o654864.toInt - g654814.toInt)).toNat) (sl' := (256 * (o654864.toInt - g654814.toInt)).toNat) (by omega) (by omega) ?_
                refine G_goto 247 dr_cX14_next_239 (by decide +kernel) ?_
                exact G_vretA dr_cX14_next_247 rfl (show (16 * (o654864.toInt - g654814.toInt)).toNat ≤ ((16 * (p653731.toInt - p653732.toInt)).toNat) by omega) (show (256 * (o654864.toInt - g654814.toInt)).toNat ≤ ((256 * (p653731.toInt - p653732.toInt)).toNat) by omega) ⟨P653727, F654871, o654864, o654865, g654814, o654866, (D.2 1000 32), rfl, rfl, (rSub_rf (P := P653727)), hfr654876, he654874, he654875, (by omega), (by omega), bo654864, (gB_w bo654865 (by decide) (by decide)), bg654814, (by have qa0 : Int32.toInt 0 = 0 := (by decide); omega), (Or.inr (by omega)), (by have qa0 : Int32.toInt 0 = 0 := (by decide); omega), (by first | exact tP_no (by omega) (by omega) | assumption), x654870⟩
              · have r654877 : o654854.toInt = 0 := gj_eq hc654856 (show Int32.toInt 0 = 0 by decide)
                have bo654854' : gB o654854 0 0 := ⟨by omega, by omega⟩
                refine G_iload_n 0 dr_cX14_next_230 rfl ?_
                refine G_if_eq 242 dr_cX14_next_231 (by decide +kernel) (fun _ => ?_) (fun hc => absurd hc (by decide))
                refine G_aload_n 2 dr_cX14_next_242 rfl ?_
                refine G_iload_n 1 dr_cX14_next_243 rfl ?_
                refine Gw_callV (As := [.int z654838]) (gV_ok D I) (cp_650189_Reader_symbol l hl0 D I P653727 F654830 q653729 q653730 z654838 p653731 g654814 p653733 g654814 p653735 p653733 (D.2 1000 32) p653738 p653739 p653740 qo653741 qo653742 p653743 f653744 hmq653729 hmq653730 he654834 he654833 bz654838 bp653731 bg654814 bp653733 bg654814 bp653733 bp653738 bp653739 bp653740 bp653743 bf653744 (by have qa0 : Int32.toInt 0 = 0 := (by decide); omega) (by have qa0 : Int32.toInt 0 = 0 := (by decide); omega) x653746 x653747) dr_cX14_next_244 ⟨wr_8_223, wr_1_32, wr_8_226, by decide, rfl, (Nat.le_of_ble_eq_true rfl), (Nat.le_of_ble_eq_true rfl)⟩ wr_8_225 wr_p_78 hmq653729 he654834 rfl (show 0 + ((16 * (p653731.toInt - g654814.toInt)).toNat) ≤ ((16 * (p653731.toInt - p653732.toInt)).toNat) by first | omega | decide) (show 0 + ((256 * (p653731.toInt - g654814.toInt)).toNat) ≤ ((256 * (p653731.toInt - p653732.toInt)).toNat) by first | omega | decide) (Nat.le_of_ble_eq_true rfl) (fun r654881 w654882 dc654878 ds654879 hp654880 => ?_) (fun _ _ _ _ _ z => z.elim)
                obtain ⟨P654890, F654891, o654883, o654884, q654885, rfl, rfl, hsb654892, hfr654893, he654894, he654895, hdc, hds, bo654883, bo654884, x654886, x654887, x654888, x654889⟩ := hp654880
                have hm654896 : q653729 ∈ P654890 := hsb654892 q653729 hmq653729
                have hm654897 : q653730 ∈ P654890 := hsb654892 q653730 hmq653730
                have hsb654898 : rSub P653727 P654890 := rSub_tr (rSub_rf (P := P653727)) hsb654892
                have hfr654899 : rFr [q653729] P653727 F653728 F654891 := rFr_call (rSub_rf (P := P653727)) hfr654835 hfr654893 (fun b hb hn => ⟨(nm_c (fun e => hn (e ▸ List.mem_cons_self)) nm_n), (nm_c (fun e => hn (e ▸ List.mem_cons_self)) nm_n)⟩)
                change G _ _ _ _ _ _ _ _ _ _ _
                refine G_widen (cs' := (16 * (o654883.toInt - g654814.toInt)).toNat) (sl' := (256 * (o654883.toInt - g654814.toInt)).toNat) (by omega) (by omega) ?_
                exact G_vretA dr_cX14_next_247 rfl (show (16 * (o654883.toInt - g654814.toInt)).toNat ≤ ((16 * (p653731.toInt - p653732.toInt)).toNat) by omega) (show (256 * (o654883.toInt - g654814.toInt)).toNat ≤ ((256 * (p653731.toInt - p653732.toInt)).toNat) by omega) ⟨P654890, F654891, o654883, o654884, g654814, p653735, q654885, rfl, rfl, hsb654898, hfr654899, he654894, he654895, (by omega), (by omega), (gB_w bo654883 (by decide) (by decide)), (gB_w bo654884 (by decide) (by decide)), bg654814, (by have qa0 : Int32.toInt 0 = 0 := (by decide); omega), (Or.inr (by omega)), (by have qa0 : Int32.toInt 0 = 0 := (by decide); omega), x654888, x654889⟩
            · have r654900 : o654845.toInt ≠ 0 := gj_neq hc654847 (show Int32.toInt 0 = 0 by decide)
              have bo654845' : gB o654845 1 1 := ⟨by omega, by omega⟩
              have bi654901 : gB z654838 97 122 := isP_1 x654846 (by omega)
              refine G_aload_n 2 dr_cX14_next_216 rfl ?_
              refine Gw_callV (As := []) (gV_ok D I) (cp_651181_Reader_word l hl0 D I P653727 F654830 q653729 q653730 p653731 g654814 p653733 g654814 p653735 p653733 (D.2 1000 32) p653738 p653739 p653740 qo653741 qo653742 p653743 f653744 hmq653729 hmq653730 he654834 he654833 bp653731 bg654814 bp653733 bg654814 bp653733 bp653738 bp653739 bp653740 bp653743 bf653744 (by have qa0 : Int32.toInt 0 = 0 := (by decide); omega) (by have qa0 : Int32.toInt 0 = 0 := (by decide); omega) (by first | assumption | exact cLt_of (by assumption) (by omega) (by omega)) x653746 x653747) dr_cX14_next_217 ⟨wr_7_225, wr_1_32, wr_7_228, by decide, rfl, (Nat.le_of_ble_eq_true rfl), (Nat.le_of_ble_eq_true rfl)⟩ wr_7_227 wr_p_76 hmq653729 he654834 rfl (show 0 + ((16 * (p653731.toInt - g654814.toInt)).toNat) ≤ ((16 * (p653731.toInt - p653732.toInt)).toNat) by first | omega | decide) (show 0 + ((256 * (p653731.toInt - g654814.toInt)).toNat) ≤ ((256 * (p653731.toInt - p653732.toInt)).toNat) by first | omega | decide) (Nat.le_of_ble_eq_true rfl) (fun r654905 w654906 dc654902 ds654903 hp654904 => ?_) (fun _ _ _ _ _ z => z.elim)
              obtain ⟨P654915, F654916, o654907, o654908, o654909, q654910, rfl, rfl, hsb654917, hfr654918, he654919, he654920, hdc, hds, bo654907, bo654908, x654911, x654912, x654913, x654914⟩ := hp654904
              have hm654921 : q653729 ∈ P654915 := hsb654917 q653729 hmq653729
              have hm654922 : q653730 ∈ P654915 := hsb654917 q653730 hmq653730
              have hsb654923 : rSub P653727 P654915 := rSub_tr (rSub_rf (P := P653727)) hsb654917
              have hfr654924 : rFr [q653729] P653727 F653728 F654916 := rFr_call (rSub_rf (P := P653727)) hfr654835 hfr654918 (fun b hb hn => ⟨(nm_c (fun e => hn (e ▸ List.mem_cons_self)) nm_n), (nm_c (fun e => hn (e ▸ List.mem_cons_self)) nm_n)⟩)
              have bo654909 := gB_any o654909
              change G _ _ _ _ _ _ _ _ _ _ _
              refine G_widen (cs' := (16 * (o654907.toInt - g654814.toInt)).toNat) (sl' := (256 * (o654907.toInt - g654814.toInt)).toNat) (by omega) (by omega) ?_
              refine G_goto 247 dr_cX14_next_220 (by decide +kernel) ?_
              exact G_vretA dr_cX14_next_247 rfl (show (16 * (o654907.toInt - g654814.toInt)).toNat ≤ ((16 * (p653731.toInt - p653732.toInt)).toNat) by omega) (show (256 * (o654907.toInt - g654814.toInt)).toNat ≤ ((256 * (p653731.toInt - p653732.toInt)).toNat) by omega) ⟨P654915, F654916, o654907, o654908, g654814, o654909, q654910, rfl, rfl, hsb654923, hfr654924, he654919, he654920, (by omega), (by omega), bo654907, (gB_w bo654908 (by decide) (by decide)), bg654814, (by have qa0 : Int32.toInt 0 = 0 := (by decide); omega), (Or.inr (by omega)), (by have qa0 : Int32.toInt 0 = 0 := (by decide); omega), x654913, x654914⟩
          refine G_iload_n 0 dr_cX14_next_151 rfl ?_
          refine G_bipush 45 dr_cX14_next_152 (by decide +kernel) ?_
          refine G_icmp_ne 207 dr_cX14_next_154 (by decide +kernel) (fun hc654925 => ?_) (fun hc654925 => ?_)
          · have r654926 : z654838.toInt ≠ 45 := gj_neq hc654925 (show Int32.toInt 45 = 45 by decide)
            refine G_iconst 0 dr_cX14_next_207 (by decide +kernel) ?_
            refine G_istore_n (L' := [(2, .int 0), (1, .int z654838), (0, .ref q653729)]) dr_cX14_next_208 (Nat.le_of_ble_eq_true rfl) rfl ?_
            refine G_lv (L' := [(2, .int 0), (1, .int z654838), (0, .ref q653729)]) [0, 1, 2] rfl ?_
            exact jn654839
          · have r654927 : z654838.toInt = 45 := gj_eq hc654925 (show Int32.toInt 45 = 45 by decide)
            have bz654838' : gB z654838 45 45 := ⟨by omega, by omega⟩
            refine G_aload_n 1 dr_cX14_next_157 rfl ?_
            refine Gp_get 2 hmq653729 he654834 dr_cX14_next_158 (gk_X14 D I) (Nat.le_of_ble_eq_true rfl) wr_9_38 rfl ?_
            refine G_iconst 1 dr_cX14_next_161 (by decide +kernel) ?_
            refine G_iadd dr_cX14_next_162 (G_nam fun z654928 hz654928 => ?_)
            have ez654928 : z654928.toInt = g654814.toInt + 1 := by rw [gI_add hz654928 bg654814 (gBl (show Int32.toInt 1 = 1 by decide)) (by decide) (by decide), show Int32.toInt 1 = 1 from by decide]
            have bz654928 : gB z654928 1 8193 := gB_add (gI_add hz654928 bg654814 (gBl (show Int32.toInt 1 = 1 by decide)) (by decide) (by decide)) bg654814 (gBl (show Int32.toInt 1 = 1 by decide)) (by decide) (by decide)
            refine G_aload_n 1 dr_cX14_next_163 rfl ?_
            refine Gp_get 1 hmq653729 he654834 dr_cX14_next_164 (gk_X14 D I) (Nat.le_of_ble_eq_true rfl) wr_9_37 rfl ?_
            refine G_icmp_ge 207 dr_cX14_next_167 (by decide +kernel) (fun hc654929 => ?_) (fun hc654929 => ?_)
            · have r654930 : p653731.toInt ≤ z654928.toInt := gC_le hc654929
              refine G_iconst 0 dr_cX14_next_207 (by decide +kernel) ?_
              refine G_istore_n (L' := [(2, .int 0), (1, .int z654838), (0, .ref q653729)]) dr_cX14_next_208 (Nat.le_of_ble_eq_true rfl) rfl ?_
              refine G_lv (L' := [(2, .int 0), (1, .int z654838), (0, .ref q653729)]) [0, 1, 2] rfl ?_
              exact jn654839
            · have r654931 : z654928.toInt < p653731.toInt := gC_nle hc654929
              have bz654928' : gB z654928 1 8191 := ⟨by omega, by omega⟩
              have bp653731' : gB p653731 2 8192 := ⟨by omega, by omega⟩
              refine G_aload_n 1 dr_cX14_next_170 rfl ?_
              refine Gp_get 0 hmq653729 he654834 dr_cX14_next_171 (gk_X14 D I) (Nat.le_of_ble_eq_true rfl) wr_9_36 rfl ?_
              refine G_aload_n 1 dr_cX14_next_174 rfl ?_
              refine Gp_get 2 hmq653729 he654834 dr_cX14_next_175 (gk_X14 D I) (Nat.le_of_ble_eq_true rfl) wr_9_38 rfl ?_
              refine G_iconst 1 dr_cX14_next_178 (by decide +kernel) ?_
              refine G_iadd dr_cX14_next_179 (G_eqi (y := z654928) hz654928.symm ?_)
              refine Gp_bald 1 hmq653730 he654833 dr_cX14_next_180 rfl (gB_in bz654928' (by decide) (by decide)) (G_nam fun z654932 hz654932 => ?_)
              have bz654932 : gB z654932 (-128) 127 := by rw [hz654932]; exact bf653744 _
              refine Gw_callS (As := [.int z654932]) (gV_ok D I) (cp_649619_Reader_isDigit l hl0 D I P653727 F654830 z654932 ) dr_cX14_next_181 ⟨wr_7_219, wr_1_32, wr_7_221, by decide, rfl, (Nat.le_of_ble_eq_true rfl), (Nat.le_of_ble_eq_true rfl)⟩ wr_7_220 (show 0 + 0 ≤ ((16 * (p653731.toInt - p653732.toInt)).toNat) by first | omega | decide) (show 0 + 0 ≤ ((256 * (p653731.toInt - p653732.toInt)).toNat) by first | omega | decide) (Nat.le_of_ble_eq_true rfl) (fun r654936 w654937 dc654933 ds654934 hp654935 => ?_) (fun _ _ _ _ _ z => z.elim)
              obtain ⟨o654938, rfl, rfl, hdc, hds, bo654938, x654939⟩ := hp654935
              change G _ _ _ _ _ _ _ (.int o654938 :: _) _ _ _
              refine G_widen (cs' := 0) (sl' := 0) (by omega) (by omega) ?_
              refine G_if_eq 207 dr_cX14_next_184 (by decide +kernel) (fun hc654940 => ?_) (fun hc654940 => ?_)
              · have r654941 : o654938.toInt = 0 := gj_eq hc654940 (show Int32.toInt 0 = 0 by decide)
                have bo654938' : gB o654938 0 0 := ⟨by omega, by omega⟩
                refine G_iconst 0 dr_cX14_next_207 (by decide +kernel) ?_
                refine G_istore_n (L' := [(2, .int 0), (1, .int z654838), (0, .ref q653729)]) dr_cX14_next_208 (Nat.le_of_ble_eq_true rfl) rfl ?_
                refine G_lv (L' := [(2, .int 0), (1, .int z654838), (0, .ref q653729)]) [0, 1, 2] rfl ?_
                exact jn654839
              · have r654942 : o654938.toInt ≠ 0 := gj_neq hc654940 (show Int32.toInt 0 = 0 by decide)
                have bo654938' : gB o654938 1 1 := ⟨by omega, by omega⟩
                have bi654943 : gB z654932 48 57 := isP_1 x654939 (by omega)
                refine G_aload_n 1 dr_cX14_next_187 rfl ?_
                refine Gp_get 6 hmq653729 he654834 dr_cX14_next_188 (gk_X14 D I) (Nat.le_of_ble_eq_true rfl) wr_9_42 rfl ?_
                refine G_iconst 2 dr_cX14_next_191 (by decide +kernel) ?_
                refine G_icmp_eq 207 dr_cX14_next_192 (by decide +kernel) (fun hc654944 => ?_) (fun hc654944 => ?_)
                · have r654945 : p653733.toInt = 2 := gj_eq hc654944 (show Int32.toInt 2 = 2 by decide)
                  have bp653733' : gB p653733 2 2 := ⟨by omega, by omega⟩
                  refine G_iconst 0 dr_cX14_next_207 (by decide +kernel) ?_
                  refine G_istore_n (L' := [(2, .int 0), (1, .int z654838), (0, .ref q653729)]) dr_cX14_next_208 (Nat.le_of_ble_eq_true rfl) rfl ?_
                  refine G_lv (L' := [(2, .int 0), (1, .int z654838), (0, .ref q653729)]) [0, 1, 2] rfl ?_
                  exact jn654839
                · have r654946 : p653733.toInt ≠ 2 := gj_neq hc654944 (show Int32.toInt 2 = 2 by decide)
                  refine G_aload_n 1 dr_cX14_next_195 rfl ?_
                  refine Gp_get 6 hmq653729 he654834 dr_cX14_next_196 (gk_X14 D I) (Nat.le_of_ble_eq_true rfl) wr_9_42 rfl ?_
                  refine G_iconst 4 dr_cX14_next_199 (by decide +kernel) ?_
                  refine G_icmp_eq 207 dr_cX14_next_200 (by decide +kernel) (fun hc654947 => ?_) (fun hc654947 => ?_)
                  · have r654948 : p653733.toInt = 4 := gj_eq hc654947 (show Int32.toInt 4 = 4 by decide)
                    have bp653733' : gB p653733 4 4 := ⟨by omega, by omega⟩
                    refine G_iconst 0 dr_cX14_next_207 (by decide +kernel) ?_
                    refine G_istore_n (L' := [(2, .int 0), (1, .int z654838), (0, .ref q653729)]) dr_cX14_next_208 (Nat.le_of_ble_eq_true rfl) rfl ?_
                    refine G_lv (L' := [(2, .int 0), (1, .int z654838), (0, .ref q653729)]) [0, 1, 2] rfl ?_
                    exact jn654839
                  · have r654949 : p653733.toInt ≠ 4 := gj_neq hc654947 (show Int32.toInt 4 = 4 by decide)
                    refine G_iconst 1 dr_cX14_next_203 (by decide +kernel) ?_
                    refine G_goto 208 dr_cX14_next_204 (by decide +kernel) ?_
                    refine G_istore_n (L' := [(2, .int 1), (1, .int z654838), (0, .ref q653729)]) dr_cX14_next_208 (Nat.le_of_ble_eq_true rfl) rfl ?_
                    clear bz654838 jn654839 bz654928 bz654932 bo654938 bo654938'; try clear r654936; try clear w654937; try clear dc654933; try clear ds654934; try clear hp654935; try clear x654939; try clear r654942
                    refine G_iload_n 1 dr_cX14_next_209 rfl ?_
                    refine Gw_callS (As := [.int z654838]) (gV_ok D I) (cp_651515_Reader_isLetter l hl0 D I P653727 F654830 z654838 ) dr_cX14_next_210 ⟨wr_7_222, wr_1_32, wr_7_224, by decide, rfl, (Nat.le_of_ble_eq_true rfl), (Nat.le_of_ble_eq_true rfl)⟩ wr_7_223 (show 0 + 0 ≤ ((16 * (p653731.toInt - p653732.toInt)).toNat) by first | omega | decide) (show 0 + 0 ≤ ((256 * (p653731.toInt - p653732.toInt)).toNat) by first | omega | decide) (Nat.le_of_ble_eq_true rfl) (fun r654953 w654954 dc654950 ds654951 hp654952 => ?_) (fun _ _ _ _ _ z => z.elim)
                    obtain ⟨o654955, rfl, rfl, hdc, hds, bo654955, x654956⟩ := hp654952
                    change G _ _ _ _ _ _ _ (.int o654955 :: _) _ _ _
                    refine G_widen (cs' := 0) (sl' := 0) (by omega) (by omega) ?_
                    refine G_if_eq 223 dr_cX14_next_213 (by decide +kernel) (fun hc654957 => ?_) (fun hc654957 => ?_)
                    · have r654958 : o654955.toInt = 0 := gj_eq hc654957 (show Int32.toInt 0 = 0 by decide)
                      have bo654955' : gB o654955 0 0 := ⟨by omega, by omega⟩
                      clear bo654955 bo654955'; try clear r654953; try clear w654954; try clear dc654950; try clear ds654951; try clear hp654952; try clear x654956; try clear r654958
                      refine G_iload_n 1 dr_cX14_next_223 rfl ?_
                      refine Gw_callS (As := [.int z654838]) (gV_ok D I) (cp_649619_Reader_isDigit l hl0 D I P653727 F654830 z654838 ) dr_cX14_next_224 ⟨wr_7_219, wr_1_32, wr_7_221, by decide, rfl, (Nat.le_of_ble_eq_true rfl), (Nat.le_of_ble_eq_true rfl)⟩ wr_7_220 (show 0 + 0 ≤ ((16 * (p653731.toInt - p653732.toInt)).toNat) by first | omega | decide) (show 0 + 0 ≤ ((256 * (p653731.toInt - p653732.toInt)).toNat) by first | omega | decide) (Nat.le_of_ble_eq_true rfl) (fun r654962 w654963 dc654959 ds654960 hp654961 => ?_) (fun _ _ _ _ _ z => z.elim)
                      obtain ⟨o654964, rfl, rfl, hdc, hds, bo654964, x654965⟩ := hp654961
                      change G _ _ _ _ _ _ _ (.int o654964 :: _) _ _ _
                      refine G_widen (cs' := 0) (sl' := 0) (by omega) (by omega) ?_
                      refine G_if_ne 234 dr_cX14_next_227 (by decide +kernel) (fun hc654966 => ?_) (fun hc654966 => ?_)
                      · have r654967 : o654964.toInt ≠ 0 := gj_neq hc654966 (show Int32.toInt 0 = 0 by decide)
                        have bo654964' : gB o654964 1 1 := ⟨by omega, by omega⟩
                        have bi654968 : gB z654838 48 57 := isP_1 x654965 (by omega)
                        refine G_aload_n 2 dr_cX14_next_234 rfl ?_
                        refine G_iload_n 0 dr_cX14_next_235 rfl ?_
                        refine Gw_callV (As := [.int 1]) (gV_ok D I) (cp_649583_Reader_number l hl0 D I P653727 F654830 q653729 q653730 1 p653731 g654814 p653733 g654814 p653735 p653733 (D.2 1000 32) p653738 p653739 p653740 qo653741 qo653742 p653743 f653744 hmq653729 hmq653730 he654834 he654833 (gB_w (gBl (show Int32.toInt 1 = 1 by decide)) (by decide) (by decide)) (gB_w bp653731' (by decide) (by decide)) bg654814 bp653733 bg654814 bp653733 bp653738 bp653739 bp653740 bp653743 bf653744 (by have qa0 : Int32.toInt 1 = 1 := (by decide); omega) (by have qa0 : Int32.toInt 1 = 1 := (by decide); omega) (by first | assumption | exact cDg_no (by omega) | exact cDg_no (by decide) | exact cDg_of (by assumption) (by omega) (by omega)) x653746 x653747) dr_cX14_next_236 ⟨wr_8_218, wr_1_32, wr_8_221, by decide, rfl, (Nat.le_of_ble_eq_true rfl), (Nat.le_of_ble_eq_true rfl)⟩ wr_8_220 wr_p_77 hmq653729 he654834 rfl (show 0 + ((16 * (p653731.toInt - g654814.toInt)).toNat) ≤ ((16 * (p653731.toInt - p653732.toInt)).toNat) by first | omega | decide) (show 0 + ((256 * (p653731.toInt - g654814.toInt)).toNat) ≤ ((256 * (p653731.toInt - p653732.toInt)).toNat) by first | omega | decide) (Nat.le_of_ble_eq_true rfl) (fun r654972 w654973 dc654969 ds654970 hp654971 => ?_) (fun _ _ _ _ _ z => z.elim)
                        obtain ⟨F654981, o654974, o654975, o654976, rfl, rfl, hfr654983, he654984, he654985, hdc, hds, bo654974, bo654975, x654977, x654978, x654979, x654980⟩ := hp654971
                        have hfr654986 : rFr [q653729] P653727 F653728 F654981 := rFr_call (rSub_rf (P := P653727)) hfr654835 hfr654983 (fun b hb hn => ⟨(nm_c (fun e => hn (e ▸ List.mem_cons_self)) nm_n), (nm_c (fun e => hn (e ▸ List.mem_cons_self)) nm_n)⟩)
                        have bo654976 := gB_any o654976
                        change G _ _ _ _ _ _ _ _ _ _ _
                        refine G_widen (cs' := (16 * (o654974.toInt - g654814.toInt)).toNat) (sl' := (256 * (o654974.toInt - g654814.toInt)).toNat) (by omega) (by omega) ?_
                        refine G_goto 247 dr_cX14_next_239 (by decide +kernel) ?_
                        exact G_vretA dr_cX14_next_247 rfl (show (16 * (o654974.toInt - g654814.toInt)).toNat ≤ ((16 * (p653731.toInt - p653732.toInt)).toNat) by omega) (show (256 * (o654974.toInt - g654814.toInt)).toNat ≤ ((256 * (p653731.toInt - p653732.toInt)).toNat) by omega) ⟨P653727, F654981, o654974, o654975, g654814, o654976, (D.2 1000 32), rfl, rfl, (rSub_rf (P := P653727)), hfr654986, he654984, he654985, (by omega), (by omega), bo654974, (gB_w bo654975 (by decide) (by decide)), bg654814, (by have qa0 : Int32.toInt 1 = 1 := (by decide); omega), (Or.inr (by omega)), (by have qa0 : Int32.toInt 1 = 1 := (by decide); omega), (by first | exact tP_no (by omega) (by omega) | assumption), x654980⟩
                      · have r654987 : o654964.toInt = 0 := gj_eq hc654966 (show Int32.toInt 0 = 0 by decide)
                        have bo654964' : gB o654964 0 0 := ⟨by omega, by omega⟩
                        refine G_iload_n 0 dr_cX14_next_230 rfl ?_
                        refine G_if_eq 242 dr_cX14_next_231 (by decide +kernel) (fun hc => absurd hc (by decide)) (fun _ => ?_)
                        refine G_aload_n 2 dr_cX14_next_234 rfl ?_
                        refine G_iload_n 0 dr_cX14_next_235 rfl ?_
                        refine Gw_callV (As := [.int 1]) (gV_ok D I) (cp_649583_Reader_number l hl0 D I P653727 F654830 q653729 q653730 1 p653731 g654814 p653733 g654814 p653735 p653733 (D.2 1000 32) p653738 p653739 p653740 qo653741 qo653742 p653743 f653744 hmq653729 hmq653730 he654834 he654833 (gB_w (gBl (show Int32.toInt 1 = 1 by decide)) (by decide) (by decide)) (gB_w bp653731' (by decide) (by decide)) bg654814 bp653733 bg654814 bp653733 bp653738 bp653739 bp653740 bp653743 bf653744 (by have qa0 : Int32.toInt 1 = 1 := (by decide); omega) (by have qa0 : Int32.toInt 1 = 1 := (by decide); omega) (by first | assumption | exact cDg_no (by omega) | exact cDg_no (by decide) | exact cDg_of (by assumption) (by omega) (by omega)) x653746 x653747) dr_cX14_next_236 ⟨wr_8_218, wr_1_32, wr_8_221, by decide, rfl, (Nat.le_of_ble_eq_true rfl), (Nat.le_of_ble_eq_true rfl)⟩ wr_8_220 wr_p_77 hmq653729 he654834 rfl (show 0 + ((16 * (p653731.toInt - g654814.toInt)).toNat) ≤ ((16 * (p653731.toInt - p653732.toInt)).toNat) by first | omega | decide) (show 0 + ((256 * (p653731.toInt - g654814.toInt)).toNat) ≤ ((256 * (p653731.toInt - p653732.toInt)).toNat) by first | omega | decide) (Nat.le_of_ble_eq_true rfl) (fun r654991 w654992 dc654988 ds654989 hp654990 => ?_) (fun _ _ _ _ _ z => z.elim)
                        obtain ⟨F655000, o654993, o654994, o654995, rfl, rfl, hfr655002, he655003, he655004, hdc, hds, bo654993, bo654994, x654996, x654997, x654998, x654999⟩ := hp654990
                        have hfr655005 : rFr [q653729] P653727 F653728 F655000 := rFr_call (rSub_rf (P := P653727)) hfr654835 hfr655002 (fun b hb hn => ⟨(nm_c (fun e => hn (e ▸ List.mem_cons_self)) nm_n), (nm_c (fun e => hn (e ▸ List.mem_cons_self)) nm_n)⟩)
                        have bo654995 := gB_any o654995
                        change G _ _ _ _ _ _ _ _ _ _ _
                        refine G_widen (cs' := (16 * (o654993.toInt - g654814.toInt)).toNat) (sl' := (256 * (o654993.toInt - g654814.toInt)).toNat) (by omega) (by omega) ?_
                        refine G_goto 247 dr_cX14_next_239 (by decide +kernel) ?_
                        exact G_vretA dr_cX14_next_247 rfl (show (16 * (o654993.toInt - g654814.toInt)).toNat ≤ ((16 * (p653731.toInt - p653732.toInt)).toNat) by omega) (show (256 * (o654993.toInt - g654814.toInt)).toNat ≤ ((256 * (p653731.toInt - p653732.toInt)).toNat) by omega) ⟨P653727, F655000, o654993, o654994, g654814, o654995, (D.2 1000 32), rfl, rfl, (rSub_rf (P := P653727)), hfr655005, he655003, he655004, (by omega), (by omega), bo654993, (gB_w bo654994 (by decide) (by decide)), bg654814, (by have qa0 : Int32.toInt 1 = 1 := (by decide); omega), (Or.inr (by omega)), (by have qa0 : Int32.toInt 1 = 1 := (by decide); omega), (by first | exact tP_no (by omega) (by omega) | assumption), x654999⟩
                    · have r655006 : o654955.toInt ≠ 0 := gj_neq hc654957 (show Int32.toInt 0 = 0 by decide)
                      have bo654955' : gB o654955 1 1 := ⟨by omega, by omega⟩
                      have bi655007 : gB z654838 97 122 := isP_1 x654956 (by omega)
                      refine G_aload_n 2 dr_cX14_next_216 rfl ?_
                      refine Gw_callV (As := []) (gV_ok D I) (cp_651181_Reader_word l hl0 D I P653727 F654830 q653729 q653730 p653731 g654814 p653733 g654814 p653735 p653733 (D.2 1000 32) p653738 p653739 p653740 qo653741 qo653742 p653743 f653744 hmq653729 hmq653730 he654834 he654833 (gB_w bp653731' (by decide) (by decide)) bg654814 bp653733 bg654814 bp653733 bp653738 bp653739 bp653740 bp653743 bf653744 (by have qa0 : Int32.toInt 1 = 1 := (by decide); omega) (by have qa0 : Int32.toInt 1 = 1 := (by decide); omega) (by first | assumption | exact cLt_of (by assumption) (by omega) (by omega)) x653746 x653747) dr_cX14_next_217 ⟨wr_7_225, wr_1_32, wr_7_228, by decide, rfl, (Nat.le_of_ble_eq_true rfl), (Nat.le_of_ble_eq_true rfl)⟩ wr_7_227 wr_p_76 hmq653729 he654834 rfl (show 0 + ((16 * (p653731.toInt - g654814.toInt)).toNat) ≤ ((16 * (p653731.toInt - p653732.toInt)).toNat) by first | omega | decide) (show 0 + ((256 * (p653731.toInt - g654814.toInt)).toNat) ≤ ((256 * (p653731.toInt - p653732.toInt)).toNat) by first | omega | decide) (Nat.le_of_ble_eq_true rfl) (fun r655011 w655012 dc655008 ds655009 hp655010 => ?_) (fun _ _ _ _ _ z => z.elim)
                      obtain ⟨P655021, F655022, o655013, o655014, o655015, q655016, rfl, rfl, hsb655023, hfr655024, he655025, he655026, hdc, hds, bo655013, bo655014, x655017, x655018, x655019, x655020⟩ := hp655010
                      have hm655027 : q653729 ∈ P655021 := hsb655023 q653729 hmq653729
                      have hm655028 : q653730 ∈ P655021 := hsb655023 q653730 hmq653730
                      have hsb655029 : rSub P653727 P655021 := rSub_tr (rSub_rf (P := P653727)) hsb655023
                      have hfr655030 : rFr [q653729] P653727 F653728 F655022 := rFr_call (rSub_rf (P := P653727)) hfr654835 hfr655024 (fun b hb hn => ⟨(nm_c (fun e => hn (e ▸ List.mem_cons_self)) nm_n), (nm_c (fun e => hn (e ▸ List.mem_cons_self)) nm_n)⟩)
                      have bo655015 := gB_any o655015
                      change G _ _ _ _ _ _ _ _ _ _ _
                      refine G_widen (cs' := (16 * (o655013.toInt - g654814.toInt)).toNat) (sl' := (256 * (o655013.toInt - g654814.toInt)).toNat) (by omega) (by omega) ?_
                      refine G_goto 247 dr_cX14_next_220 (by decide +kernel) ?_
                      exact G_vretA dr_cX14_next_247 rfl (show (16 * (o655013.toInt - g654814.toInt)).toNat ≤ ((16 * (p653731.toInt - p653732.toInt)).toNat) by omega) (show (256 * (o655013.toInt - g654814.toInt)).toNat ≤ ((256 * (p653731.toInt - p653732.toInt)).toNat) by omega) ⟨P655021, F655022, o655013, o655014, g654814, o655015, q655016, rfl, rfl, hsb655029, hfr655030, he655025, he655026, (by omega), (by omega), bo655013, (gB_w bo655014 (by decide) (by decide)), bg654814, (by have qa0 : Int32.toInt 1 = 1 := (by decide); omega), (Or.inr (by omega)), (by have qa0 : Int32.toInt 1 = 1 := (by decide); omega), x655019, x655020⟩
        · have r655031 : g654814.toInt = p653731.toInt := gC_eq hc654836
          refine G_aload_n 0 dr_cX14_next_135 rfl ?_
          refine G_iconst 0 dr_cX14_next_136 (by decide +kernel) ?_
          refine Gp_put 3 hmq653729 he654834 dr_cX14_next_137 (gk_X14 D I) (Nat.le_of_ble_eq_true rfl) wr_9_39 rfl rfl rfl (Nat.le_of_ble_eq_true rfl) (fun F655032 e655033 n655034 => ?_)
          have he655035 : F655032 q653730 = .inl (I .byte, 8192, .inl f653744) := (n655034 q653730 (rn_ao he654833 he654834)).trans he654833
          have he655036 : F655032 q653729 = .inr (19, [.ref q653730, .int p653731, .int g654814, .int 0, .int g654814, .int p653735, .int p653733, .ref (D.2 1000 32), .int p653738, .int p653739, .int p653740, .ref qo653741, .ref qo653742, .int p653743]) := e655033
          have hfr655037 : rFr [q653729] P653727 F653728 F655032 := rFr_put' List.mem_cons_self hfr654835 n655034
          exact G_vretA dr_cX14_next_140 rfl (show 0 ≤ ((16 * (p653731.toInt - p653732.toInt)).toNat) by omega) (show 0 ≤ ((256 * (p653731.toInt - p653732.toInt)).toNat) by omega) ⟨P653727, F655032, g654814, 0, g654814, p653735, (D.2 1000 32), rfl, rfl, (rSub_rf (P := P653727)), hfr655037, he655036, he655035, (by omega), (by omega), bg654814, (gB_w (gBl (show Int32.toInt 0 = 0 by decide)) (by decide) (by decide)), bg654814, (by have qa0 : Int32.toInt 0 = 0 := (by decide); omega), (Or.inl (by decide)), (by have qa0 : Int32.toInt 0 = 0 := (by decide); omega), (tP_no (by decide) (by decide)), (vP_no (by decide) (by decide))⟩
      · have r655038 : g654814.toInt < p653731.toInt := gC_nle hc654821
        have bg654814' : gB g654814 0 8191 := ⟨by omega, by omega⟩
        have bp653731' : gB p653731 1 8192 := ⟨by omega, by omega⟩
        refine G_aload_n 0 dr_cX14_next_19 rfl ?_
        refine Gp_get 0 hmq653729 he654816 dr_cX14_next_20 (gk_X14 D I) (Nat.le_of_ble_eq_true rfl) wr_9_36 rfl ?_
        refine G_aload_n 0 dr_cX14_next_23 rfl ?_
        refine Gp_get 2 hmq653729 he654816 dr_cX14_next_24 (gk_X14 D I) (Nat.le_of_ble_eq_true rfl) wr_9_38 rfl ?_
        refine Gp_bald 1 hmq653730 he654817 dr_cX14_next_27 rfl (gB_in bg654814' (by decide) (by decide)) (G_nam fun z655039 hz655039 => ?_)
        have bz655039 : gB z655039 (-128) 127 := by rw [hz655039]; exact bf653744 _
        refine G_istore_n (L' := [(1, .int z655039), (0, .ref q653729)]) dr_cX14_next_28 (Nat.le_of_ble_eq_true rfl) rfl ?_
        refine G_iload_n 0 dr_cX14_next_29 rfl ?_
        refine G_bipush 59 dr_cX14_next_30 (by decide +kernel) ?_
        refine G_icmp_ne 73 dr_cX14_next_32 (by decide +kernel) (fun hc655040 => ?_) (fun hc655040 => ?_)
        · have r655041 : z655039.toInt ≠ 59 := gj_neq hc655040 (show Int32.toInt 59 = 59 by decide)
          refine G_iload_n 0 dr_cX14_next_73 rfl ?_
          refine G_bipush 9 dr_cX14_next_74 (by decide +kernel) ?_
          refine G_icmp_eq 97 dr_cX14_next_76 (by decide +kernel) (fun hc655042 => ?_) (fun hc655042 => ?_)
          · have r655043 : z655039.toInt = 9 := gj_eq hc655042 (show Int32.toInt 9 = 9 by decide)
            have bz655039' : gB z655039 9 9 := ⟨by omega, by omega⟩
            refine G_aload_n 1 dr_cX14_next_97 rfl ?_
            refine G_dup dr_cX14_next_98 rfl ?_
            refine Gp_get 2 hmq653729 he654816 dr_cX14_next_99 (gk_X14 D I) (Nat.le_of_ble_eq_true rfl) wr_9_38 rfl ?_
            refine G_iconst 1 dr_cX14_next_102 (by decide +kernel) ?_
            refine G_iadd dr_cX14_next_103 (G_nam fun z655044 hz655044 => ?_)
            have ez655044 : z655044.toInt = g654814.toInt + 1 := by rw [gI_add hz655044 bg654814' (gBl (show Int32.toInt 1 = 1 by decide)) (by decide) (by decide), show Int32.toInt 1 = 1 from by decide]
            have bz655044 : gB z655044 1 8192 := gB_add (gI_add hz655044 bg654814' (gBl (show Int32.toInt 1 = 1 by decide)) (by decide) (by decide)) bg654814' (gBl (show Int32.toInt 1 = 1 by decide)) (by decide) (by decide)
            refine Gp_put 2 hmq653729 he654816 dr_cX14_next_104 (gk_X14 D I) (Nat.le_of_ble_eq_true rfl) wr_9_38 rfl rfl rfl (Nat.le_of_ble_eq_true rfl) (fun F655045 e655046 n655047 => ?_)
            have he655048 : F655045 q653730 = .inl (I .byte, 8192, .inl f653744) := (n655047 q653730 (rn_ao he654817 he654816)).trans he654817
            have he655049 : F655045 q653729 = .inr (19, [.ref q653730, .int p653731, .int z655044, .int p653733, .int p653734, .int p653735, .int p653733, .ref qo653737, .int p653738, .int p653739, .int p653740, .ref qo653741, .ref qo653742, .int p653743]) := e655046
            have hfr655050 : rFr [q653729] P653727 F653728 F655045 := rFr_put' List.mem_cons_self hfr654818 n655047
            have x655051 : g654814.toInt < z655044.toInt := by first | omega | exact chNe (a := g654814) (b := z655044) (by assumption) (by assumption) (by omega) (by omega)
            refine G_goto 8 dr_cX14_next_107 (by decide +kernel) ?_
            refine G_lv (L' := [(0, .ref q653729)]) [1] rfl ?_
            exact ih8_654820 F655045 z655044 (gB_w bz655044 (by decide) (by decide)) hfr655050 he655049 he655048 (by omega) (by omega) (by omega)
          · have r655052 : z655039.toInt ≠ 9 := gj_neq hc655042 (show Int32.toInt 9 = 9 by decide)
            refine G_iload_n 0 dr_cX14_next_79 rfl ?_
            refine G_bipush 10 dr_cX14_next_80 (by decide +kernel) ?_
            refine G_icmp_eq 97 dr_cX14_next_82 (by decide +kernel) (fun hc655053 => ?_) (fun hc655053 => ?_)
            · have r655054 : z655039.toInt = 10 := gj_eq hc655053 (show Int32.toInt 10 = 10 by decide)
              have bz655039' : gB z655039 10 10 := ⟨by omega, by omega⟩
              refine G_aload_n 1 dr_cX14_next_97 rfl ?_
              refine G_dup dr_cX14_next_98 rfl ?_
              refine Gp_get 2 hmq653729 he654816 dr_cX14_next_99 (gk_X14 D I) (Nat.le_of_ble_eq_true rfl) wr_9_38 rfl ?_
              refine G_iconst 1 dr_cX14_next_102 (by decide +kernel) ?_
              refine G_iadd dr_cX14_next_103 (G_nam fun z655055 hz655055 => ?_)
              have ez655055 : z655055.toInt = g654814.toInt + 1 := by rw [gI_add hz655055 bg654814' (gBl (show Int32.toInt 1 = 1 by decide)) (by decide) (by decide), show Int32.toInt 1 = 1 from by decide]
              have bz655055 : gB z655055 1 8192 := gB_add (gI_add hz655055 bg654814' (gBl (show Int32.toInt 1 = 1 by decide)) (by decide) (by decide)) bg654814' (gBl (show Int32.toInt 1 = 1 by decide)) (by decide) (by decide)
              refine Gp_put 2 hmq653729 he654816 dr_cX14_next_104 (gk_X14 D I) (Nat.le_of_ble_eq_true rfl) wr_9_38 rfl rfl rfl (Nat.le_of_ble_eq_true rfl) (fun F655056 e655057 n655058 => ?_)
              have he655059 : F655056 q653730 = .inl (I .byte, 8192, .inl f653744) := (n655058 q653730 (rn_ao he654817 he654816)).trans he654817
              have he655060 : F655056 q653729 = .inr (19, [.ref q653730, .int p653731, .int z655055, .int p653733, .int p653734, .int p653735, .int p653733, .ref qo653737, .int p653738, .int p653739, .int p653740, .ref qo653741, .ref qo653742, .int p653743]) := e655057
              have hfr655061 : rFr [q653729] P653727 F653728 F655056 := rFr_put' List.mem_cons_self hfr654818 n655058
              have x655062 : g654814.toInt < z655055.toInt := by first | omega | exact chNe (a := g654814) (b := z655055) (by assumption) (by assumption) (by omega) (by omega)
              refine G_goto 8 dr_cX14_next_107 (by decide +kernel) ?_
              refine G_lv (L' := [(0, .ref q653729)]) [1] rfl ?_
              exact ih8_654820 F655056 z655055 (gB_w bz655055 (by decide) (by decide)) hfr655061 he655060 he655059 (by omega) (by omega) (by omega)
            · have r655063 : z655039.toInt ≠ 10 := gj_neq hc655053 (show Int32.toInt 10 = 10 by decide)
              refine G_iload_n 0 dr_cX14_next_85 rfl ?_
              refine G_bipush 13 dr_cX14_next_86 (by decide +kernel) ?_
              refine G_icmp_eq 97 dr_cX14_next_88 (by decide +kernel) (fun hc655064 => ?_) (fun hc655064 => ?_)
              · have r655065 : z655039.toInt = 13 := gj_eq hc655064 (show Int32.toInt 13 = 13 by decide)
                have bz655039' : gB z655039 13 13 := ⟨by omega, by omega⟩
                refine G_aload_n 1 dr_cX14_next_97 rfl ?_
                refine G_dup dr_cX14_next_98 rfl ?_
                refine Gp_get 2 hmq653729 he654816 dr_cX14_next_99 (gk_X14 D I) (Nat.le_of_ble_eq_true rfl) wr_9_38 rfl ?_
                refine G_iconst 1 dr_cX14_next_102 (by decide +kernel) ?_
                refine G_iadd dr_cX14_next_103 (G_nam fun z655066 hz655066 => ?_)
                have ez655066 : z655066.toInt = g654814.toInt + 1 := by rw [gI_add hz655066 bg654814' (gBl (show Int32.toInt 1 = 1 by decide)) (by decide) (by decide), show Int32.toInt 1 = 1 from by decide]
                have bz655066 : gB z655066 1 8192 := gB_add (gI_add hz655066 bg654814' (gBl (show Int32.toInt 1 = 1 by decide)) (by decide) (by decide)) bg654814' (gBl (show Int32.toInt 1 = 1 by decide)) (by decide) (by decide)
                refine Gp_put 2 hmq653729 he654816 dr_cX14_next_104 (gk_X14 D I) (Nat.le_of_ble_eq_true rfl) wr_9_38 rfl rfl rfl (Nat.le_of_ble_eq_true rfl) (fun F655067 e655068 n655069 => ?_)
                have he655070 : F655067 q653730 = .inl (I .byte, 8192, .inl f653744) := (n655069 q653730 (rn_ao he654817 he654816)).trans he654817
                have he655071 : F655067 q653729 = .inr (19, [.ref q653730, .int p653731, .int z655066, .int p653733, .int p653734, .int p653735, .int p653733, .ref qo653737, .int p653738, .int p653739, .int p653740, .ref qo653741, .ref qo653742, .int p653743]) := e655068
                have hfr655072 : rFr [q653729] P653727 F653728 F655067 := rFr_put' List.mem_cons_self hfr654818 n655069
                have x655073 : g654814.toInt < z655066.toInt := by first | omega | exact chNe (a := g654814) (b := z655066) (by assumption) (by assumption) (by omega) (by omega)
                refine G_goto 8 dr_cX14_next_107 (by decide +kernel) ?_
                refine G_lv (L' := [(0, .ref q653729)]) [1] rfl ?_
                exact ih8_654820 F655067 z655066 (gB_w bz655066 (by decide) (by decide)) hfr655072 he655071 he655070 (by omega) (by omega) (by omega)
              · have r655074 : z655039.toInt ≠ 13 := gj_neq hc655064 (show Int32.toInt 13 = 13 by decide)
                refine G_iload_n 0 dr_cX14_next_91 rfl ?_
                refine G_bipush 32 dr_cX14_next_92 (by decide +kernel) ?_
                refine G_icmp_ne 110 dr_cX14_next_94 (by decide +kernel) (fun hc655075 => ?_) (fun hc655075 => ?_)
                · have r655076 : z655039.toInt ≠ 32 := gj_neq hc655075 (show Int32.toInt 32 = 32 by decide)
                  clear he653752 he653753 hfr653754
                  refine G_aload_n 1 dr_cX14_next_110 rfl ?_
                  refine G_aload_n 1 dr_cX14_next_111 rfl ?_
                  refine Gp_get 2 hmq653729 he654816 dr_cX14_next_112 (gk_X14 D I) (Nat.le_of_ble_eq_true rfl) wr_9_38 rfl ?_
                  refine Gp_put 4 hmq653729 he654816 dr_cX14_next_115 (gk_X14 D I) (Nat.le_of_ble_eq_true rfl) wr_9_40 rfl rfl rfl (Nat.le_of_ble_eq_true rfl) (fun F655077 e655078 n655079 => ?_)
                  have he655080 : F655077 q653730 = .inl (I .byte, 8192, .inl f653744) := (n655079 q653730 (rn_ao he654817 he654816)).trans he654817
                  have he655081 : F655077 q653729 = .inr (19, [.ref q653730, .int p653731, .int g654814, .int p653733, .int g654814, .int p653735, .int p653733, .ref qo653737, .int p653738, .int p653739, .int p653740, .ref qo653741, .ref qo653742, .int p653743]) := e655078
                  have hfr655082 : rFr [q653729] P653727 F653728 F655077 := rFr_put' List.mem_cons_self hfr654818 n655079
                  refine G_aload_n 1 dr_cX14_next_118 rfl ?_
                  refine G_ldcK (a := D.2 1000 32) dr_cX14_next_119 (fun _ _ _ h => gx_vk 32 rfl rfl h) ?_
                  have hl32_655082 : (sb_32.length : Int) = 0 := rfl
                  refine Gp_put 7 hmq653729 he655081 dr_cX14_next_121 (gk_X14 D I) (Nat.le_of_ble_eq_true rfl) wr_9_43 rfl rfl rfl (Nat.le_of_ble_eq_true rfl) (fun F655084 e655085 n655086 => ?_)
                  have he655087 : F655084 q653730 = .inl (I .byte, 8192, .inl f653744) := (n655086 q653730 (rn_ao he655080 he655081)).trans he655080
                  have he655088 : F655084 q653729 = .inr (19, [.ref q653730, .int p653731, .int g654814, .int p653733, .int g654814, .int p653735, .int p653733, .ref (D.2 1000 32), .int p653738, .int p653739, .int p653740, .ref qo653741, .ref qo653742, .int p653743]) := e655085
                  have hfr655089 : rFr [q653729] P653727 F653728 F655084 := rFr_put' List.mem_cons_self hfr655082 n655086
                  clear he655080 he655081 hfr655082
                  refine G_aload_n 1 dr_cX14_next_124 rfl ?_
                  refine Gp_get 2 hmq653729 he655088 dr_cX14_next_125 (gk_X14 D I) (Nat.le_of_ble_eq_true rfl) wr_9_38 rfl ?_
                  refine G_aload_n 1 dr_cX14_next_128 rfl ?_
                  refine Gp_get 1 hmq653729 he655088 dr_cX14_next_129 (gk_X14 D I) (Nat.le_of_ble_eq_true rfl) wr_9_37 rfl ?_
                  refine G_icmp_ne 141 dr_cX14_next_132 (by decide +kernel) (fun hc655090 => ?_) (fun hc655090 => ?_)
                  · have r655091 : g654814.toInt ≠ p653731.toInt := gC_ne hc655090
                    refine G_aload_n 1 dr_cX14_next_141 rfl ?_
                    refine Gp_get 0 hmq653729 he655088 dr_cX14_next_142 (gk_X14 D I) (Nat.le_of_ble_eq_true rfl) wr_9_36 rfl ?_
                    refine G_aload_n 1 dr_cX14_next_145 rfl ?_
                    refine Gp_get 2 hmq653729 he655088 dr_cX14_next_146 (gk_X14 D I) (Nat.le_of_ble_eq_true rfl) wr_9_38 rfl ?_
                    refine Gp_bald 1 hmq653730 he655087 dr_cX14_next_149 rfl (gB_in bg654814' (by decide) (by decide)) (G_eqi (y := z655039) hz655039.symm ?_)
                    refine G_istore_n (L' := [(1, .int z655039), (0, .ref q653729)]) dr_cX14_next_150 (Nat.le_of_ble_eq_true rfl) rfl ?_
                    have jn655092 : G (gV D I) l (gRm 7 155 ((16 * (p653731.toInt - p653732.toInt)).toNat) ((256 * (p653731.toInt - p653732.toInt)).toNat)) (gMA (gV D I) (pp_653748_Reader_next D I P653727 F653728 q653729 q653730 p653731 p653732 p653733 p653734 p653735 p653736 qo653737 p653738 p653739 p653740 qo653741 qo653742 p653743 f653744) gNA ((16 * (p653731.toInt - p653732.toInt)).toNat) ((256 * (p653731.toInt - p653732.toInt)).toNat)) ky_653748_Reader_next 209 [(2, .int 0), (1, .int z655039), (0, .ref q653729)] [] (va_pl P653727 F655084) 0 0 := by
                      refine G_iload_n 1 dr_cX14_next_209 rfl ?_
                      refine Gw_callS (As := [.int z655039]) (gV_ok D I) (cp_651515_Reader_isLetter l hl0 D I P653727 F655084 z655039 ) dr_cX14_next_210 ⟨wr_7_222, wr_1_32, wr_7_224, by decide, rfl, (Nat.le_of_ble_eq_true rfl), (Nat.le_of_ble_eq_true rfl)⟩ wr_7_223 (show 0 + 0 ≤ ((16 * (p653731.toInt - p653732.toInt)).toNat) by first | omega | decide) (show 0 + 0 ≤ ((256 * (p653731.toInt - p653732.toInt)).toNat) by first | omega | decide) (Nat.le_of_ble_eq_true rfl) (fun r655096 w655097 dc655093 ds655094 hp655095 => ?_) (fun _ _ _ _ _ z => z.elim)
                      obtain ⟨o655098, rfl, rfl, hdc, hds, bo655098, x655099⟩ := hp655095
                      change G _ _ _ _ _ _ _ (.int o655098 :: _) _ _ _
                      refine G_widen (cs' := 0) (sl' := 0) (by omega) (by omega) ?_
                      refine G_if_eq 223 dr_cX14_next_213 (by decide +kernel) (fun hc655100 => ?_) (fun hc655100 => ?_)
                      · have r655101 : o655098.toInt = 0 := gj_eq hc655100 (show Int32.toInt 0 = 0 by decide)
                        have bo655098' : gB o655098 0 0 := ⟨by omega, by omega⟩
                        clear bo655098 bo655098'; try clear r655096; try clear w655097; try clear dc655093; try clear ds655094; try clear hp655095; try clear x655099; try clear r655101
                        refine G_iload_n 1 dr_cX14_next_223 rfl ?_
                        refine Gw_callS (As := [.int z655039]) (gV_ok D I) (cp_649619_Reader_isDigit l hl0 D I P653727 F655084 z655039 ) dr_cX14_next_224 ⟨wr_7_219, wr_1_32, wr_7_221, by decide, rfl, (Nat.le_of_ble_eq_true rfl), (Nat.le_of_ble_eq_true rfl)⟩ wr_7_220 (show 0 + 0 ≤ ((16 * (p653731.toInt - p653732.toInt)).toNat) by first | omega | decide) (show 0 + 0 ≤ ((256 * (p653731.toInt - p653732.toInt)).toNat) by first | omega | decide) (Nat.le_of_ble_eq_true rfl) (fun r655105 w655106 dc655102 ds655103 hp655104 => ?_) (fun _ _ _ _ _ z => z.elim)
                        obtain ⟨o655107, rfl, rfl, hdc, hds, bo655107, x655108⟩ := hp655104
                        change G _ _ _ _ _ _ _ (.int o655107 :: _) _ _ _
                        refine G_widen (cs' := 0) (sl' := 0) (by omega) (by omega) ?_
                        refine G_if_ne 234 dr_cX14_next_227 (by decide +kernel) (fun hc655109 => ?_) (fun hc655109 => ?_)
                        · have r655110 : o655107.toInt ≠ 0 := gj_neq hc655109 (show Int32.toInt 0 = 0 by decide)
                          have bo655107' : gB o655107 1 1 := ⟨by omega, by omega⟩
                          have bi655111 : gB z655039 48 57 := isP_1 x655108 (by omega)
                          refine G_aload_n 2 dr_cX14_next_234 rfl ?_
                          refine G_iload_n 0 dr_cX14_next_235 rfl ?_
                          refine Gw_callV (As := [.int 0]) (gV_ok D I) (cp_649583_Reader_number l hl0 D I P653727 F655084 q653729 q653730 0 p653731 g654814 p653733 g654814 p653735 p653733 (D.2 1000 32) p653738 p653739 p653740 qo653741 qo653742 p653743 f653744 hmq653729 hmq653730 he655088 he655087 (gB_w (gBl (show Int32.toInt 0 = 0 by decide)) (by decide) (by decide)) (gB_w bp653731' (by decide) (by decide)) (gB_w bg654814' (by decide) (by decide)) bp653733 (gB_w bg654814' (by decide) (by decide)) bp653733 bp653738 bp653739 bp653740 bp653743 bf653744 (by have qa0 : Int32.toInt 0 = 0 := (by decide); omega) (by have qa0 : Int32.toInt 0 = 0 := (by decide); omega) (by first | assumption | exact cDg_no (by omega) | exact cDg_no (by decide) | exact cDg_of (by assumption) (by omega) (by omega)) x653746 x653747) dr_cX14_next_236 ⟨wr_8_218, wr_1_32, wr_8_221, by decide, rfl, (Nat.le_of_ble_eq_true rfl), (Nat.le_of_ble_eq_true rfl)⟩ wr_8_220 wr_p_77 hmq653729 he655088 rfl (show 0 + ((16 * (p653731.toInt - g654814.toInt)).toNat) ≤ ((16 * (p653731.toInt - p653732.toInt)).toNat) by first | omega | decide) (show 0 + ((256 * (p653731.toInt - g654814.toInt)).toNat) ≤ ((256 * (p653731.toInt - p653732.toInt)).toNat) by first | omega | decide) (Nat.le_of_ble_eq_true rfl) (fun r655115 w655116 dc655112 ds655113 hp655114 => ?_) (fun _ _ _ _ _ z => z.elim)
                          obtain ⟨F655124, o655117, o655118, o655119, rfl, rfl, hfr655126, he655127, he655128, hdc, hds, bo655117, bo655118, x655120, x655121, x655122, x655123⟩ := hp655114
                          have hfr655129 : rFr [q653729] P653727 F653728 F655124 := rFr_call (rSub_rf (P := P653727)) hfr655089 hfr655126 (fun b hb hn => ⟨(nm_c (fun e => hn (e ▸ List.mem_cons_self)) nm_n), (nm_c (fun e => hn (e ▸ List.mem_cons_self)) nm_n)⟩)
                          have bo655119 := gB_any o655119
                          change G _ _ _ _ _ _ _ _ _ _ _
                          refine G_widen (cs' := (16 * (o655117.toInt - g654814.toInt)).toNat) (sl' := (256 * (o655117.toInt - g654814.toInt)).toNat) (by omega) (by omega) ?_
                          refine G_goto 247 dr_cX14_next_239 (by decide +kernel) ?_
                          exact G_vretA dr_cX14_next_247 rfl (show (16 * (o655117.toInt - g654814.toInt)).toNat ≤ ((16 * (p653731.toInt - p653732.toInt)).toNat) by omega) (show (256 * (o655117.toInt - g654814.toInt)).toNat ≤ ((256 * (p653731.toInt - p653732.toInt)).toNat) by omega) ⟨P653727, F655124, o655117, o655118, g654814, o655119, (D.2 1000 32), rfl, rfl, (rSub_rf (P := P653727)), hfr655129, he655127, he655128, (by omega), (by omega), bo655117, (gB_w bo655118 (by decide) (by decide)), (gB_w bg654814' (by decide) (by decide)), (by have qa0 : Int32.toInt 0 = 0 := (by decide); omega), (Or.inr (by omega)), (by have qa0 : Int32.toInt 0 = 0 := (by decide); omega), (by first | exact tP_no (by omega) (by omega) | assumption), x655123⟩
                        · have r655130 : o655107.toInt = 0 := gj_eq hc655109 (show Int32.toInt 0 = 0 by decide)
                          have bo655107' : gB o655107 0 0 := ⟨by omega, by omega⟩
                          refine G_iload_n 0 dr_cX14_next_230 rfl ?_
                          refine G_if_eq 242 dr_cX14_next_231 (by decide +kernel) (fun _ => ?_) (fun hc => absurd hc (by decide))
                          refine G_aload_n 2 dr_cX14_next_242 rfl ?_
                          refine G_iload_n 1 dr_cX14_next_243 rfl ?_
                          refine Gw_callV (As := [.int z655039]) (gV_ok D I) (cp_650189_Reader_symbol l hl0 D I P653727 F655084 q653729 q653730 z655039 p653731 g654814 p653733 g654814 p653735 p653733 (D.2 1000 32) p653738 p653739 p653740 qo653741 qo653742 p653743 f653744 hmq653729 hmq653730 he655088 he655087 bz655039 (gB_w bp653731' (by decide) (by decide)) (gB_w bg654814' (by decide) (by decide)) bp653733 (gB_w bg654814' (by decide) (by decide)) bp653733 bp653738 bp653739 bp653740 bp653743 bf653744 (by have qa0 : Int32.toInt 0 = 0 := (by decide); omega) (by have qa0 : Int32.toInt 0 = 0 := (by decide); omega) x653746 x653747) dr_cX14_next_244 ⟨wr_8_223, wr_1_32, wr_8_226, by decide, rfl, (Nat.le_of_ble_eq_true rfl), (Nat.le_of_ble_eq_true rfl)⟩ wr_8_225 wr_p_78 hmq653729 he655088 rfl (show 0 + ((16 * (p653731.toInt - g654814.toInt)).toNat) ≤ ((16 * (p653731.toInt - p653732.toInt)).toNat) by first | omega | decide) (show 0 + ((256 * (p653731.toInt - g654814.toInt)).toNat) ≤ ((256 * (p653731.toInt - p653732.toInt)).toNat) by first | omega | decide) (Nat.le_of_ble_eq_true rfl) (fun r655134 w655135 dc655131 ds655132 hp655133 => ?_) (fun _ _ _ _ _ z => z.elim)
                          obtain ⟨P655143, F655144, o655136, o655137, q655138, rfl, rfl, hsb655145, hfr655146, he655147, he655148, hdc, hds, bo655136, bo655137, x655139, x655140, x655141, x655142⟩ := hp655133
                          have hm655149 : q653729 ∈ P655143 := hsb655145 q653729 hmq653729
                          have hm655150 : q653730 ∈ P655143 := hsb655145 q653730 hmq653730
                          have hsb655151 : rSub P653727 P655143 := rSub_tr (rSub_rf (P := P653727)) hsb655145
                          have hfr655152 : rFr [q653729] P653727 F653728 F655144 := rFr_call (rSub_rf (P := P653727)) hfr655089 hfr655146 (fun b hb hn => ⟨(nm_c (fun e => hn (e ▸ List.mem_cons_self)) nm_n), (nm_c (fun e => hn (e ▸ List.mem_cons_self)) nm_n)⟩)
                          change G _ _ _ _ _ _ _ _ _ _ _
                          refine G_widen (cs' := (16 * (o655136.toInt - g654814.toInt)).toNat) (sl' := (256 * (o655136.toInt - g654814.toInt)).toNat) (by omega) (by omega) ?_
                          exact G_vretA dr_cX14_next_247 rfl (show (16 * (o655136.toInt - g654814.toInt)).toNat ≤ ((16 * (p653731.toInt - p653732.toInt)).toNat) by omega) (show (256 * (o655136.toInt - g654814.toInt)).toNat ≤ ((256 * (p653731.toInt - p653732.toInt)).toNat) by omega) ⟨P655143, F655144, o655136, o655137, g654814, p653735, q655138, rfl, rfl, hsb655151, hfr655152, he655147, he655148, (by omega), (by omega), (gB_w bo655136 (by decide) (by decide)), (gB_w bo655137 (by decide) (by decide)), (gB_w bg654814' (by decide) (by decide)), (by have qa0 : Int32.toInt 0 = 0 := (by decide); omega), (Or.inr (by omega)), (by have qa0 : Int32.toInt 0 = 0 := (by decide); omega), x655141, x655142⟩
                      · have r655153 : o655098.toInt ≠ 0 := gj_neq hc655100 (show Int32.toInt 0 = 0 by decide)
                        have bo655098' : gB o655098 1 1 := ⟨by omega, by omega⟩
                        have bi655154 : gB z655039 97 122 := isP_1 x655099 (by omega)
                        refine G_aload_n 2 dr_cX14_next_216 rfl ?_
                        refine Gw_callV (As := []) (gV_ok D I) (cp_651181_Reader_word l hl0 D I P653727 F655084 q653729 q653730 p653731 g654814 p653733 g654814 p653735 p653733 (D.2 1000 32) p653738 p653739 p653740 qo653741 qo653742 p653743 f653744 hmq653729 hmq653730 he655088 he655087 (gB_w bp653731' (by decide) (by decide)) (gB_w bg654814' (by decide) (by decide)) bp653733 (gB_w bg654814' (by decide) (by decide)) bp653733 bp653738 bp653739 bp653740 bp653743 bf653744 (by have qa0 : Int32.toInt 0 = 0 := (by decide); omega) (by have qa0 : Int32.toInt 0 = 0 := (by decide); omega) (by first | assumption | exact cLt_of (by assumption) (by omega) (by omega)) x653746 x653747) dr_cX14_next_217 ⟨wr_7_225, wr_1_32, wr_7_228, by decide, rfl, (Nat.le_of_ble_eq_true rfl), (Nat.le_of_ble_eq_true rfl)⟩ wr_7_227 wr_p_76 hmq653729 he655088 rfl (show 0 + ((16 * (p653731.toInt - g654814.toInt)).toNat) ≤ ((16 * (p653731.toInt - p653732.toInt)).toNat) by first | omega | decide) (show 0 + ((256 * (p653731.toInt - g654814.toInt)).toNat) ≤ ((256 * (p653731.toInt - p653732.toInt)).toNat) by first | omega | decide) (Nat.le_of_ble_eq_true rfl) (fun r655158 w655159 dc655155 ds655156 hp655157 => ?_) (fun _ _ _ _ _ z => z.elim)
                        obtain ⟨P655168, F655169, o655160, o655161, o655162, q655163, rfl, rfl, hsb655170, hfr655171, he655172, he655173, hdc, hds, bo655160, bo655161, x655164, x655165, x655166, x655167⟩ := hp655157
                        have hm655174 : q653729 ∈ P655168 := hsb655170 q653729 hmq653729
                        have hm655175 : q653730 ∈ P655168 := hsb655170 q653730 hmq653730
                        have hsb655176 : rSub P653727 P655168 := rSub_tr (rSub_rf (P := P653727)) hsb655170
                        have hfr655177 : rFr [q653729] P653727 F653728 F655169 := rFr_call (rSub_rf (P := P653727)) hfr655089 hfr655171 (fun b hb hn => ⟨(nm_c (fun e => hn (e ▸ List.mem_cons_self)) nm_n), (nm_c (fun e => hn (e ▸ List.mem_cons_self)) nm_n)⟩)
                        have bo655162 := gB_any o655162
                        change G _ _ _ _ _ _ _ _ _ _ _
                        refine G_widen (cs' := (16 * (o655160.toInt - g654814.toInt)).toNat) (sl' := (256 * (o655160.toInt - g654814.toInt)).toNat) (by omega) (by omega) ?_
                        refine G_goto 247 dr_cX14_next_220 (by decide +kernel) ?_
                        exact G_vretA dr_cX14_next_247 rfl (show (16 * (o655160.toInt - g654814.toInt)).toNat ≤ ((16 * (p653731.toInt - p653732.toInt)).toNat) by omega) (show (256 * (o655160.toInt - g654814.toInt)).toNat ≤ ((256 * (p653731.toInt - p653732.toInt)).toNat) by omega) ⟨P655168, F655169, o655160, o655161, g654814, o655162, q655163, rfl, rfl, hsb655176, hfr655177, he655172, he655173, (by omega), (by omega), bo655160, (gB_w bo655161 (by decide) (by decide)), (gB_w bg654814' (by decide) (by decide)), (by have qa0 : Int32.toInt 0 = 0 := (by decide); omega), (Or.inr (by omega)), (by have qa0 : Int32.toInt 0 = 0 := (by decide); omega), x655166, x655167⟩
                    refine G_iload_n 0 dr_cX14_next_151 rfl ?_
                    refine G_bipush 45 dr_cX14_next_152 (by decide +kernel) ?_
                    refine G_icmp_ne 207 dr_cX14_next_154 (by decide +kernel) (fun hc655178 => ?_) (fun hc655178 => ?_)
                    · have r655179 : z655039.toInt ≠ 45 := gj_neq hc655178 (show Int32.toInt 45 = 45 by decide)
                      refine G_iconst 0 dr_cX14_next_207 (by decide +kernel) ?_
                      refine G_istore_n (L' := [(2, .int 0), (1, .int z655039), (0, .ref q653729)]) dr_cX14_next_208 (Nat.le_of_ble_eq_true rfl) rfl ?_
                      refine G_lv (L' := [(2, .int 0), (1, .int z655039), (0, .ref q653729)]) [0, 1, 2] rfl ?_
                      exact jn655092
                    · have r655180 : z655039.toInt = 45 := gj_eq hc655178 (show Int32.toInt 45 = 45 by decide)
                      have bz655039' : gB z655039 45 45 := ⟨by omega, by omega⟩
                      refine G_aload_n 1 dr_cX14_next_157 rfl ?_
                      refine Gp_get 2 hmq653729 he655088 dr_cX14_next_158 (gk_X14 D I) (Nat.le_of_ble_eq_true rfl) wr_9_38 rfl ?_
                      refine G_iconst 1 dr_cX14_next_161 (by decide +kernel) ?_
                      refine G_iadd dr_cX14_next_162 (G_nam fun z655181 hz655181 => ?_)
                      have ez655181 : z655181.toInt = g654814.toInt + 1 := by rw [gI_add hz655181 bg654814' (gBl (show Int32.toInt 1 = 1 by decide)) (by decide) (by decide), show Int32.toInt 1 = 1 from by decide]
                      have bz655181 : gB z655181 1 8192 := gB_add (gI_add hz655181 bg654814' (gBl (show Int32.toInt 1 = 1 by decide)) (by decide) (by decide)) bg654814' (gBl (show Int32.toInt 1 = 1 by decide)) (by decide) (by decide)
                      refine G_aload_n 1 dr_cX14_next_163 rfl ?_
                      refine Gp_get 1 hmq653729 he655088 dr_cX14_next_164 (gk_X14 D I) (Nat.le_of_ble_eq_true rfl) wr_9_37 rfl ?_
                      refine G_icmp_ge 207 dr_cX14_next_167 (by decide +kernel) (fun hc655182 => ?_) (fun hc655182 => ?_)
                      · have r655183 : p653731.toInt ≤ z655181.toInt := gC_le hc655182
                        refine G_iconst 0 dr_cX14_next_207 (by decide +kernel) ?_
                        refine G_istore_n (L' := [(2, .int 0), (1, .int z655039), (0, .ref q653729)]) dr_cX14_next_208 (Nat.le_of_ble_eq_true rfl) rfl ?_
                        refine G_lv (L' := [(2, .int 0), (1, .int z655039), (0, .ref q653729)]) [0, 1, 2] rfl ?_
                        exact jn655092
                      · have r655184 : z655181.toInt < p653731.toInt := gC_nle hc655182
                        have bz655181' : gB z655181 1 8191 := ⟨by omega, by omega⟩
                        have bp653731'' : gB p653731 2 8192 := ⟨by omega, by omega⟩
                        refine G_aload_n 1 dr_cX14_next_170 rfl ?_
                        refine Gp_get 0 hmq653729 he655088 dr_cX14_next_171 (gk_X14 D I) (Nat.le_of_ble_eq_true rfl) wr_9_36 rfl ?_
                        refine G_aload_n 1 dr_cX14_next_174 rfl ?_
                        refine Gp_get 2 hmq653729 he655088 dr_cX14_next_175 (gk_X14 D I) (Nat.le_of_ble_eq_true rfl) wr_9_38 rfl ?_
                        refine G_iconst 1 dr_cX14_next_178 (by decide +kernel) ?_
                        refine G_iadd dr_cX14_next_179 (G_eqi (y := z655181) hz655181.symm ?_)
                        refine Gp_bald 1 hmq653730 he655087 dr_cX14_next_180 rfl (gB_in bz655181' (by decide) (by decide)) (G_nam fun z655185 hz655185 => ?_)
                        have bz655185 : gB z655185 (-128) 127 := by rw [hz655185]; exact bf653744 _
                        refine Gw_callS (As := [.int z655185]) (gV_ok D I) (cp_649619_Reader_isDigit l hl0 D I P653727 F655084 z655185 ) dr_cX14_next_181 ⟨wr_7_219, wr_1_32, wr_7_221, by decide, rfl, (Nat.le_of_ble_eq_true rfl), (Nat.le_of_ble_eq_true rfl)⟩ wr_7_220 (show 0 + 0 ≤ ((16 * (p653731.toInt - p653732.toInt)).toNat) by first | omega | decide) (show 0 + 0 ≤ ((256 * (p653731.toInt - p653732.toInt)).toNat) by first | omega | decide) (Nat.le_of_ble_eq_true rfl) (fun r655189 w655190 dc655186 ds655187 hp655188 => ?_) (fun _ _ _ _ _ z => z.elim)
                        obtain ⟨o655191, rfl, rfl, hdc, hds, bo655191, x655192⟩ := hp655188
                        change G _ _ _ _ _ _ _ (.int o655191 :: _) _ _ _
                        refine G_widen (cs' := 0) (sl' := 0) (by omega) (by omega) ?_
                        refine G_if_eq 207 dr_cX14_next_184 (by decide +kernel) (fun hc655193 => ?_) (fun hc655193 => ?_)
                        · have r655194 : o655191.toInt = 0 := gj_eq hc655193 (show Int32.toInt 0 = 0 by decide)
                          have bo655191' : gB o655191 0 0 := ⟨by omega, by omega⟩
                          refine G_iconst 0 dr_cX14_next_207 (by decide +kernel) ?_
                          refine G_istore_n (L' := [(2, .int 0), (1, .int z655039), (0, .ref q653729)]) dr_cX14_next_208 (Nat.le_of_ble_eq_true rfl) rfl ?_
                          refine G_lv (L' := [(2, .int 0), (1, .int z655039), (0, .ref q653729)]) [0, 1, 2] rfl ?_
                          exact jn655092
                        · have r655195 : o655191.toInt ≠ 0 := gj_neq hc655193 (show Int32.toInt 0 = 0 by decide)
                          have bo655191' : gB o655191 1 1 := ⟨by omega, by omega⟩
                          have bi655196 : gB z655185 48 57 := isP_1 x655192 (by omega)
                          refine G_aload_n 1 dr_cX14_next_187 rfl ?_
                          refine Gp_get 6 hmq653729 he655088 dr_cX14_next_188 (gk_X14 D I) (Nat.le_of_ble_eq_true rfl) wr_9_42 rfl ?_
                          refine G_iconst 2 dr_cX14_next_191 (by decide +kernel) ?_
                          refine G_icmp_eq 207 dr_cX14_next_192 (by decide +kernel) (fun hc655197 => ?_) (fun hc655197 => ?_)
                          · have r655198 : p653733.toInt = 2 := gj_eq hc655197 (show Int32.toInt 2 = 2 by decide)
                            have bp653733' : gB p653733 2 2 := ⟨by omega, by omega⟩
                            refine G_iconst 0 dr_cX14_next_207 (by decide +kernel) ?_
                            refine G_istore_n (L' := [(2, .int 0), (1, .int z655039), (0, .ref q653729)]) dr_cX14_next_208 (Nat.le_of_ble_eq_true rfl) rfl ?_
                            refine G_lv (L' := [(2, .int 0), (1, .int z655039), (0, .ref q653729)]) [0, 1, 2] rfl ?_
                            exact jn655092
                          · have r655199 : p653733.toInt ≠ 2 := gj_neq hc655197 (show Int32.toInt 2 = 2 by decide)
                            refine G_aload_n 1 dr_cX14_next_195 rfl ?_
                            refine Gp_get 6 hmq653729 he655088 dr_cX14_next_196 (gk_X14 D I) (Nat.le_of_ble_eq_true rfl) wr_9_42 rfl ?_
                            refine G_iconst 4 dr_cX14_next_199 (by decide +kernel) ?_
                            refine G_icmp_eq 207 dr_cX14_next_200 (by decide +kernel) (fun hc655200 => ?_) (fun hc655200 => ?_)
                            · have r655201 : p653733.toInt = 4 := gj_eq hc655200 (show Int32.toInt 4 = 4 by decide)
                              have bp653733' : gB p653733 4 4 := ⟨by omega, by omega⟩
                              refine G_iconst 0 dr_cX14_next_207 (by decide +kernel) ?_
                              refine G_istore_n (L' := [(2, .int 0), (1, .int z655039), (0, .ref q653729)]) dr_cX14_next_208 (Nat.le_of_ble_eq_true rfl) rfl ?_
                              refine G_lv (L' := [(2, .int 0), (1, .int z655039), (0, .ref q653729)]) [0, 1, 2] rfl ?_
                              exact jn655092
                            · have r655202 : p653733.toInt ≠ 4 := gj_neq hc655200 (show Int32.toInt 4 = 4 by decide)
                              refine G_iconst 1 dr_cX14_next_203 (by decide +kernel) ?_
                              refine G_goto 208 dr_cX14_next_204 (by decide +kernel) ?_
                              refine G_istore_n (L' := [(2, .int 1), (1, .int z655039), (0, .ref q653729)]) dr_cX14_next_208 (Nat.le_of_ble_eq_true rfl) rfl ?_
                              clear bp653731' bz655039 jn655092 bz655181 bz655185 bo655191 bo655191'; try clear r655189; try clear w655190; try clear dc655186; try clear ds655187; try clear hp655188; try clear x655192; try clear r655195
                              refine G_iload_n 1 dr_cX14_next_209 rfl ?_
                              refine Gw_callS (As := [.int z655039]) (gV_ok D I) (cp_651515_Reader_isLetter l hl0 D I P653727 F655084 z655039 ) dr_cX14_next_210 ⟨wr_7_222, wr_1_32, wr_7_224, by decide, rfl, (Nat.le_of_ble_eq_true rfl), (Nat.le_of_ble_eq_true rfl)⟩ wr_7_223 (show 0 + 0 ≤ ((16 * (p653731.toInt - p653732.toInt)).toNat) by first | omega | decide) (show 0 + 0 ≤ ((256 * (p653731.toInt - p653732.toInt)).toNat) by first | omega | decide) (Nat.le_of_ble_eq_true rfl) (fun r655206 w655207 dc655203 ds655204 hp655205 => ?_) (fun _ _ _ _ _ z => z.elim)
                              obtain ⟨o655208, rfl, rfl, hdc, hds, bo655208, x655209⟩ := hp655205
                              change G _ _ _ _ _ _ _ (.int o655208 :: _) _ _ _
                              refine G_widen (cs' := 0) (sl' := 0) (by omega) (by omega) ?_
                              refine G_if_eq 223 dr_cX14_next_213 (by decide +kernel) (fun hc655210 => ?_) (fun hc655210 => ?_)
                              · have r655211 : o655208.toInt = 0 := gj_eq hc655210 (show Int32.toInt 0 = 0 by decide)
                                have bo655208' : gB o655208 0 0 := ⟨by omega, by omega⟩
                                clear bo655208 bo655208'; try clear r655206; try clear w655207; try clear dc655203; try clear ds655204; try clear hp655205; try clear x655209; try clear r655211
                                refine G_iload_n 1 dr_cX14_next_223 rfl ?_
                                refine Gw_callS (As := [.int z655039]) (gV_ok D I) (cp_649619_Reader_isDigit l hl0 D I P653727 F655084 z655039 ) dr_cX14_next_224 ⟨wr_7_219, wr_1_32, wr_7_221, by decide, rfl, (Nat.le_of_ble_eq_true rfl), (Nat.le_of_ble_eq_true rfl)⟩ wr_7_220 (show 0 + 0 ≤ ((16 * (p653731.toInt - p653732.toInt)).toNat) by first | omega | decide) (show 0 + 0 ≤ ((256 * (p653731.toInt - p653732.toInt)).toNat) by first | omega | decide) (Nat.le_of_ble_eq_true rfl) (fun r655215 w655216 dc655212 ds655213 hp655214 => ?_) (fun _ _ _ _ _ z => z.elim)
                                obtain ⟨o655217, rfl, rfl, hdc, hds, bo655217, x655218⟩ := hp655214
                                change G _ _ _ _ _ _ _ (.int o655217 :: _) _ _ _
                                refine G_widen (cs' := 0) (sl' := 0) (by omega) (by omega) ?_
                                refine G_if_ne 234 dr_cX14_next_227 (by decide +kernel) (fun hc655219 => ?_) (fun hc655219 => ?_)
                                · have r655220 : o655217.toInt ≠ 0 := gj_neq hc655219 (show Int32.toInt 0 = 0 by decide)
                                  have bo655217' : gB o655217 1 1 := ⟨by omega, by omega⟩
                                  have bi655221 : gB z655039 48 57 := isP_1 x655218 (by omega)
                                  refine G_aload_n 2 dr_cX14_next_234 rfl ?_
                                  refine G_iload_n 0 dr_cX14_next_235 rfl ?_
                                  refine Gw_callV (As := [.int 1]) (gV_ok D I) (cp_649583_Reader_number l hl0 D I P653727 F655084 q653729 q653730 1 p653731 g654814 p653733 g654814 p653735 p653733 (D.2 1000 32) p653738 p653739 p653740 qo653741 qo653742 p653743 f653744 hmq653729 hmq653730 he655088 he655087 (gB_w (gBl (show Int32.toInt 1 = 1 by decide)) (by decide) (by decide)) (gB_w bp653731'' (by decide) (by decide)) (gB_w bg654814' (by decide) (by decide)) bp653733 (gB_w bg654814' (by decide) (by decide)) bp653733 bp653738 bp653739 bp653740 bp653743 bf653744 (by have qa0 : Int32.toInt 1 = 1 := (by decide); omega) (by have qa0 : Int32.toInt 1 = 1 := (by decide); omega) (by first | assumption | exact cDg_no (by omega) | exact cDg_no (by decide) | exact cDg_of (by assumption) (by omega) (by omega)) x653746 x653747) dr_cX14_next_236 ⟨wr_8_218, wr_1_32, wr_8_221, by decide, rfl, (Nat.le_of_ble_eq_true rfl), (Nat.le_of_ble_eq_true rfl)⟩ wr_8_220 wr_p_77 hmq653729 he655088 rfl (show 0 + ((16 * (p653731.toInt - g654814.toInt)).toNat) ≤ ((16 * (p653731.toInt - p653732.toInt)).toNat) by first | omega | decide) (show 0 + ((256 * (p653731.toInt - g654814.toInt)).toNat) ≤ ((256 * (p653731.toInt - p653732.toInt)).toNat) by first | omega | decide) (Nat.le_of_ble_eq_true rfl) (fun r655225 w655226 dc655222 ds655223 hp655224 => ?_) (fun _ _ _ _ _ z => z.elim)
                                  obtain ⟨F655234, o655227, o655228, o655229, rfl, rfl, hfr655236, he655237, he655238, hdc, hds, bo655227, bo655228, x655230, x655231, x655232, x655233⟩ := hp655224
                                  have hfr655239 : rFr [q653729] P653727 F653728 F655234 := rFr_call (rSub_rf (P := P653727)) hfr655089 hfr655236 (fun b hb hn => ⟨(nm_c (fun e => hn (e ▸ List.mem_cons_self)) nm_n), (nm_c (fun e => hn (e ▸ List.mem_cons_self)) nm_n)⟩)
                                  have bo655229 := gB_any o655229
                                  change G _ _ _ _ _ _ _ _ _ _ _
                                  refine G_widen (cs' := (16 * (o655227.toInt - g654814.toInt)).toNat) (sl' := (256 * (o655227.toInt - g654814.toInt)).toNat) (by omega) (by omega) ?_
                                  refine G_goto 247 dr_cX14_next_239 (by decide +kernel) ?_
                                  exact G_vretA dr_cX14_next_247 rfl (show (16 * (o655227.toInt - g654814.toInt)).toNat ≤ ((16 * (p653731.toInt - p653732.toInt)).toNat) by omega) (show (256 * (o655227.toInt - g654814.toInt)).toNat ≤ ((256 * (p653731.toInt - p653732.toInt)).toNat) by omega) ⟨P653727, F655234, o655227, o655228, g654814, o655229, (D.2 1000 32), rfl, rfl, (rSub_rf (P := P653727)), hfr655239, he655237, he655238, (by omega), (by omega), bo655227, (gB_w bo655228 (by decide) (by decide)), (gB_w bg654814' (by decide) (by decide)), (by have qa0 : Int32.toInt 1 = 1 := (by decide); omega), (Or.inr (by omega)), (by have qa0 : Int32.toInt 1 = 1 := (by decide); omega), (by first | exact tP_no (by omega) (by omega) | assumption), x655233⟩
                                · have r655240 : o655217.toInt = 0 := gj_eq hc655219 (show Int32.toInt 0 = 0 by decide)
                                  have bo655217' : gB o655217 0 0 := ⟨by omega, by omega⟩
                                  refine G_iload_n 0 dr_cX14_next_230 rfl ?_
                                  refine G_if_eq 242 dr_cX14_next_231 (by decide +kernel) (fun hc => absurd hc (by decide)) (fun _ => ?_)
                                  refine G_aload_n 2 dr_cX14_next_234 rfl ?_
                                  refine G_iload_n 0 dr_cX14_next_235 rfl ?_
                                  refine Gw_callV (As := [.int 1]) (gV_ok D I) (cp_649583_Reader_number l hl0 D I P653727 F655084 q653729 q653730 1 p653731 g654814 p653733 g654814 p653735 p653733 (D.2 1000 32) p653738 p653739 p653740 qo653741 qo653742 p653743 f653744 hmq653729 hmq653730 he655088 he655087 (gB_w (gBl (show Int32.toInt 1 = 1 by decide)) (by decide) (by decide)) (gB_w bp653731'' (by decide) (by decide)) (gB_w bg654814' (by decide) (by decide)) bp653733 (gB_w bg654814' (by decide) (by decide)) bp653733 bp653738 bp653739 bp653740 bp653743 bf653744 (by have qa0 : Int32.toInt 1 = 1 := (by decide); omega) (by have qa0 : Int32.toInt 1 = 1 := (by decide); omega) (by first | assumption | exact cDg_no (by omega) | exact cDg_no (by decide) | exact cDg_of (by assumption) (by omega) (by omega)) x653746 x653747) dr_cX14_next_236 ⟨wr_8_218, wr_1_32, wr_8_221, by decide, rfl, (Nat.le_of_ble_eq_true rfl), (Nat.le_of_ble_eq_true rfl)⟩ wr_8_220 wr_p_77 hmq653729 he655088 rfl (show 0 + ((16 * (p653731.toInt - g654814.toInt)).toNat) ≤ ((16 * (p653731.toInt - p653732.toInt)).toNat) by first | omega | decide) (show 0 + ((256 * (p653731.toInt - g654814.toInt)).toNat) ≤ ((256 * (p653731.toInt - p653732.toInt)).toNat) by first | omega | decide) (Nat.le_of_ble_eq_true rfl) (fun r655244 w655245 dc655241 ds655242 hp655243 => ?_) (fun _ _ _ _ _ z => z.elim)
                                  obtain ⟨F655253, o655246, o655247, o655248, rfl, rfl, hfr655255, he655256, he655257, hdc, hds, bo655246, bo655247, x655249, x655250, x655251, x655252⟩ := hp655243
                                  have hfr655258 : rFr [q653729] P653727 F653728 F655253 := rFr_call (rSub_rf (P := P653727)) hfr655089 hfr655255 (fun b hb hn => ⟨(nm_c (fun e => hn (e ▸ List.mem_cons_self)) nm_n), (nm_c (fun e => hn (e ▸ List.mem_cons_self)) nm_n)⟩)
                                  have bo655248 := gB_any o655248
                                  change G _ _ _ _ _ _ _ _ _ _ _
                                  refine G_widen (cs' := (16 * (o655246.toInt - g654814.toInt)).toNat) (sl' := (256 * (o655246.toInt - g654814.toInt)).toNat) (by omega) (by omega) ?_
                                  refine G_goto 247 dr_cX14_next_239 (by decide +kernel) ?_
                                  exact G_vretA dr_cX14_next_247 rfl (show (16 * (o655246.toInt - g654814.toInt)).toNat ≤ ((16 * (p653731.toInt - p653732.toInt)).toNat) by omega) (show (256 * (o655246.toInt - g654814.toInt)).toNat ≤ ((256 * (p653731.toInt - p653732.toInt)).toNat) by omega) ⟨P653727, F655253, o655246, o655247, g654814, o655248, (D.2 1000 32), rfl, rfl, (rSub_rf (P := P653727)), hfr655258, he655256, he655257, (by omega), (by omega), bo655246, (gB_w bo655247 (by decide) (by decide)), (gB_w bg654814' (by decide) (by decide)), (by have qa0 : Int32.toInt 1 = 1 := (by decide); omega), (Or.inr (by omega)), (by have qa0 : Int32.toInt 1 = 1 := (by decide); omega), (by first | exact tP_no (by omega) (by omega) | assumption), x655252⟩
                              · have r655259 : o655208.toInt ≠ 0 := gj_neq hc655210 (show Int32.toInt 0 = 0 by decide)
                                have bo655208' : gB o655208 1 1 := ⟨by omega, by omega⟩
                                have bi655260 : gB z655039 97 122 := isP_1 x655209 (by omega)
                                refine G_aload_n 2 dr_cX14_next_216 rfl ?_
                                refine Gw_callV (As := []) (gV_ok D I) (cp_651181_Reader_word l hl0 D I P653727 F655084 q653729 q653730 p653731 g654814 p653733 g654814 p653735 p653733 (D.2 1000 32) p653738 p653739 p653740 qo653741 qo653742 p653743 f653744 hmq653729 hmq653730 he655088 he655087 (gB_w bp653731'' (by decide) (by decide)) (gB_w bg654814' (by decide) (by decide)) bp653733 (gB_w bg654814' (by decide) (by decide)) bp653733 bp653738 bp653739 bp653740 bp653743 bf653744 (by have qa0 : Int32.toInt 1 = 1 := (by decide); omega) (by have qa0 : Int32.toInt 1 = 1 := (by decide); omega) (by first | assumption | exact cLt_of (by assumption) (by omega) (by omega)) x653746 x653747) dr_cX14_next_217 ⟨wr_7_225, wr_1_32, wr_7_228, by decide, rfl, (Nat.le_of_ble_eq_true rfl), (Nat.le_of_ble_eq_true rfl)⟩ wr_7_227 wr_p_76 hmq653729 he655088 rfl (show 0 + ((16 * (p653731.toInt - g654814.toInt)).toNat) ≤ ((16 * (p653731.toInt - p653732.toInt)).toNat) by first | omega | decide) (show 0 + ((256 * (p653731.toInt - g654814.toInt)).toNat) ≤ ((256 * (p653731.toInt - p653732.toInt)).toNat) by first | omega | decide) (Nat.le_of_ble_eq_true rfl) (fun r655264 w655265 dc655261 ds655262 hp655263 => ?_) (fun _ _ _ _ _ z => z.elim)
                                obtain ⟨P655274, F655275, o655266, o655267, o655268, q655269, rfl, rfl, hsb655276, hfr655277, he655278, he655279, hdc, hds, bo655266, bo655267, x655270, x655271, x655272, x655273⟩ := hp655263
                                have hm655280 : q653729 ∈ P655274 := hsb655276 q653729 hmq653729
                                have hm655281 : q653730 ∈ P655274 := hsb655276 q653730 hmq653730
                                have hsb655282 : rSub P653727 P655274 := rSub_tr (rSub_rf (P := P653727)) hsb655276
                                have hfr655283 : rFr [q653729] P653727 F653728 F655275 := rFr_call (rSub_rf (P := P653727)) hfr655089 hfr655277 (fun b hb hn => ⟨(nm_c (fun e => hn (e ▸ List.mem_cons_self)) nm_n), (nm_c (fun e => hn (e ▸ List.mem_cons_self)) nm_n)⟩)
                                have bo655268 := gB_any o655268
                                change G _ _ _ _ _ _ _ _ _ _ _
                                refine G_widen (cs' := (16 * (o655266.toInt - g654814.toInt)).toNat) (sl' := (256 * (o655266.toInt - g654814.toInt)).toNat) (by omega) (by omega) ?_
                                refine G_goto 247 dr_cX14_next_220 (by decide +kernel) ?_
                                exact G_vretA dr_cX14_next_247 rfl (show (16 * (o655266.toInt - g654814.toInt)).toNat ≤ ((16 * (p653731.toInt - p653732.toInt)).toNat) by omega) (show (256 * (o655266.toInt - g654814.toInt)).toNat ≤ ((256 * (p653731.toInt - p653732.toInt)).toNat) by omega) ⟨P655274, F655275, o655266, o655267, g654814, o655268, q655269, rfl, rfl, hsb655282, hfr655283, he655278, he655279, (by omega), (by omega), bo655266, (gB_w bo655267 (by decide) (by decide)), (gB_w bg654814' (by decide) (by decide)), (by have qa0 : Int32.toInt 1 = 1 := (by decide); omega), (Or.inr (by omega)), (by have qa0 : Int32.toInt 1 = 1 := (by decide); omega), x655272, x655273⟩
                  · have r655284 : g654814.toInt = p653731.toInt := gC_eq hc655090
                    have bg654814'' : gB g654814 1 8191 := ⟨by omega, by omega⟩
                    have bp653731'' : gB p653731 1 8191 := ⟨by omega, by omega⟩
                    refine G_aload_n 1 dr_cX14_next_135 rfl ?_
                    refine G_iconst 0 dr_cX14_next_136 (by decide +kernel) ?_
                    refine Gp_put 3 hmq653729 he655088 dr_cX14_next_137 (gk_X14 D I) (Nat.le_of_ble_eq_true rfl) wr_9_39 rfl rfl rfl (Nat.le_of_ble_eq_true rfl) (fun F655285 e655286 n655287 => ?_)
                    have he655288 : F655285 q653730 = .inl (I .byte, 8192, .inl f653744) := (n655287 q653730 (rn_ao he655087 he655088)).trans he655087
                    have he655289 : F655285 q653729 = .inr (19, [.ref q653730, .int p653731, .int g654814, .int 0, .int g654814, .int p653735, .int p653733, .ref (D.2 1000 32), .int p653738, .int p653739, .int p653740, .ref qo653741, .ref qo653742, .int p653743]) := e655286
                    have hfr655290 : rFr [q653729] P653727 F653728 F655285 := rFr_put' List.mem_cons_self hfr655089 n655287
                    exact G_vretA dr_cX14_next_140 rfl (show 0 ≤ ((16 * (p653731.toInt - p653732.toInt)).toNat) by omega) (show 0 ≤ ((256 * (p653731.toInt - p653732.toInt)).toNat) by omega) ⟨P653727, F655285, g654814, 0, g654814, p653735, (D.2 1000 32), rfl, rfl, (rSub_rf (P := P653727)), hfr655290, he655289, he655288, (by omega), (by omega), (gB_w bg654814'' (by decide) (by decide)), (gB_w (gBl (show Int32.toInt 0 = 0 by decide)) (by decide) (by decide)), (gB_w bg654814'' (by decide) (by decide)), (by have qa0 : Int32.toInt 0 = 0 := (by decide); omega), (Or.inl (by decide)), (by have qa0 : Int32.toInt 0 = 0 := (by decide); omega), (tP_no (by decide) (by decide)), (vP_no (by decide) (by decide))⟩
                · have r655291 : z655039.toInt = 32 := gj_eq hc655075 (show Int32.toInt 32 = 32 by decide)
                  have bz655039' : gB z655039 32 32 := ⟨by omega, by omega⟩
                  refine G_aload_n 1 dr_cX14_next_97 rfl ?_
                  refine G_dup dr_cX14_next_98 rfl ?_
                  refine Gp_get 2 hmq653729 he654816 dr_cX14_next_99 (gk_X14 D I) (Nat.le_of_ble_eq_true rfl) wr_9_38 rfl ?_
                  refine G_iconst 1 dr_cX14_next_102 (by decide +kernel) ?_
                  refine G_iadd dr_cX14_next_103 (G_nam fun z655292 hz655292 => ?_)
                  have ez655292 : z655292.toInt = g654814.toInt + 1 := by rw [gI_add hz655292 bg654814' (gBl (show Int32.toInt 1 = 1 by decide)) (by decide) (by decide), show Int32.toInt 1 = 1 from by decide]
                  have bz655292 : gB z655292 1 8192 := gB_add (gI_add hz655292 bg654814' (gBl (show Int32.toInt 1 = 1 by decide)) (by decide) (by decide)) bg654814' (gBl (show Int32.toInt 1 = 1 by decide)) (by decide) (by decide)
                  refine Gp_put 2 hmq653729 he654816 dr_cX14_next_104 (gk_X14 D I) (Nat.le_of_ble_eq_true rfl) wr_9_38 rfl rfl rfl (Nat.le_of_ble_eq_true rfl) (fun F655293 e655294 n655295 => ?_)
                  have he655296 : F655293 q653730 = .inl (I .byte, 8192, .inl f653744) := (n655295 q653730 (rn_ao he654817 he654816)).trans he654817
                  have he655297 : F655293 q653729 = .inr (19, [.ref q653730, .int p653731, .int z655292, .int p653733, .int p653734, .int p653735, .int p653733, .ref qo653737, .int p653738, .int p653739, .int p653740, .ref qo653741, .ref qo653742, .int p653743]) := e655294
                  have hfr655298 : rFr [q653729] P653727 F653728 F655293 := rFr_put' List.mem_cons_self hfr654818 n655295
                  have x655299 : g654814.toInt < z655292.toInt := by first | omega | exact chNe (a := g654814) (b := z655292) (by assumption) (by assumption) (by omega) (by omega)
                  refine G_goto 8 dr_cX14_next_107 (by decide +kernel) ?_
                  refine G_lv (L' := [(0, .ref q653729)]) [1] rfl ?_
                  exact ih8_654820 F655293 z655292 (gB_w bz655292 (by decide) (by decide)) hfr655298 he655297 he655296 (by omega) (by omega) (by omega)
        · have r655300 : z655039.toInt = 59 := gj_eq hc655040 (show Int32.toInt 59 = 59 by decide)
          have bz655039' : gB z655039 59 59 := ⟨by omega, by omega⟩
          have hlp35_655337 : ∀ (n35_655337 : Nat) (F655331 : Nat → va_E) (g655330 : Int32), gB g655330 0 8192 → rFr [q653729] P653727 F653728 F655331 → F655331 q653729 = .inr (19, [.ref q653730, .int p653731, .int g655330, .int p653733, .int p653734, .int p653735, .int p653733, .ref qo653737, .int p653738, .int p653739, .int p653740, .ref qo653741, .ref qo653742, .int p653743]) → F655331 q653730 = .inl (I .byte, 8192, .inl f653744) → p653732.toInt ≤ g655330.toInt → g655330.toInt ≤ p653731.toInt → g654814.toInt ≤ g655330.toInt → ((p653731.toInt : Int) + 1 - g655330.toInt).toNat < n35_655337 → G (gV D I) l (gRm 7 155 ((16 * (p653731.toInt - p653732.toInt)).toNat) ((256 * (p653731.toInt - p653732.toInt)).toNat)) (gMA (gV D I) (pp_653748_Reader_next D I P653727 F653728 q653729 q653730 p653731 p653732 p653733 p653734 p653735 p653736 qo653737 p653738 p653739 p653740 qo653741 qo653742 p653743 f653744) gNA ((16 * (p653731.toInt - p653732.toInt)).toNat) ((256 * (p653731.toInt - p653732.toInt)).toNat)) ky_653748_Reader_next 35 [(1, .int z655039), (0, .ref q653729)] [] (va_pl P653727 F655331) 0 0 := by
            intro n35_655337
            induction n35_655337 with
            | zero => intro F655331 g655330 bg655330 hfr655334 he655332 he655333 x655335 x655336 x655337 hm35_655337; exact absurd hm35_655337 (Nat.not_lt_zero _)
            | succ n35_655337 ih35_655337 =>
              intro F655331 g655330 bg655330 hfr655334 he655332 he655333 x655335 x655336 x655337 hm35_655337
              refine G_aload_n 1 dr_cX14_next_35 rfl ?_
              refine Gp_get 2 hmq653729 he655332 dr_cX14_next_36 (gk_X14 D I) (Nat.le_of_ble_eq_true rfl) wr_9_38 rfl ?_
              refine G_aload_n 1 dr_cX14_next_39 rfl ?_
              refine Gp_get 1 hmq653729 he655332 dr_cX14_next_40 (gk_X14 D I) (Nat.le_of_ble_eq_true rfl) wr_9_37 rfl ?_
              refine G_icmp_ge 107 dr_cX14_next_43 (by decide +kernel) (fun hc655338 => ?_) (fun hc655338 => ?_)
              · have r655339 : p653731.toInt ≤ g655330.toInt := gC_le hc655338
                have bg655330' : gB g655330 1 8192 := ⟨by omega, by omega⟩
                have x655340 : g654814.toInt < g655330.toInt := by first | omega | exact chNe (a := g654814) (b := g655330) (by assumption) (by assumption) (by omega) (by omega)
                refine G_goto 8 dr_cX14_next_107 (by decide +kernel) ?_
                refine G_lv (L' := [(0, .ref q653729)]) [1] rfl ?_
                exact ih8_654820 F655331 g655330 (gB_w bg655330' (by decide) (by decide)) hfr655334 he655332 he655333 (by omega) (by omega) (by omega)
              · have r655341 : g655330.toInt < p653731.toInt := gC_nle hc655338
                have bg655330' : gB g655330 0 8191 := ⟨by omega, by omega⟩
                refine G_aload_n 1 dr_cX14_next_46 rfl ?_
                refine Gp_get 0 hmq653729 he655332 dr_cX14_next_47 (gk_X14 D I) (Nat.le_of_ble_eq_true rfl) wr_9_36 rfl ?_
                refine G_aload_n 1 dr_cX14_next_50 rfl ?_
                refine Gp_get 2 hmq653729 he655332 dr_cX14_next_51 (gk_X14 D I) (Nat.le_of_ble_eq_true rfl) wr_9_38 rfl ?_
                refine Gp_bald 1 hmq653730 he655333 dr_cX14_next_54 rfl (gB_in bg655330' (by decide) (by decide)) (G_nam fun z655342 hz655342 => ?_)
                have bz655342 : gB z655342 (-128) 127 := by rw [hz655342]; exact bf653744 _
                refine G_bipush 10 dr_cX14_next_55 (by decide +kernel) ?_
                refine G_icmp_eq 107 dr_cX14_next_57 (by decide +kernel) (fun hc655343 => ?_) (fun hc655343 => ?_)
                · have r655344 : z655342.toInt = 10 := gj_eq hc655343 (show Int32.toInt 10 = 10 by decide)
                  have bz655342' : gB z655342 10 10 := ⟨by omega, by omega⟩
                  have x655345 : g654814.toInt < g655330.toInt := by first | omega | exact chNe (a := g654814) (b := g655330) (by assumption) (by assumption) (by omega) (by omega)
                  refine G_goto 8 dr_cX14_next_107 (by decide +kernel) ?_
                  refine G_lv (L' := [(0, .ref q653729)]) [1] rfl ?_
                  exact ih8_654820 F655331 g655330 (gB_w bg655330' (by decide) (by decide)) hfr655334 he655332 he655333 (by omega) (by omega) (by omega)
                · have r655346 : z655342.toInt ≠ 10 := gj_neq hc655343 (show Int32.toInt 10 = 10 by decide)
                  refine G_aload_n 1 dr_cX14_next_60 rfl ?_
                  refine G_dup dr_cX14_next_61 rfl ?_
                  refine Gp_get 2 hmq653729 he655332 dr_cX14_next_62 (gk_X14 D I) (Nat.le_of_ble_eq_true rfl) wr_9_38 rfl ?_
                  refine G_iconst 1 dr_cX14_next_65 (by decide +kernel) ?_
                  refine G_iadd dr_cX14_next_66 (G_nam fun z655347 hz655347 => ?_)
                  have ez655347 : z655347.toInt = g655330.toInt + 1 := by rw [gI_add hz655347 bg655330' (gBl (show Int32.toInt 1 = 1 by decide)) (by decide) (by decide), show Int32.toInt 1 = 1 from by decide]
                  have bz655347 : gB z655347 1 8192 := gB_add (gI_add hz655347 bg655330' (gBl (show Int32.toInt 1 = 1 by decide)) (by decide) (by decide)) bg655330' (gBl (show Int32.toInt 1 = 1 by decide)) (by decide) (by decide)
                  refine Gp_put 2 hmq653729 he655332 dr_cX14_next_67 (gk_X14 D I) (Nat.le_of_ble_eq_true rfl) wr_9_38 rfl rfl rfl (Nat.le_of_ble_eq_true rfl) (fun F655348 e655349 n655350 => ?_)
                  have he655351 : F655348 q653730 = .inl (I .byte, 8192, .inl f653744) := (n655350 q653730 (rn_ao he655333 he655332)).trans he655333
                  have he655352 : F655348 q653729 = .inr (19, [.ref q653730, .int p653731, .int z655347, .int p653733, .int p653734, .int p653735, .int p653733, .ref qo653737, .int p653738, .int p653739, .int p653740, .ref qo653741, .ref qo653742, .int p653743]) := e655349
                  have hfr655353 : rFr [q653729] P653727 F653728 F655348 := rFr_put' List.mem_cons_self hfr655334 n655350
                  refine G_goto 35 dr_cX14_next_70 (by decide +kernel) ?_
                  exact ih35_655337 F655348 z655347 (gB_w bz655347 (by decide) (by decide)) hfr655353 he655352 he655351 (by omega) (by omega) (by omega) (by omega)
          exact hlp35_655337 (((p653731.toInt : Int) + 1 - g654814.toInt).toNat + 1) F654815 g654814 (gB_w bg654814' (by decide) (by decide)) hfr654818 he654816 he654817 (by omega) (by omega) (by omega) (Nat.lt_succ_self _)
  exact hlp8_654820 (((p653731.toInt : Int) + 1 - p653732.toInt).toNat + 1) F653749 p653732 bp653732 hfr653754 he653753 he653752 (by omega) (by omega) (Nat.lt_succ_self _)
