theorem dr_cX14_word_0 : decode cX14_word 0 = .ok (.aload_n 0, 1) := by decide +kernel
theorem dr_cX14_word_1 : decode cX14_word 1 = .ok (.getfield 28, 3) := by decide +kernel
theorem dr_cX14_word_4 : decode cX14_word 4 = .ok (.aload_n 0, 1) := by decide +kernel
theorem dr_cX14_word_5 : decode cX14_word 5 = .ok (.getfield 44, 3) := by decide +kernel
theorem dr_cX14_word_8 : decode cX14_word 8 = .ok (.baload, 1) := by decide +kernel
theorem dr_cX14_word_9 : decode cX14_word 9 = .ok (.istore_n 1, 1) := by decide +kernel
theorem dr_cX14_word_10 : decode cX14_word 10 = .ok (.aload_n 0, 1) := by decide +kernel
theorem dr_cX14_word_11 : decode cX14_word 11 = .ok (.bipush 6, 2) := by decide +kernel
theorem dr_cX14_word_13 : decode cX14_word 13 = .ok (.putfield 38, 3) := by decide +kernel
theorem dr_cX14_word_178 : decode cX14_word 178 = .ok (.new 87, 3) := by decide +kernel
theorem dr_cX14_word_181 : decode cX14_word 181 = .ok (.dup, 1) := by decide +kernel
theorem dr_cX14_word_182 : decode cX14_word 182 = .ok (.invokespecial 89, 3) := by decide +kernel
theorem dr_cX14_word_185 : decode cX14_word 185 = .ok (.astore_n 2, 1) := by decide +kernel
theorem dr_cX14_word_186 : decode cX14_word 186 = .ok (.aload_n 0, 1) := by decide +kernel
theorem dr_cX14_word_187 : decode cX14_word 187 = .ok (.getfield 44, 3) := by decide +kernel
theorem dr_cX14_word_190 : decode cX14_word 190 = .ok (.aload_n 0, 1) := by decide +kernel
theorem dr_cX14_word_191 : decode cX14_word 191 = .ok (.getfield 32, 3) := by decide +kernel
theorem dr_cX14_word_194 : decode cX14_word 194 = .ok (.if_icmp .ge 46, 3) := by decide +kernel
theorem dr_cX14_word_240 : decode cX14_word 240 = .ok (.aload_n 0, 1) := by decide +kernel
theorem dr_cX14_word_241 : decode cX14_word 241 = .ok (.aload_n 2, 1) := by decide +kernel
theorem dr_cX14_word_242 : decode cX14_word 242 = .ok (.invokevirtual 94, 3) := by decide +kernel
theorem dr_cX14_word_245 : decode cX14_word 245 = .ok (.putfield 11, 3) := by decide +kernel
theorem dr_cX14_word_248 : decode cX14_word 248 = .ok (.ldc 98, 2) := by decide +kernel
theorem dr_cX14_word_250 : decode cX14_word 250 = .ok (.new 87, 3) := by decide +kernel
theorem dr_cX14_word_253 : decode cX14_word 253 = .ok (.dup, 1) := by decide +kernel
theorem dr_cX14_word_254 : decode cX14_word 254 = .ok (.invokespecial 89, 3) := by decide +kernel
theorem dr_cX14_word_257 : decode cX14_word 257 = .ok (.ldc 100, 2) := by decide +kernel
theorem dr_cX14_word_259 : decode cX14_word 259 = .ok (.invokevirtual 102, 3) := by decide +kernel
theorem dr_cX14_word_262 : decode cX14_word 262 = .ok (.aload_n 0, 1) := by decide +kernel
theorem dr_cX14_word_263 : decode cX14_word 263 = .ok (.getfield 11, 3) := by decide +kernel
theorem dr_cX14_word_266 : decode cX14_word 266 = .ok (.invokevirtual 102, 3) := by decide +kernel
theorem dr_cX14_word_269 : decode cX14_word 269 = .ok (.ldc 100, 2) := by decide +kernel
theorem dr_cX14_word_271 : decode cX14_word 271 = .ok (.invokevirtual 102, 3) := by decide +kernel
theorem dr_cX14_word_274 : decode cX14_word 274 = .ok (.invokevirtual 94, 3) := by decide +kernel
theorem dr_cX14_word_277 : decode cX14_word 277 = .ok (.invokevirtual 105, 3) := by decide +kernel
theorem dr_cX14_word_280 : decode cX14_word 280 = .ok (.ifCond .lt 8, 3) := by decide +kernel
theorem dr_cX14_word_288 : decode cX14_word 288 = .ok (.return_, 1) := by decide +kernel
theorem dr_cX14_word_283 : decode cX14_word 283 = .ok (.aload_n 0, 1) := by decide +kernel
theorem dr_cX14_word_284 : decode cX14_word 284 = .ok (.iconst 1, 1) := by decide +kernel
theorem dr_cX14_word_285 : decode cX14_word 285 = .ok (.putfield 38, 3) := by decide +kernel
theorem dr_cX14_word_197 : decode cX14_word 197 = .ok (.aload_n 0, 1) := by decide +kernel
theorem dr_cX14_word_198 : decode cX14_word 198 = .ok (.getfield 28, 3) := by decide +kernel
theorem dr_cX14_word_201 : decode cX14_word 201 = .ok (.aload_n 0, 1) := by decide +kernel
theorem dr_cX14_word_202 : decode cX14_word 202 = .ok (.getfield 44, 3) := by decide +kernel
theorem dr_cX14_word_205 : decode cX14_word 205 = .ok (.baload, 1) := by decide +kernel
theorem dr_cX14_word_206 : decode cX14_word 206 = .ok (.invokestatic 54, 3) := by decide +kernel
theorem wr_7_222 : (Jvm.Cond.methodLink "SpillForgeModel$Reader" (54 : Nat) ({ cls := "SpillForgeModel$Reader", name := "isLetter", desc := "(I)Z" } : Jvm.MethodName)) ∈ gw := gw_7 222 rfl rfl
theorem wr_7_224 : (Jvm.Cond.code ({ cls := "SpillForgeModel$Reader", name := "isLetter", desc := "(I)Z" } : Jvm.MethodName) prog_17_method_3_code (1 : Nat) (Option.some Jvm.ClassFile.FieldType.boolean)) ∈ gw := gw_7 224 rfl rfl
theorem wr_7_223 : (Jvm.Cond.static ({ cls := "SpillForgeModel$Reader", name := "isLetter", desc := "(I)Z" } : Jvm.MethodName)) ∈ gw := gw_7 223 rfl rfl
theorem dr_cX14_word_209 : decode cX14_word 209 = .ok (.ifCond .eq 31, 3) := by decide +kernel
theorem dr_cX14_word_212 : decode cX14_word 212 = .ok (.aload_n 2, 1) := by decide +kernel
theorem dr_cX14_word_213 : decode cX14_word 213 = .ok (.aload_n 0, 1) := by decide +kernel
theorem dr_cX14_word_214 : decode cX14_word 214 = .ok (.getfield 28, 3) := by decide +kernel
theorem dr_cX14_word_217 : decode cX14_word 217 = .ok (.aload_n 0, 1) := by decide +kernel
theorem dr_cX14_word_218 : decode cX14_word 218 = .ok (.getfield 44, 3) := by decide +kernel
theorem dr_cX14_word_221 : decode cX14_word 221 = .ok (.baload, 1) := by decide +kernel
theorem dr_cX14_word_222 : decode cX14_word 222 = .ok (.i2c, 1) := by decide +kernel
theorem dr_cX14_word_223 : decode cX14_word 223 = .ok (.invokevirtual 90, 3) := by decide +kernel
theorem dr_cX14_word_226 : decode cX14_word 226 = .ok (.pop, 1) := by decide +kernel
theorem dr_cX14_word_227 : decode cX14_word 227 = .ok (.aload_n 0, 1) := by decide +kernel
theorem dr_cX14_word_228 : decode cX14_word 228 = .ok (.dup, 1) := by decide +kernel
theorem dr_cX14_word_229 : decode cX14_word 229 = .ok (.getfield 44, 3) := by decide +kernel
theorem dr_cX14_word_232 : decode cX14_word 232 = .ok (.iconst 1, 1) := by decide +kernel
theorem dr_cX14_word_233 : decode cX14_word 233 = .ok (.iadd, 1) := by decide +kernel
theorem dr_cX14_word_234 : decode cX14_word 234 = .ok (.putfield 44, 3) := by decide +kernel
theorem dr_cX14_word_237 : decode cX14_word 237 = .ok (.goto (-51), 3) := by decide +kernel
theorem dr_cX14_word_16 : decode cX14_word 16 = .ok (.iload_n 1, 1) := by decide +kernel
theorem dr_cX14_word_17 : decode cX14_word 17 = .ok (.bipush 118, 2) := by decide +kernel
theorem dr_cX14_word_19 : decode cX14_word 19 = .ok (.if_icmp .eq 9, 3) := by decide +kernel
theorem dr_cX14_word_28 : decode cX14_word 28 = .ok (.aload_n 0, 1) := by decide +kernel
theorem dr_cX14_word_29 : decode cX14_word 29 = .ok (.getfield 44, 3) := by decide +kernel
theorem dr_cX14_word_32 : decode cX14_word 32 = .ok (.iconst 1, 1) := by decide +kernel
theorem dr_cX14_word_33 : decode cX14_word 33 = .ok (.iadd, 1) := by decide +kernel
theorem dr_cX14_word_34 : decode cX14_word 34 = .ok (.aload_n 0, 1) := by decide +kernel
theorem dr_cX14_word_35 : decode cX14_word 35 = .ok (.getfield 32, 3) := by decide +kernel
theorem dr_cX14_word_38 : decode cX14_word 38 = .ok (.if_icmp .ge 140, 3) := by decide +kernel
theorem dr_cX14_word_41 : decode cX14_word 41 = .ok (.aload_n 0, 1) := by decide +kernel
theorem dr_cX14_word_42 : decode cX14_word 42 = .ok (.getfield 28, 3) := by decide +kernel
theorem dr_cX14_word_45 : decode cX14_word 45 = .ok (.aload_n 0, 1) := by decide +kernel
theorem dr_cX14_word_46 : decode cX14_word 46 = .ok (.getfield 44, 3) := by decide +kernel
theorem dr_cX14_word_49 : decode cX14_word 49 = .ok (.iconst 1, 1) := by decide +kernel
theorem dr_cX14_word_50 : decode cX14_word 50 = .ok (.iadd, 1) := by decide +kernel
theorem dr_cX14_word_51 : decode cX14_word 51 = .ok (.baload, 1) := by decide +kernel
theorem dr_cX14_word_52 : decode cX14_word 52 = .ok (.invokestatic 50, 3) := by decide +kernel
theorem dr_cX14_word_55 : decode cX14_word 55 = .ok (.ifCond .eq 123, 3) := by decide +kernel
theorem dr_cX14_word_58 : decode cX14_word 58 = .ok (.lconst 0, 1) := by decide +kernel
theorem dr_cX14_word_59 : decode cX14_word 59 = .ok (.lstore_n 2, 1) := by decide +kernel
theorem dr_cX14_word_60 : decode cX14_word 60 = .ok (.aload_n 0, 1) := by decide +kernel
theorem dr_cX14_word_61 : decode cX14_word 61 = .ok (.dup, 1) := by decide +kernel
theorem dr_cX14_word_62 : decode cX14_word 62 = .ok (.getfield 44, 3) := by decide +kernel
theorem dr_cX14_word_65 : decode cX14_word 65 = .ok (.iconst 1, 1) := by decide +kernel
theorem dr_cX14_word_66 : decode cX14_word 66 = .ok (.iadd, 1) := by decide +kernel
theorem dr_cX14_word_67 : decode cX14_word 67 = .ok (.putfield 44, 3) := by decide +kernel
theorem dr_cX14_word_70 : decode cX14_word 70 = .ok (.aload_n 0, 1) := by decide +kernel
theorem dr_cX14_word_71 : decode cX14_word 71 = .ok (.getfield 44, 3) := by decide +kernel
theorem dr_cX14_word_74 : decode cX14_word 74 = .ok (.aload_n 0, 1) := by decide +kernel
theorem dr_cX14_word_75 : decode cX14_word 75 = .ok (.getfield 32, 3) := by decide +kernel
theorem dr_cX14_word_78 : decode cX14_word 78 = .ok (.if_icmp .ge 58, 3) := by decide +kernel
theorem dr_cX14_word_136 : decode cX14_word 136 = .ok (.aload_n 0, 1) := by decide +kernel
theorem dr_cX14_word_137 : decode cX14_word 137 = .ok (.lload_n 2, 1) := by decide +kernel
theorem dr_cX14_word_138 : decode cX14_word 138 = .ok (.l2i, 1) := by decide +kernel
theorem dr_cX14_word_139 : decode cX14_word 139 = .ok (.putfield 80, 3) := by decide +kernel
theorem dr_cX14_word_142 : decode cX14_word 142 = .ok (.lload_n 2, 1) := by decide +kernel
theorem dr_cX14_word_143 : decode cX14_word 143 = .ok (.iload_n 1, 1) := by decide +kernel
theorem dr_cX14_word_144 : decode cX14_word 144 = .ok (.bipush 118, 2) := by decide +kernel
theorem dr_cX14_word_146 : decode cX14_word 146 = .ok (.if_icmp .ne 9, 3) := by decide +kernel
theorem dr_cX14_word_149 : decode cX14_word 149 = .ok (.ldc2_w 83, 3) := by decide +kernel
theorem wr_7_233 : (Jvm.Cond.constantLong "SpillForgeModel$Reader" (83 : Nat) (99 : Int64)) ∈ gw := gw_7 233 rfl rfl
theorem dr_cX14_word_152 : decode cX14_word 152 = .ok (.goto 6, 3) := by decide +kernel
theorem dr_cX14_word_158 : decode cX14_word 158 = .ok (.lcmp, 1) := by decide +kernel
theorem dr_cX14_word_159 : decode cX14_word 159 = .ok (.ifCond .gt 18, 3) := by decide +kernel
theorem dr_cX14_word_177 : decode cX14_word 177 = .ok (.return_, 1) := by decide +kernel
theorem dr_cX14_word_162 : decode cX14_word 162 = .ok (.aload_n 0, 1) := by decide +kernel
theorem dr_cX14_word_163 : decode cX14_word 163 = .ok (.iload_n 1, 1) := by decide +kernel
theorem dr_cX14_word_164 : decode cX14_word 164 = .ok (.bipush 118, 2) := by decide +kernel
theorem dr_cX14_word_166 : decode cX14_word 166 = .ok (.if_icmp .ne 7, 3) := by decide +kernel
theorem dr_cX14_word_169 : decode cX14_word 169 = .ok (.iconst 2, 1) := by decide +kernel
theorem dr_cX14_word_170 : decode cX14_word 170 = .ok (.goto 4, 3) := by decide +kernel
theorem dr_cX14_word_174 : decode cX14_word 174 = .ok (.putfield 38, 3) := by decide +kernel
theorem dr_cX14_word_81 : decode cX14_word 81 = .ok (.aload_n 0, 1) := by decide +kernel
theorem dr_cX14_word_82 : decode cX14_word 82 = .ok (.getfield 28, 3) := by decide +kernel
theorem dr_cX14_word_85 : decode cX14_word 85 = .ok (.aload_n 0, 1) := by decide +kernel
theorem dr_cX14_word_86 : decode cX14_word 86 = .ok (.getfield 44, 3) := by decide +kernel
theorem dr_cX14_word_89 : decode cX14_word 89 = .ok (.baload, 1) := by decide +kernel
theorem dr_cX14_word_90 : decode cX14_word 90 = .ok (.invokestatic 50, 3) := by decide +kernel
theorem dr_cX14_word_93 : decode cX14_word 93 = .ok (.ifCond .eq 43, 3) := by decide +kernel
theorem dr_cX14_word_96 : decode cX14_word 96 = .ok (.lload_n 2, 1) := by decide +kernel
theorem dr_cX14_word_97 : decode cX14_word 97 = .ok (.ldc2_w 68, 3) := by decide +kernel
theorem dr_cX14_word_100 : decode cX14_word 100 = .ok (.lmul, 1) := by decide +kernel
theorem dr_cX14_word_101 : decode cX14_word 101 = .ok (.aload_n 0, 1) := by decide +kernel
theorem dr_cX14_word_102 : decode cX14_word 102 = .ok (.getfield 28, 3) := by decide +kernel
theorem dr_cX14_word_105 : decode cX14_word 105 = .ok (.aload_n 0, 1) := by decide +kernel
theorem dr_cX14_word_106 : decode cX14_word 106 = .ok (.getfield 44, 3) := by decide +kernel
theorem dr_cX14_word_109 : decode cX14_word 109 = .ok (.baload, 1) := by decide +kernel
theorem dr_cX14_word_110 : decode cX14_word 110 = .ok (.i2l, 1) := by decide +kernel
theorem dr_cX14_word_111 : decode cX14_word 111 = .ok (.ladd, 1) := by decide +kernel
theorem dr_cX14_word_112 : decode cX14_word 112 = .ok (.ldc2_w 70, 3) := by decide +kernel
theorem dr_cX14_word_115 : decode cX14_word 115 = .ok (.lsub, 1) := by decide +kernel
theorem dr_cX14_word_116 : decode cX14_word 116 = .ok (.ldc2_w 72, 3) := by decide +kernel
theorem wr_7_231 : (Jvm.Cond.constantLong "SpillForgeModel$Reader" (72 : Nat) (1000000 : Int64)) ∈ gw := gw_7 231 rfl rfl
theorem dr_cX14_word_119 : decode cX14_word 119 = .ok (.invokestatic 74, 3) := by decide +kernel
theorem dr_cX14_word_122 : decode cX14_word 122 = .ok (.lstore_n 2, 1) := by decide +kernel
theorem dr_cX14_word_123 : decode cX14_word 123 = .ok (.aload_n 0, 1) := by decide +kernel
theorem dr_cX14_word_124 : decode cX14_word 124 = .ok (.dup, 1) := by decide +kernel
theorem dr_cX14_word_125 : decode cX14_word 125 = .ok (.getfield 44, 3) := by decide +kernel
theorem dr_cX14_word_128 : decode cX14_word 128 = .ok (.iconst 1, 1) := by decide +kernel
theorem dr_cX14_word_129 : decode cX14_word 129 = .ok (.iadd, 1) := by decide +kernel
theorem dr_cX14_word_130 : decode cX14_word 130 = .ok (.putfield 44, 3) := by decide +kernel
theorem dr_cX14_word_133 : decode cX14_word 133 = .ok (.goto (-63), 3) := by decide +kernel
theorem dr_cX14_word_22 : decode cX14_word 22 = .ok (.iload_n 1, 1) := by decide +kernel
theorem dr_cX14_word_23 : decode cX14_word 23 = .ok (.bipush 98, 2) := by decide +kernel
theorem dr_cX14_word_25 : decode cX14_word 25 = .ok (.if_icmp .ne 153, 3) := by decide +kernel
theorem dr_cX14_word_155 : decode cX14_word 155 = .ok (.ldc2_w 85, 3) := by decide +kernel
theorem wr_7_234 : (Jvm.Cond.constantLong "SpillForgeModel$Reader" (85 : Nat) (39 : Int64)) ∈ gw := gw_7 234 rfl rfl
theorem dr_cX14_word_173 : decode cX14_word 173 = .ok (.iconst 3, 1) := by decide +kernel
abbrev ky_669294_Reader_isLetter : gKey := (cX14_isLetter, 1, "SpillForgeModel$Reader", (some FieldType.boolean), [], "isLetter", fun _ _ => True)
def pp_669294_Reader_isLetter (D : va_G) (I : FieldType → ClassId) (P669291 : List Nat) (F669292 : Nat → va_E) (p669293 : Int32) : Option Value → va_W → Nat → Nat → Prop := fun r w dc ds => ∃ (o669301 : Int32), r = some (.int o669301) ∧ w = va_pl P669291 F669292 ∧ dc ≤ 0 ∧ ds ≤ 0 ∧ gB o669301 0 1 ∧ isP p669293 97 122 o669301 ∧ tr_RReader_isLetter2 p669293 o669301
set_option maxRecDepth 100000 in
set_option maxHeartbeats 4000000 in
theorem cp_669294_Reader_isLetter (l : Launch) (hl0 : l.stackTraces = false) (D : va_G) (I : FieldType → ClassId) (P669291 : List Nat) (F669292 : Nat → va_E) (p669293 : Int32)  : CtA (gV D I) l yX14_isLetter cX14_isLetter 1 (some FieldType.boolean) 0 0 0 0 [.int p669293] (va_pl P669291 F669292) (pp_669294_Reader_isLetter D I P669291 F669292 p669293) gNA := by
  refine CtA_of hl0 (by decide) (Nat.le_of_ble_eq_true rfl) ?_
  have bp669293 := gB_any p669293
  refine G_iload_n 0 dr_cX14_isLetter_0 rfl ?_
  refine G_bipush 97 dr_cX14_isLetter_1 (by decide +kernel) ?_
  refine G_icmp_lt 16 dr_cX14_isLetter_3 (by decide +kernel) (fun hc669295 => ?_) (fun hc669295 => ?_)
  · have r669296 : p669293.toInt < 97 := gj_lt hc669295 (show Int32.toInt 97 = 97 by decide)
    have bp669293' : gB p669293 (-2147483648) 96 := ⟨by omega, by omega⟩
    refine G_iconst 0 dr_cX14_isLetter_16 (by decide +kernel) ?_
    exact G_zretA FieldType.boolean dr_cX14_isLetter_17 rfl rfl (Nat.le_of_ble_eq_true rfl) (Nat.le_of_ble_eq_true rfl) ⟨0, rfl, rfl, (Nat.le_of_ble_eq_true rfl), (Nat.le_of_ble_eq_true rfl), (gB_w (gBl (show Int32.toInt 0 = 0 by decide)) (by decide) (by decide)), (isP_n (by omega)), (fun R c1 c2 c3 => c1 r669296)⟩
  · have r669297 : 97 ≤ p669293.toInt := gj_nlt hc669295 (show Int32.toInt 97 = 97 by decide)
    have bp669293' : gB p669293 97 2147483647 := ⟨by omega, by omega⟩
    refine G_iload_n 0 dr_cX14_isLetter_6 rfl ?_
    refine G_bipush 122 dr_cX14_isLetter_7 (by decide +kernel) ?_
    refine G_icmp_gt 16 dr_cX14_isLetter_9 (by decide +kernel) (fun hc669298 => ?_) (fun hc669298 => ?_)
    · have r669299 : 122 < p669293.toInt := gj_ltL hc669298 (show Int32.toInt 122 = 122 by decide)
      have bp669293'' : gB p669293 123 2147483647 := ⟨by omega, by omega⟩
      refine G_iconst 0 dr_cX14_isLetter_16 (by decide +kernel) ?_
      exact G_zretA FieldType.boolean dr_cX14_isLetter_17 rfl rfl (Nat.le_of_ble_eq_true rfl) (Nat.le_of_ble_eq_true rfl) ⟨0, rfl, rfl, (Nat.le_of_ble_eq_true rfl), (Nat.le_of_ble_eq_true rfl), (gB_w (gBl (show Int32.toInt 0 = 0 by decide)) (by decide) (by decide)), (isP_n (by omega)), (fun R c1 c2 c3 => c2 r669297 r669299)⟩
    · have r669300 : p669293.toInt ≤ 122 := gj_nltL hc669298 (show Int32.toInt 122 = 122 by decide)
      have bp669293'' : gB p669293 97 122 := ⟨by omega, by omega⟩
      refine G_iconst 1 dr_cX14_isLetter_12 (by decide +kernel) ?_
      refine G_goto 17 dr_cX14_isLetter_13 (by decide +kernel) ?_
      exact G_zretA FieldType.boolean dr_cX14_isLetter_17 rfl rfl (Nat.le_of_ble_eq_true rfl) (Nat.le_of_ble_eq_true rfl) ⟨1, rfl, rfl, (Nat.le_of_ble_eq_true rfl), (Nat.le_of_ble_eq_true rfl), (gB_w (gBl (show Int32.toInt 1 = 1 by decide)) (by decide) (by decide)), (isP_y (by omega) (by omega)), (fun R c1 c2 c3 => c3 r669297 r669300)⟩
/- tr_RAbstractStringBuilder_append8: a.0...count, a.0.value.#, a.0.value.[] -/
def tr_RAbstractStringBuilder_append8 (a1 : Int32) (a0_count : Int32) (a0_value_v : Nat → Int32) (a0_value_n : Nat) (o1 : Int32) (o2 : Nat) (o3 : Nat → Int32) : Prop := ∀ R : (Int32) → (Nat) → (Nat → Int32) → Prop,
  (∀ (x1 : Int32) (x2 : Nat) (x3 : Nat → Int32) (x4 : Int32) (x5 : Int32) (x6 : Nat → Int32), x1.toInt = a0_count.toInt + 1 → tr_RAbstractStringBuilder_ensureCapacityInternal2 x1 a0_value_v a0_value_n x2 x3 → tr_RStringLatin1_canEncode a1 (1 : Int32) → x4.toInt = a0_count.toInt + 1 → x5 = a1.toInt8.toInt32 → x6 = upd x3 a0_count.toNatClampNeg (vp_nar .byte x5) → R x4 x2 x6) →
  R o1 o2 o3
abbrev ky_669632_AbstractStringBuilder_append : gKey := (cJ5_append_3fe6f, 2, "java/lang/AbstractStringBuilder", (some (FieldType.object "java/lang/AbstractStringBuilder")), [], "append", fun _ _ => True)
def pp_669632_AbstractStringBuilder_append (D : va_G) (I : FieldType → ClassId) (P669619 : List Nat) (F669620 : Nat → va_E) (q669621 : Nat) (q669622 : Nat) (p669623 : Int32) (p669624 : Int32) (p669625 : Int32) (f669626 : Nat → Int32) (n669627 : Nat) : Option Value → va_W → Nat → Nat → Prop := fun r w dc ds => ∃ (P669697 : List Nat) (F669698 : Nat → va_E) (o669693 : Int32) (q669694 : Nat) (n669695 : Nat) (f669696 : Nat → Int32), r = some (.ref q669621) ∧ w = va_pl P669697 F669698 ∧ rSub P669619 P669697 ∧ rFr [q669622, q669621] P669619 F669620 F669698 ∧ F669698 q669621 = .inr (1, [.ref q669694, .int 0, .int p669624, .int o669693]) ∧ F669698 q669694 = .inl (I .byte, n669695, .inl f669696) ∧ q669694 ∈ P669697 ∧ (q669694 = q669622 ∨ q669694 ∉ P669619) ∧ dc ≤ 1 ∧ ds ≤ 2 * (n669695 - n669627) ∧ gB o669693 1 16777216 ∧ gF f669696 (-128) 127 ∧ o669693.toInt = p669625.toInt + 1 ∧ o669693.toInt ≤ (n669695 : Int) ∧ (n669627 : Int) ≤ (n669695 : Int) ∧ (n669695 : Int) ≤ 2 * o669693.toInt + 16 ∧ (n669695 : Int) ≤ 2 * (n669627 : Int) + 2 ∧ tr_RAbstractStringBuilder_append8 p669623 p669625 f669626 n669627 o669693 n669695 f669696
set_option maxRecDepth 100000 in
set_option maxHeartbeats 4000000 in
theorem cp_669632_AbstractStringBuilder_append (l : Launch) (hl0 : l.stackTraces = false) (D : va_G) (I : FieldType → ClassId) (P669619 : List Nat) (F669620 : Nat → va_E) (q669621 : Nat) (q669622 : Nat) (p669623 : Int32) (p669624 : Int32) (p669625 : Int32) (f669626 : Nat → Int32) (n669627 : Nat) (hmq669621 : q669621 ∈ P669619) (hmq669622 : q669622 ∈ P669619) (heq669621 : F669620 q669621 = .inr (1, [.ref q669622, .int 0, .int p669624, .int p669625])) (heq669622 : F669620 q669622 = .inl (I .byte, n669627, .inl f669626)) (bp669623 : gB p669623 0 255) (bp669624 : gB p669624 0 1) (bp669625 : gB p669625 0 16777216) (bf669626 : gF f669626 (-128) 127) (x669628 : (n669627 : Int) ≤ 8388608 - 100000) (x669629 : p669625.toInt ≤ (n669627 : Int)) (x669630 : (n669627 : Int) ≤ 2 * p669625.toInt + 16) (x669631 : ((n669627 : Int) ≤ 16777216)) : CtA (gV D I) l yJ5_append_3fe6f cJ5_append_3fe6f 2 (some (FieldType.object "java/lang/AbstractStringBuilder")) 4 84 1 (4 * n669627 + 8) [.ref q669621, .int p669623] (va_pl P669619 F669620) (pp_669632_AbstractStringBuilder_append D I P669619 F669620 q669621 q669622 p669623 p669624 p669625 f669626 n669627) gNA := by
  refine CtA_ofF hl0 (by decide +kernel) (Nat.le_of_ble_eq_true rfl) ?_
  refine G_aload_n 0 dr_cJ5_append_3fe6f_0 rfl ?_
  refine G_aload_n 0 dr_cJ5_append_3fe6f_1 rfl ?_
  refine Gp_get 3 hmq669621 heq669621 dr_cJ5_append_3fe6f_2 (gk_J4 D I) (Nat.le_of_ble_eq_true rfl) wr_7_64 rfl ?_
  refine G_iconst 1 dr_cJ5_append_3fe6f_5 (by decide +kernel) ?_
  refine G_iadd dr_cJ5_append_3fe6f_6 (G_nam fun z669633 hz669633 => ?_)
  have ez669633 : z669633.toInt = p669625.toInt + 1 := by rw [gI_add hz669633 bp669625 (gBl (show Int32.toInt 1 = 1 by decide)) (by decide) (by decide), show Int32.toInt 1 = 1 from by decide]
  have bz669633 : gB z669633 1 16777217 := gB_add (gI_add hz669633 bp669625 (gBl (show Int32.toInt 1 = 1 by decide)) (by decide) (by decide)) bp669625 (gBl (show Int32.toInt 1 = 1 by decide)) (by decide) (by decide)
  refine Gw_callVB (As := [.int z669633]) (gV_ok D I) (cp_657891_AbstractStringBuilder_ensureCapacityInternal l hl0 D I P669619 F669620 q669621 q669622 z669633 p669624 p669625 f669626 n669627 hmq669621 hmq669622 heq669621 heq669622 ⟨by omega, by omega⟩ bp669624 bp669625 bf669626 (by have qa0 : Int32.toInt 0 = 0 := (by decide); omega) (by have qa0 : Int32.toInt 0 = 0 := (by decide); omega)) dr_cJ5_append_3fe6f_7 ⟨wr_8_4, wr_1_19, wr_8_7, by decide, rfl, (Nat.le_of_ble_eq_true rfl), (Nat.le_of_ble_eq_true rfl)⟩ wr_8_6 wr_s_0 hmq669621 heq669621 rfl (show 0 + 1 ≤ 1 by first | omega | decide) (show 0 + (2 * n669627 + 2 + z669633.toInt.toNat) ≤ (4 * n669627 + 8) by first | omega | decide) (Nat.le_of_ble_eq_true rfl) (fun r669637 w669638 dc669634 ds669635 hp669636 => ?_) (fun _ _ _ _ _ z => z.elim)
  obtain ⟨P669647, F669648, q669639, n669640, f669641, rfl, rfl, hsb669649, hfr669650, he669651, he669652, hm669653, hq669654, hdc, hds, bf669641, x669642, x669643, x669644, x669645, ht669646⟩ := hp669636
  have hm669655 : q669621 ∈ P669647 := hsb669649 q669621 hmq669621
  have hm669656 : q669622 ∈ P669647 := hsb669649 q669622 hmq669622
  have hor669657 : q669639 = q669622 ∨ q669639 ∉ P669619 := hq669654.elim Or.inl (fun n => Or.inr (fun z => n ((rSub_rf (P := P669619)) _ z)))
  have hsb669658 : rSub P669619 P669647 := rSub_tr (rSub_rf (P := P669619)) hsb669649
  have he669659 : F669648 q669622 = .inl (I .byte, n669627, .inl f669626) := (hfr669650 q669622 hmq669622 (nm_c (rn_ao heq669622 heq669621) nm_n)).trans heq669622
  have hfr669660 : rFr [q669621] P669619 F669620 F669648 := rFr_call (rSub_rf (P := P669619)) (rFr_rf (W := []) (P := P669619) (F := F669620)) hfr669650 (fun b hb hn => ⟨nm_n, (nm_c (fun e => hn (e ▸ List.mem_cons_self)) nm_n)⟩)
  change G _ _ _ _ _ _ _ _ _ _ _
  refine G_widen (cs' := 1) (sl' := 2 * (n669640 - n669627)) (by omega) (by omega) ?_
  refine G_aload_n 0 dr_cJ5_append_3fe6f_10 rfl ?_
  refine Gw_callVB (As := []) (gV_ok D I) (cp_657792_AbstractStringBuilder_isLatin1 l hl0 D I P669647 F669648 q669621 q669639 p669624 p669625 f669641 n669640 hm669655 hm669653 he669651 he669652 bp669624 bp669625 bf669641 (by have qa0 : Int32.toInt 0 = 0 := (by decide); omega)) dr_cJ5_append_3fe6f_11 ⟨wr_8_33, wr_1_19, wr_8_37, by decide, rfl, (Nat.le_of_ble_eq_true rfl), (Nat.le_of_ble_eq_true rfl)⟩ wr_8_34 wr_8_36 hm669655 he669651 rfl (show 1 + 0 ≤ 1 by first | omega | decide) (show 2 * (n669640 - n669627) + 0 ≤ (4 * n669627 + 8) by first | omega | decide) (Nat.le_of_ble_eq_true rfl) (fun r669664 w669665 dc669661 ds669662 hp669663 => ?_) (fun _ _ _ _ _ z => z.elim)
  obtain ⟨rfl, rfl, hdc, hds⟩ := hp669663
  change G _ _ _ _ _ _ _ (.int 1 :: _) _ _ _
  refine G_widen (cs' := 1) (sl' := 2 * (n669640 - n669627) + 0) (by omega) (by omega) ?_
  refine G_if_eq 45 dr_cJ5_append_3fe6f_14 (by decide +kernel) (fun hc => absurd hc (by decide)) (fun _ => ?_)
  refine G_iload_n 1 dr_cJ5_append_3fe6f_17 rfl ?_
  refine Gw_callS (As := [.int p669623]) (gV_ok D I) (cp_657801_StringLatin1_canEncode l hl0 D I P669647 F669648 p669623 (gB_w bp669623 (by decide) (by decide))) dr_cJ5_append_3fe6f_18 ⟨wr_8_38, wr_1_28, wr_8_40, by decide, rfl, (Nat.le_of_ble_eq_true rfl), (Nat.le_of_ble_eq_true rfl)⟩ wr_8_39 (show 1 + 0 ≤ 1 by first | omega | decide) (show 2 * (n669640 - n669627) + 0 + 0 ≤ (4 * n669627 + 8) by first | omega | decide) (Nat.le_of_ble_eq_true rfl) (fun r669669 w669670 dc669666 ds669667 hp669668 => ?_) (fun _ _ _ _ _ z => z.elim)
  rcases hp669668 with ⟨rfl, rfl, hdc, hds, r669671, r669672⟩ | ⟨rfl, rfl, hdc, hds, r669673, r669674⟩
  · exact absurd (show False by omega) not_false
  · change G _ _ _ _ _ _ _ (.int 1 :: _) _ _ _
    refine G_widen (cs' := 1) (sl' := 2 * (n669640 - n669627) + 0 + 0) (by omega) (by omega) ?_
    refine G_if_eq 45 dr_cJ5_append_3fe6f_21 (by decide +kernel) (fun hc => absurd hc (by decide)) (fun _ => ?_)
    refine G_aload_n 0 dr_cJ5_append_3fe6f_24 rfl ?_
    refine Gp_get 0 hm669655 he669651 dr_cJ5_append_3fe6f_25 (gk_J4 D I) (Nat.le_of_ble_eq_true rfl) wr_7_60 rfl ?_
    refine G_aload_n 0 dr_cJ5_append_3fe6f_28 rfl ?_
    refine G_dup dr_cJ5_append_3fe6f_29 rfl ?_
    refine Gp_get 3 hm669655 he669651 dr_cJ5_append_3fe6f_30 (gk_J4 D I) (Nat.le_of_ble_eq_true rfl) wr_7_64 rfl ?_
    refine G_dup_x1 dr_cJ5_append_3fe6f_33 rfl rfl ?_
    refine G_iconst 1 dr_cJ5_append_3fe6f_34 (by decide +kernel) ?_
    refine G_iadd dr_cJ5_append_3fe6f_35 (G_nam fun z669676 hz669676 => ?_)
    have ez669676 : z669676.toInt = p669625.toInt + 1 := by rw [gI_add hz669676 bp669625 (gBl (show Int32.toInt 1 = 1 by decide)) (by decide) (by decide), show Int32.toInt 1 = 1 from by decide]
    have bz669676 : gB z669676 1 16777217 := gB_add (gI_add hz669676 bp669625 (gBl (show Int32.toInt 1 = 1 by decide)) (by decide) (by decide)) bp669625 (gBl (show Int32.toInt 1 = 1 by decide)) (by decide) (by decide)
    refine Gp_put 3 hm669655 he669651 dr_cJ5_append_3fe6f_36 (gk_J4 D I) (Nat.le_of_ble_eq_true rfl) wr_7_64 rfl rfl rfl (Nat.le_of_ble_eq_true rfl) (fun F669677 e669678 n669679 => ?_)
    have he669680 : F669677 q669622 = .inl (I .byte, n669627, .inl f669626) := (n669679 q669622 (rn_ao he669659 he669651)).trans he669659
    have he669681 : F669677 q669639 = .inl (I .byte, n669640, .inl f669641) := (n669679 q669639 (rn_ao he669652 he669651)).trans he669652
    have he669682 : F669677 q669621 = .inr (1, [.ref q669639, .int 0, .int p669624, .int z669676]) := e669678
    have hfr669683 : rFr [q669621] P669619 F669620 F669677 := rFr_put' List.mem_cons_self hfr669660 n669679
    refine G_iload_n 1 dr_cJ5_append_3fe6f_39 rfl ?_
    refine G_i2b dr_cJ5_append_3fe6f_40 (G_nam fun z669684 hz669684 => ?_)
    have bz669684 : gB z669684 (-128) 127 := gB_i2b hz669684
    refine Gp_bast 1 hm669653 he669681 dr_cJ5_append_3fe6f_41 rfl (gB_inr (by omega) (by omega)) (fun F669685 e669686 n669687 => ?_)
    obtain ⟨f669688, hf669688⟩ : ∃ z, z = upd f669641 p669625.toNatClampNeg (vp_nar .byte z669684) := ⟨_, rfl⟩
    rw [← hf669688] at e669686
    have he669690 : F669685 q669621 = .inr (1, [.ref q669639, .int 0, .int p669624, .int z669676]) := (n669687 q669621 (rn_oa he669682 he669681)).trans he669682
    have he669691 : F669685 q669639 = .inl (I .byte, n669640, .inl f669688) := e669686
    have hfr669692 : rFr [q669622, q669621] P669619 F669620 F669685 := rFr_eit hor669657 hfr669683 n669687
    have bf669688 : gF f669688 (-128) 127 := gF_upd hf669688 bf669641 gB_byte
    refine G_goto 75 dr_cJ5_append_3fe6f_42 (by decide +kernel) ?_
    refine G_aload_n 0 dr_cJ5_append_3fe6f_75 rfl ?_
    exact G_aretA (FieldType.object "java/lang/AbstractStringBuilder") dr_cJ5_append_3fe6f_76 rfl (by first | exact Or.inl ⟨_, rfl⟩ | exact Or.inr ⟨_, rfl⟩) (Or.inr ⟨_, rfl⟩) (Nat.le_of_ble_eq_true rfl) (show 2 * (n669640 - n669627) + 0 + 0 ≤ (4 * n669627 + 8) by omega) ⟨P669647, F669685, z669676, q669639, n669640, f669688, rfl, rfl, hsb669658, hfr669692, he669690, he669691, hm669653, hor669657, (Nat.le_of_ble_eq_true rfl), (by omega), ⟨by omega, by omega⟩, bf669688, (by have qa0 : Int32.toInt 0 = 0 := (by decide); omega), (by have qa0 : Int32.toInt 0 = 0 := (by decide); omega), (by have qa0 : Int32.toInt 0 = 0 := (by decide); omega), (by have qa0 : Int32.toInt 0 = 0 := (by decide); omega), (by have qa0 : Int32.toInt 0 = 0 := (by decide); omega), (fun R c1 => c1 z669633 n669640 f669641 z669676 z669684 f669688 ez669633 ht669646 r669674 ez669676 hz669684 hf669688)⟩
/- tr_RStringBuilder_append8: a.0...count, a.0.value.#, a.0.value.[] -/
def tr_RStringBuilder_append8 (a1 : Int32) (a0_count : Int32) (a0_value_v : Nat → Int32) (a0_value_n : Nat) (o1 : Int32) (o2 : Nat) (o3 : Nat → Int32) : Prop := ∀ R : (Int32) → (Nat) → (Nat → Int32) → Prop,
  (∀ (x1 : Int32) (x2 : Nat) (x3 : Nat → Int32), gB x1 1 16777216 → tr_RAbstractStringBuilder_append8 a1 a0_count a0_value_v a0_value_n x1 x2 x3 → R x1 x2 x3) →
  R o1 o2 o3
abbrev ky_669618_StringBuilder_append : gKey := (cJ4_append_cf468, 2, "java/lang/StringBuilder", (some (FieldType.object "java/lang/StringBuilder")), [], "append", fun _ _ => True)
def pp_669618_StringBuilder_append (D : va_G) (I : FieldType → ClassId) (P669605 : List Nat) (F669606 : Nat → va_E) (q669607 : Nat) (q669608 : Nat) (p669609 : Int32) (p669610 : Int32) (p669611 : Int32) (f669612 : Nat → Int32) (n669613 : Nat) : Option Value → va_W → Nat → Nat → Prop := fun r w dc ds => ∃ (P669731 : List Nat) (F669732 : Nat → va_E) (o669727 : Int32) (q669728 : Nat) (n669729 : Nat) (f669730 : Nat → Int32), r = some (.ref q669607) ∧ w = va_pl P669731 F669732 ∧ rSub P669605 P669731 ∧ rFr [q669608, q669607] P669605 F669606 F669732 ∧ F669732 q669607 = .inr (1, [.ref q669728, .int 0, .int p669610, .int o669727]) ∧ F669732 q669728 = .inl (I .byte, n669729, .inl f669730) ∧ q669728 ∈ P669731 ∧ (q669728 = q669608 ∨ q669728 ∉ P669605) ∧ dc ≤ 1 ∧ ds ≤ 2 * (n669729 - n669613) ∧ gB o669727 1 16777216 ∧ gF f669730 (-128) 127 ∧ o669727.toInt = p669611.toInt + 1 ∧ o669727.toInt ≤ (n669729 : Int) ∧ (n669613 : Int) ≤ (n669729 : Int) ∧ (n669729 : Int) ≤ 2 * o669727.toInt + 16 ∧ (n669729 : Int) ≤ 2 * (n669613 : Int) + 2 ∧ tr_RStringBuilder_append8 p669609 p669611 f669612 n669613 o669727 n669729 f669730
set_option maxRecDepth 100000 in
set_option maxHeartbeats 4000000 in
theorem cp_669618_StringBuilder_append (l : Launch) (hl0 : l.stackTraces = false) (D : va_G) (I : FieldType → ClassId) (P669605 : List Nat) (F669606 : Nat → va_E) (q669607 : Nat) (q669608 : Nat) (p669609 : Int32) (p669610 : Int32) (p669611 : Int32) (f669612 : Nat → Int32) (n669613 : Nat) (hmq669607 : q669607 ∈ P669605) (hmq669608 : q669608 ∈ P669605) (heq669607 : F669606 q669607 = .inr (1, [.ref q669608, .int 0, .int p669610, .int p669611])) (heq669608 : F669606 q669608 = .inl (I .byte, n669613, .inl f669612)) (bp669609 : gB p669609 0 255) (bp669610 : gB p669610 0 1) (bp669611 : gB p669611 0 16777216) (bf669612 : gF f669612 (-128) 127) (x669614 : (n669613 : Int) ≤ 8388608 - 100000) (x669615 : p669611.toInt ≤ (n669613 : Int)) (x669616 : (n669613 : Int) ≤ 2 * p669611.toInt + 16) (x669617 : ((n669613 : Int) ≤ 16777216)) : CtA (gV D I) l yJ4_append_cf468 cJ4_append_cf468 2 (some (FieldType.object "java/lang/StringBuilder")) 5 105 1 (4 * n669613 + 8) [.ref q669607, .int p669609] (va_pl P669605 F669606) (pp_669618_StringBuilder_append D I P669605 F669606 q669607 q669608 p669609 p669610 p669611 f669612 n669613) gNA := by
  refine CtA_ofF hl0 (by decide +kernel) (Nat.le_of_ble_eq_true rfl) ?_
  refine G_aload_n 0 dr_cJ4_append_cf468_0 rfl ?_
  refine G_iload_n 1 dr_cJ4_append_cf468_1 rfl ?_
  refine Gw_callSU (As := [.int p669609]) (gV_ok D I) (cp_669632_AbstractStringBuilder_append l hl0 D I P669605 F669606 q669607 q669608 p669609 p669610 p669611 f669612 n669613 hmq669607 hmq669608 heq669607 heq669608 bp669609 bp669610 bp669611 bf669612 (by have qa0 : Int32.toInt 0 = 0 := (by decide); omega) (by have qa0 : Int32.toInt 0 = 0 := (by decide); omega) (by have qa0 : Int32.toInt 0 = 0 := (by decide); omega) (by have qa0 : Int32.toInt 0 = 0 := (by decide); omega)) dr_cJ4_append_cf468_2 ⟨wr_8_1, wr_1_19, wr_8_3, by decide, rfl, (Nat.le_of_ble_eq_true rfl), (Nat.le_of_ble_eq_true rfl)⟩ wr_8_2 wr_11_224 wr_7_73 wr_7_44 (by decide) hmq669607 heq669607 rfl (show 0 + 1 ≤ 1 by first | omega | decide) (show 0 + (4 * n669613 + 8) ≤ (4 * n669613 + 8) by first | omega | decide) (Nat.le_of_ble_eq_true rfl) (fun r669702 w669703 dc669699 ds669700 hp669701 => ?_)
  obtain ⟨P669714, F669715, o669704, q669705, n669706, f669707, rfl, rfl, hsb669716, hfr669717, he669718, he669719, hm669720, hq669721, hdc, hds, bo669704, bf669707, x669708, x669709, x669710, x669711, x669712, ht669713⟩ := hp669701
  have hm669722 : q669607 ∈ P669714 := hsb669716 q669607 hmq669607
  have hm669723 : q669608 ∈ P669714 := hsb669716 q669608 hmq669608
  have hor669724 : q669705 = q669608 ∨ q669705 ∉ P669605 := hq669721.elim Or.inl (fun n => Or.inr (fun z => n ((rSub_rf (P := P669605)) _ z)))
  have hsb669725 : rSub P669605 P669714 := rSub_tr (rSub_rf (P := P669605)) hsb669716
  have hfr669726 : rFr [q669608, q669607] P669605 F669606 F669715 := rFr_call (rSub_rf (P := P669605)) (rFr_rf (W := []) (P := P669605) (F := F669606)) hfr669717 (fun b hb hn => ⟨nm_n, (nm_c (fun e => hn (e ▸ List.mem_cons_self)) (nm_c (fun e => hn (e ▸ (List.mem_cons_of_mem _ List.mem_cons_self))) nm_n))⟩)
  change G _ _ _ _ _ _ _ (.ref q669607 :: _) _ _ _
  refine G_widen (cs' := 1) (sl' := 2 * (n669706 - n669613)) (by omega) (by omega) ?_
  refine G_pop dr_cJ4_append_cf468_5 rfl ?_
  refine G_aload_n 0 dr_cJ4_append_cf468_6 rfl ?_
  exact G_aretA (FieldType.object "java/lang/StringBuilder") dr_cJ4_append_cf468_7 rfl (by first | exact Or.inl ⟨_, rfl⟩ | exact Or.inr ⟨_, rfl⟩) (Or.inr ⟨_, rfl⟩) (Nat.le_of_ble_eq_true rfl) (show 2 * (n669706 - n669613) ≤ (4 * n669613 + 8) by omega) ⟨P669714, F669715, o669704, q669705, n669706, f669707, rfl, rfl, hsb669725, hfr669726, he669718, he669719, hm669720, hor669724, (Nat.le_of_ble_eq_true rfl), (by omega), bo669704, bf669707, (by have qa0 : Int32.toInt 0 = 0 := (by decide); omega), (by have qa0 : Int32.toInt 0 = 0 := (by decide); omega), (by have qa0 : Int32.toInt 0 = 0 := (by decide); omega), (by have qa0 : Int32.toInt 0 = 0 := (by decide); omega), (by have qa0 : Int32.toInt 0 = 0 := (by decide); omega), (fun R c1 => c1 o669704 n669706 f669707 bo669704 ht669713)⟩
/- tl_RReader_word_186: a0_at, a3_count, a3_value_n, a3_value_v; out: a0_at, a3_count, a3_value_n, a3_value_v -/
def tl_RReader_word_186 (a0_n : Int32) (a0_t_v : Nat → Int32) (s1 : Int32) (s2 : Int32) (s3 : Nat) (s4 : Nat → Int32) (k : Nat) (e1 : Int32) (e2 : Int32) (e3 : Nat) (e4 : Nat → Int32) : Prop := ∀ R : (Int32) → (Int32) → (Nat) → (Nat → Int32) → Nat → (Int32) → (Int32) → (Nat) → (Nat → Int32) → Prop,
  (∀ (a0_at_1 : Int32) (a3_count_1 : Int32) (a3_value_n_1 : Nat) (a3_value_v_1 : Nat → Int32), gB a0_at_1 0 8192 → gB a3_count_1 0 16777216 → a0_n.toInt ≤ a0_at_1.toInt → R a0_at_1 a3_count_1 a3_value_n_1 a3_value_v_1 240 a0_at_1 a3_count_1 a3_value_n_1 a3_value_v_1) →
  (∀ (a0_at_1 : Int32) (a3_count_1 : Int32) (a3_value_n_1 : Nat) (a3_value_v_1 : Nat → Int32) (x1 : Int32) (x2 : Int32), gB a0_at_1 0 8192 → gB a3_count_1 0 16777216 → a0_at_1.toInt < a0_n.toInt → x1 = a0_t_v a0_at_1.toNatClampNeg → gB x1 (-128) 127 → gB x2 0 1 → tr_RReader_isLetter2 x1 x2 → x2.toInt = 0 → R a0_at_1 a3_count_1 a3_value_n_1 a3_value_v_1 240 a0_at_1 a3_count_1 a3_value_n_1 a3_value_v_1) →
  (∀ (a0_at_1 : Int32) (a3_count_1 : Int32) (a3_value_n_1 : Nat) (a3_value_v_1 : Nat → Int32) (x1 : Int32) (x2 : Int32) (x3 : Int32) (x4 : Int32) (x5 : Nat) (x6 : Nat → Int32) (x7 : Int32) (k : Nat) (e1 : Int32) (e2 : Int32) (e3 : Nat) (e4 : Nat → Int32), gB a0_at_1 0 8192 → gB a3_count_1 0 16777216 → a0_at_1.toInt < a0_n.toInt → x1 = a0_t_v a0_at_1.toNatClampNeg → gB x1 (-128) 127 → gB x2 0 1 → tr_RReader_isLetter2 x1 x2 → x2.toInt ≠ 0 → x3 = (x1.toUInt32 % 65536).toInt32 → gB x4 1 16777216 → tr_RStringBuilder_append8 x3 a3_count_1 a3_value_v_1 a3_value_n_1 x4 x5 x6 → x7.toInt = a0_at_1.toInt + 1 → R x7 x4 x5 x6 k e1 e2 e3 e4 → R a0_at_1 a3_count_1 a3_value_n_1 a3_value_v_1 k e1 e2 e3 e4) →
  R s1 s2 s3 s4 k e1 e2 e3 e4
/- tl_RReader_word_70: l2, a0_at; out: l2, a0_at -/
def tl_RReader_word_70 (a0_n : Int32) (a0_t_v : Nat → Int32) (s1 : Int64) (s2 : Int32) (k : Nat) (e1 : Int64) (e2 : Int32) : Prop := ∀ R : (Int64) → (Int32) → Nat → (Int64) → (Int32) → Prop,
  (∀ (l2_1 : Int64) (a0_at_1 : Int32), gB a0_at_1 0 8192 → a0_n.toInt ≤ a0_at_1.toInt → R l2_1 a0_at_1 136 l2_1 a0_at_1) →
  (∀ (l2_1 : Int64) (a0_at_1 : Int32) (x1 : Int32) (x2 : Int32), gB a0_at_1 0 8192 → a0_at_1.toInt < a0_n.toInt → x1 = a0_t_v a0_at_1.toNatClampNeg → gB x1 (-128) 127 → gB x2 0 1 → tr_RReader_isDigit2 x1 x2 → x2.toInt = 0 → R l2_1 a0_at_1 136 l2_1 a0_at_1) →
  (∀ (l2_1 : Int64) (a0_at_1 : Int32) (x1 : Int32) (x2 : Int32) (x3 : Int64) (x4 : Int64) (x5 : Int64) (x6 : Int64) (x7 : Int64) (x8 : Int32) (k : Nat) (e1 : Int64) (e2 : Int32), gB a0_at_1 0 8192 → a0_at_1.toInt < a0_n.toInt → x1 = a0_t_v a0_at_1.toNatClampNeg → gB x1 (-128) 127 → gB x2 0 1 → tr_RReader_isDigit2 x1 x2 → x2.toInt ≠ 0 → x3 = l2_1 * (10 : Int64) → x4 = x1.toInt64 → x5 = x3 + x4 → x6 = x5 - (48 : Int64) → tr_RMath_min x6 (1000000 : Int64) x7 → x8.toInt = a0_at_1.toInt + 1 → R x7 x8 k e1 e2 → R l2_1 a0_at_1 k e1 e2) →
  R s1 s2 k e1 e2
/- tl_RReader_word_70_2: l2, a0_at; out: l2, a0_at -/
def tl_RReader_word_70_2 (a0_n : Int32) (a0_t_v : Nat → Int32) (s1 : Int64) (s2 : Int32) (k : Nat) (e1 : Int64) (e2 : Int32) : Prop := ∀ R : (Int64) → (Int32) → Nat → (Int64) → (Int32) → Prop,
  (∀ (l2_1 : Int64) (a0_at_1 : Int32), gB a0_at_1 0 8192 → a0_n.toInt ≤ a0_at_1.toInt → R l2_1 a0_at_1 136 l2_1 a0_at_1) →
  (∀ (l2_1 : Int64) (a0_at_1 : Int32) (x1 : Int32) (x2 : Int32), gB a0_at_1 0 8192 → a0_at_1.toInt < a0_n.toInt → x1 = a0_t_v a0_at_1.toNatClampNeg → gB x1 (-128) 127 → gB x2 0 1 → tr_RReader_isDigit2 x1 x2 → x2.toInt = 0 → R l2_1 a0_at_1 136 l2_1 a0_at_1) →
  (∀ (l2_1 : Int64) (a0_at_1 : Int32) (x1 : Int32) (x2 : Int32) (x3 : Int64) (x4 : Int64) (x5 : Int64) (x6 : Int64) (x7 : Int64) (x8 : Int32) (k : Nat) (e1 : Int64) (e2 : Int32), gB a0_at_1 0 8192 → a0_at_1.toInt < a0_n.toInt → x1 = a0_t_v a0_at_1.toNatClampNeg → gB x1 (-128) 127 → gB x2 0 1 → tr_RReader_isDigit2 x1 x2 → x2.toInt ≠ 0 → x3 = l2_1 * (10 : Int64) → x4 = x1.toInt64 → x5 = x3 + x4 → x6 = x5 - (48 : Int64) → tr_RMath_min x6 (1000000 : Int64) x7 → x8.toInt = a0_at_1.toInt + 1 → R x7 x8 k e1 e2 → R l2_1 a0_at_1 k e1 e2) →
  R s1 s2 k e1 e2
/- tr_RReader_word: a.0...at, a.0...kind, a.0...value -/
def tr_RReader_word (a0_n : Int32) (a0_at : Int32) (a0_value : Int32) (a0_t_v : Nat → Int32) (o1 : Int32) (o2 : Int32) (o3 : Int32) (o4 : gTx) : Prop := ∀ R : (Int32) → (Int32) → (Int32) → (gTx) → Prop,
  (∀ (x1 : Int32) (x2 : Int32) (x3 : Int32) (x4 : Nat) (x5 : Nat → Int32) (x6 : Nat) (x7 : Nat → Int32) (x8 : Int32) (x9 : Nat → Int32) (x10 : Int32) (x11 : Nat) (x12 : Nat → Int32) (x13 : Int32) (x14 : Nat) (x15 : Nat → Int32) (x16 : Nat) (x17 : Nat → Int32) (x18 : Int32), x1 = a0_t_v a0_at.toNatClampNeg → gB x1 (-128) 127 → (((∃ (y1 : Int32), x1.toInt = 118 ∧ y1.toInt = a0_at.toInt + 1 ∧ a0_n.toInt ≤ y1.toInt) ∨ (∃ (y1 : Int32) (y2 : Int32) (y3 : Int32), x1.toInt = 118 ∧ y1.toInt = a0_at.toInt + 1 ∧ y1.toInt < a0_n.toInt ∧ y2 = a0_t_v y1.toNatClampNeg ∧ gB y2 (-128) 127 ∧ gB y3 0 1 ∧ tr_RReader_isDigit2 y2 y3 ∧ y3.toInt = 0) ∨ (x1.toInt ≠ 118 ∧ x1.toInt ≠ 98) ∨ (∃ (y1 : Int32), x1.toInt ≠ 118 ∧ x1.toInt = 98 ∧ y1.toInt = a0_at.toInt + 1 ∧ a0_n.toInt ≤ y1.toInt) ∨ (∃ (y1 : Int32) (y2 : Int32) (y3 : Int32), x1.toInt ≠ 118 ∧ x1.toInt = 98 ∧ y1.toInt = a0_at.toInt + 1 ∧ y1.toInt < a0_n.toInt ∧ y2 = a0_t_v y1.toNatClampNeg ∧ gB y2 (-128) 127 ∧ gB y3 0 1 ∧ tr_RReader_isDigit2 y2 y3 ∧ y3.toInt = 0))) → (tl_RReader_word_186 a0_n a0_t_v a0_at (0 : Int32) 16 (fun _ => 0 : Nat → Int32) 240 x2 x3 x4 x5) → tr_RStringBuilder_toString x3 x5 x4 x6 x7 → gB x8 0 16777216 → (tr_RStringBuilder_append4 sb_35 (0 : Int32) (fun _ => 0) 16 x8 x9) → gB x10 0 16777216 → tr_RStringBuilder_append5 x8 x9 16 x7 x6 x10 x11 x12 → gB x13 0 16777216 → tr_RStringBuilder_append6 sb_35 x10 x12 x11 x13 x14 x15 → tr_RStringBuilder_toString x13 x15 x14 x16 x17 → gB x18 (-2147483646) 16777215 → tr_RString_indexOf sb_34 x17 x16 x18 → x18.toInt < 0 → R x2 (6 : Int32) a0_value (0, fun _ => 0)) →
  (∀ (x1 : Int32) (x2 : Int32) (x3 : Int32) (x4 : Nat) (x5 : Nat → Int32) (x6 : Nat) (x7 : Nat → Int32) (x8 : Int32) (x9 : Nat → Int32) (x10 : Int32) (x11 : Nat) (x12 : Nat → Int32) (x13 : Int32) (x14 : Nat) (x15 : Nat → Int32) (x16 : Nat) (x17 : Nat → Int32) (x18 : Int32), x1 = a0_t_v a0_at.toNatClampNeg → gB x1 (-128) 127 → (((∃ (y1 : Int32), x1.toInt = 118 ∧ y1.toInt = a0_at.toInt + 1 ∧ a0_n.toInt ≤ y1.toInt) ∨ (∃ (y1 : Int32) (y2 : Int32) (y3 : Int32), x1.toInt = 118 ∧ y1.toInt = a0_at.toInt + 1 ∧ y1.toInt < a0_n.toInt ∧ y2 = a0_t_v y1.toNatClampNeg ∧ gB y2 (-128) 127 ∧ gB y3 0 1 ∧ tr_RReader_isDigit2 y2 y3 ∧ y3.toInt = 0) ∨ (x1.toInt ≠ 118 ∧ x1.toInt ≠ 98) ∨ (∃ (y1 : Int32), x1.toInt ≠ 118 ∧ x1.toInt = 98 ∧ y1.toInt = a0_at.toInt + 1 ∧ a0_n.toInt ≤ y1.toInt) ∨ (∃ (y1 : Int32) (y2 : Int32) (y3 : Int32), x1.toInt ≠ 118 ∧ x1.toInt = 98 ∧ y1.toInt = a0_at.toInt + 1 ∧ y1.toInt < a0_n.toInt ∧ y2 = a0_t_v y1.toNatClampNeg ∧ gB y2 (-128) 127 ∧ gB y3 0 1 ∧ tr_RReader_isDigit2 y2 y3 ∧ y3.toInt = 0))) → (tl_RReader_word_186 a0_n a0_t_v a0_at (0 : Int32) 16 (fun _ => 0 : Nat → Int32) 240 x2 x3 x4 x5) → tr_RStringBuilder_toString x3 x5 x4 x6 x7 → gB x8 0 16777216 → (tr_RStringBuilder_append4 sb_35 (0 : Int32) (fun _ => 0) 16 x8 x9) → gB x10 0 16777216 → tr_RStringBuilder_append5 x8 x9 16 x7 x6 x10 x11 x12 → gB x13 0 16777216 → tr_RStringBuilder_append6 sb_35 x10 x12 x11 x13 x14 x15 → tr_RStringBuilder_toString x13 x15 x14 x16 x17 → gB x18 (-2147483646) 16777215 → tr_RString_indexOf sb_34 x17 x16 x18 → 0 ≤ x18.toInt → R x2 (1 : Int32) a0_value (x6, x7)) →
  (∀ (x1 : Int32) (x2 : Int32) (x3 : Int32) (x4 : Int32) (x5 : Int64) (x6 : Int32) (x7 : Int32) (x8 : Int32), x1 = a0_t_v a0_at.toNatClampNeg → gB x1 (-128) 127 → x1.toInt = 118 → x2.toInt = a0_at.toInt + 1 → x2.toInt < a0_n.toInt → x3 = a0_t_v x2.toNatClampNeg → gB x3 (-128) 127 → gB x4 0 1 → tr_RReader_isDigit2 x3 x4 → x4.toInt ≠ 0 → tl_RReader_word_70 a0_n a0_t_v (0 : Int64) x2 136 x5 x6 → x7 = x5.toInt32 → x8 = lg_cmp x5 (99 : Int64) → 0 < x8.toInt → R x6 (6 : Int32) x7 (0, fun _ => 0)) →
  (∀ (x1 : Int32) (x2 : Int32) (x3 : Int32) (x4 : Int32) (x5 : Int64) (x6 : Int32) (x7 : Int32) (x8 : Int32), x1 = a0_t_v a0_at.toNatClampNeg → gB x1 (-128) 127 → x1.toInt = 118 → x2.toInt = a0_at.toInt + 1 → x2.toInt < a0_n.toInt → x3 = a0_t_v x2.toNatClampNeg → gB x3 (-128) 127 → gB x4 0 1 → tr_RReader_isDigit2 x3 x4 → x4.toInt ≠ 0 → tl_RReader_word_70 a0_n a0_t_v (0 : Int64) x2 136 x5 x6 → x7 = x5.toInt32 → x8 = lg_cmp x5 (99 : Int64) → x8.toInt ≤ 0 → R x6 (2 : Int32) x7 (0, fun _ => 0)) →
  (∀ (x1 : Int32) (x2 : Int32) (x3 : Int32) (x4 : Int32) (x5 : Int64) (x6 : Int32) (x7 : Int32) (x8 : Int32), x1 = a0_t_v a0_at.toNatClampNeg → gB x1 (-128) 127 → x1.toInt ≠ 118 → x1.toInt = 98 → x2.toInt = a0_at.toInt + 1 → x2.toInt < a0_n.toInt → x3 = a0_t_v x2.toNatClampNeg → gB x3 (-128) 127 → gB x4 0 1 → tr_RReader_isDigit2 x3 x4 → x4.toInt ≠ 0 → tl_RReader_word_70_2 a0_n a0_t_v (0 : Int64) x2 136 x5 x6 → x7 = x5.toInt32 → x8 = lg_cmp x5 (39 : Int64) → 0 < x8.toInt → R x6 (6 : Int32) x7 (0, fun _ => 0)) →
  (∀ (x1 : Int32) (x2 : Int32) (x3 : Int32) (x4 : Int32) (x5 : Int64) (x6 : Int32) (x7 : Int32) (x8 : Int32), x1 = a0_t_v a0_at.toNatClampNeg → gB x1 (-128) 127 → x1.toInt ≠ 118 → x1.toInt = 98 → x2.toInt = a0_at.toInt + 1 → x2.toInt < a0_n.toInt → x3 = a0_t_v x2.toNatClampNeg → gB x3 (-128) 127 → gB x4 0 1 → tr_RReader_isDigit2 x3 x4 → x4.toInt ≠ 0 → tl_RReader_word_70_2 a0_n a0_t_v (0 : Int64) x2 136 x5 x6 → x7 = x5.toInt32 → x8 = lg_cmp x5 (39 : Int64) → x8.toInt ≤ 0 → R x6 (3 : Int32) x7 (0, fun _ => 0)) →
  R o1 o2 o3 o4
abbrev ky_668950_Reader_word : gKey := (cX14_word, 4, "SpillForgeModel$Reader", none, [], "word", fun _ _ => True)
def pp_668950_Reader_word (D : va_G) (I : FieldType → ClassId) (P668927 : List Nat) (F668928 : Nat → va_E) (q668929 : Nat) (q668930 : Nat) (p668931 : Int32) (p668932 : Int32) (p668933 : Int32) (p668934 : Int32) (p668935 : Int32) (p668936 : Int32) (qo668937 : Nat) (p668938 : Int32) (p668939 : Int32) (p668940 : Int32) (qo668941 : Nat) (qo668942 : Nat) (p668943 : Int32) (f668944 : Nat → Int32) : Option Value → va_W → Nat → Nat → Prop := fun r w dc ds => ∃ (P671575 : List Nat) (F671576 : Nat → va_E) (o671571 : Int32) (o671572 : Int32) (o671573 : Int32) (q671574 : Nat) (xt671577 : gTx), r = none ∧ w = va_pl P671575 F671576 ∧ rSub P668927 P671575 ∧ rFr [q668929] P668927 F668928 F671576 ∧ F671576 q668929 = .inr (19, [.ref q668930, .int p668931, .int o671571, .int o671572, .int p668934, .int o671573, .int p668936, .ref q671574, .int p668938, .int p668939, .int p668940, .ref qo668941, .ref qo668942, .int p668943]) ∧ F671576 q668930 = .inl (I .byte, 8192, .inl f668944) ∧ dc ≤ (16 * (o671571.toInt - p668932.toInt)).toNat ∧ ds ≤ (160 * (o671571.toInt - p668932.toInt)).toNat ∧ gB o671571 0 8192 ∧ gB o671572 1 6 ∧ p668932.toInt < o671571.toInt ∧ o671571.toInt ≤ p668931.toInt ∧ tP I P671575 F671576 o671572 q671574 qo668942 qo668941 xt671577 ∧ vP o671572 o671573 ∧ tr_RReader_word p668931 p668932 p668935 f668944 o671571 o671572 o671573 xt671577
set_option maxRecDepth 100000 in
set_option maxHeartbeats 4000000 in
theorem cp_668950_Reader_word (l : Launch) (hl0 : l.stackTraces = false) (D : va_G) (I : FieldType → ClassId) (P668927 : List Nat) (F668928 : Nat → va_E) (q668929 : Nat) (q668930 : Nat) (p668931 : Int32) (p668932 : Int32) (p668933 : Int32) (p668934 : Int32) (p668935 : Int32) (p668936 : Int32) (qo668937 : Nat) (p668938 : Int32) (p668939 : Int32) (p668940 : Int32) (qo668941 : Nat) (qo668942 : Nat) (p668943 : Int32) (f668944 : Nat → Int32) (hmq668929 : q668929 ∈ P668927) (hmq668930 : q668930 ∈ P668927) (heq668929 : F668928 q668929 = .inr (19, [.ref q668930, .int p668931, .int p668932, .int p668933, .int p668934, .int p668935, .int p668936, .ref qo668937, .int p668938, .int p668939, .int p668940, .ref qo668941, .ref qo668942, .int p668943])) (heq668930 : F668928 q668930 = .inl (I .byte, 8192, .inl f668944)) (bp668931 : gB p668931 0 8192) (bp668932 : gB p668932 0 8192) (bp668933 : gB p668933 0 6) (bp668934 : gB p668934 0 8192) (bp668936 : gB p668936 0 6) (bp668938 : gB p668938 (-1) 8192) (bp668939 : gB p668939 0 4) (bp668940 : gB p668940 0 1000000) (bp668943 : gB p668943 0 1000000) (bf668944 : gF f668944 (-128) 127) (x668945 : p668932.toInt ≤ p668931.toInt) (x668946 : p668932.toInt < p668931.toInt) (x668947 : cLt f668944 p668932) (x668948 : qo668942 ∈ P668927) (x668949 : qo668941 ∈ P668927) : CtA (gV D I) l yX14_word cX14_word 4 none 6 132 ((16 * (p668931.toInt - p668932.toInt)).toNat) ((160 * (p668931.toInt - p668932.toInt)).toNat) [.ref q668929] (va_pl P668927 F668928) (pp_668950_Reader_word D I P668927 F668928 q668929 q668930 p668931 p668932 p668933 p668934 p668935 p668936 qo668937 p668938 p668939 p668940 qo668941 qo668942 p668943 f668944) gNA := by
  refine CtA_of hl0 (by decide) (Nat.le_of_ble_eq_true rfl) ?_
  have bp668935 := gB_any p668935
  refine G_aload_n 0 dr_cX14_word_0 rfl ?_
  refine Gp_get 0 hmq668929 heq668929 dr_cX14_word_1 (gk_X14 D I) (Nat.le_of_ble_eq_true rfl) wr_9_36 rfl ?_
  refine G_aload_n 0 dr_cX14_word_4 rfl ?_
  refine Gp_get 2 hmq668929 heq668929 dr_cX14_word_5 (gk_X14 D I) (Nat.le_of_ble_eq_true rfl) wr_9_38 rfl ?_
  refine Gp_bald 1 hmq668930 heq668930 dr_cX14_word_8 rfl (gB_inr (by omega) (by omega)) (G_nam fun z668951 hz668951 => ?_)
  have bz668951 : gB z668951 (-128) 127 := by rw [hz668951]; exact bf668944 _
  refine G_istore_n (L' := [(1, .int z668951), (0, .ref q668929)]) dr_cX14_word_9 (Nat.le_of_ble_eq_true rfl) rfl ?_
  refine G_aload_n 1 dr_cX14_word_10 rfl ?_
  refine G_bipush 6 dr_cX14_word_11 (by decide +kernel) ?_
  refine Gp_put 3 hmq668929 heq668929 dr_cX14_word_13 (gk_X14 D I) (Nat.le_of_ble_eq_true rfl) wr_9_39 rfl rfl rfl (Nat.le_of_ble_eq_true rfl) (fun F668952 e668953 n668954 => ?_)
  have he668955 : F668952 q668930 = .inl (I .byte, 8192, .inl f668944) := (n668954 q668930 (rn_ao heq668930 heq668929)).trans heq668930
  have he668956 : F668952 q668929 = .inr (19, [.ref q668930, .int p668931, .int p668932, .int 6, .int p668934, .int p668935, .int p668936, .ref qo668937, .int p668938, .int p668939, .int p668940, .ref qo668941, .ref qo668942, .int p668943]) := e668953
  have hfr668957 : rFr [q668929] P668927 F668928 F668952 := rFr_put (rFr_rf (W := []) (P := P668927) (F := F668928)) n668954
  have jn668958 : ((∃ (y1 : Int32), z668951.toInt = 118 ∧ y1.toInt = p668932.toInt + 1 ∧ p668931.toInt ≤ y1.toInt) ∨ (∃ (y1 : Int32) (y2 : Int32) (y3 : Int32), z668951.toInt = 118 ∧ y1.toInt = p668932.toInt + 1 ∧ y1.toInt < p668931.toInt ∧ y2 = f668944 y1.toNatClampNeg ∧ gB y2 (-128) 127 ∧ gB y3 0 1 ∧ tr_RReader_isDigit2 y2 y3 ∧ y3.toInt = 0) ∨ (z668951.toInt ≠ 118 ∧ z668951.toInt ≠ 98) ∨ (∃ (y1 : Int32), z668951.toInt ≠ 118 ∧ z668951.toInt = 98 ∧ y1.toInt = p668932.toInt + 1 ∧ p668931.toInt ≤ y1.toInt) ∨ (∃ (y1 : Int32) (y2 : Int32) (y3 : Int32), z668951.toInt ≠ 118 ∧ z668951.toInt = 98 ∧ y1.toInt = p668932.toInt + 1 ∧ y1.toInt < p668931.toInt ∧ y2 = f668944 y1.toNatClampNeg ∧ gB y2 (-128) 127 ∧ gB y3 0 1 ∧ tr_RReader_isDigit2 y2 y3 ∧ y3.toInt = 0)) → G (gV D I) l (gRm 6 132 ((16 * (p668931.toInt - p668932.toInt)).toNat) ((160 * (p668931.toInt - p668932.toInt)).toNat)) (gMA (gV D I) (pp_668950_Reader_word D I P668927 F668928 q668929 q668930 p668931 p668932 p668933 p668934 p668935 p668936 qo668937 p668938 p668939 p668940 qo668941 qo668942 p668943 f668944) gNA ((16 * (p668931.toInt - p668932.toInt)).toNat) ((160 * (p668931.toInt - p668932.toInt)).toNat)) ky_668950_Reader_word 178 [(1, .int z668951), (0, .ref q668929)] [] (va_pl P668927 F668952) 0 0 := by
    intro hJ668959
    refine G_new [.null, .int 0, .int 0, .int 0] dr_cX14_word_178 (gk_J4 D I) wr_7_235 wr_7_44 wr_1_20 (gfs_J4) (show 0 + 1 ≤ ((16 * (p668931.toInt - p668932.toInt)).toNat) by first | omega | decide) (show 0 + 4 ≤ ((160 * (p668931.toInt - p668932.toInt)).toNat) by first | omega | decide) (fun q668960 => Gp_in (fun P668961 F668962 hq668963 hP668964 e668965 n668966 => ?_))
    refine G_widen (cs' := 1) (sl' := 4) (by omega) (by omega) ?_
    have he668967 : F668962 q668929 = .inr (19, [.ref q668930, .int p668931, .int p668932, .int 6, .int p668934, .int p668935, .int p668936, .ref qo668937, .int p668938, .int p668939, .int p668940, .ref qo668941, .ref qo668942, .int p668943]) := (n668966 q668929 (fun h => hq668963 (h ▸ hmq668929))).trans he668956
    have he668968 : F668962 q668930 = .inl (I .byte, 8192, .inl f668944) := (n668966 q668930 (fun h => hq668963 (h ▸ hmq668930))).trans he668955
    have he668969 : F668962 q668960 = .inr (1, [.null, .int 0, .int 0, .int 0]) := e668965
    have hm668970 : q668929 ∈ P668961 := (hP668964 q668929).mpr (Or.inl hmq668929)
    have hm668971 : q668930 ∈ P668961 := (hP668964 q668930).mpr (Or.inl hmq668930)
    have hm668972 : q668960 ∈ P668961 := (hP668964 q668960).mpr (Or.inr rfl)
    have hq668973 : q668960 ∉ P668927 := fun z => hq668963 ((rSub_rf (P := P668927)) q668960 z)
    have hfr668974 : rFr [q668929] P668927 F668928 F668962 := rFr_new (rSub_rf (P := P668927)) hq668963 hfr668957 n668966
    have hsb668975 : rSub P668927 P668961 := rSub_new (rSub_rf (P := P668927)) hP668964
    refine G_dup dr_cX14_word_181 rfl ?_
    refine Gw_callI (As := []) (gV_ok D I) (cp_658184_StringBuilder_init l hl0 D I P668961 F668962 q668960 0 0 hm668972 he668969 (gB_w (gBl (show Int32.toInt 0 = 0 by decide)) (by decide) (by decide)) (gB_w (gBl (show Int32.toInt 0 = 0 by decide)) (by decide) (by decide))) dr_cX14_word_182 ⟨wr_7_236, wr_1_20, wr_7_47, by decide, rfl, (Nat.le_of_ble_eq_true rfl), (Nat.le_of_ble_eq_true rfl)⟩ wr_7_46 rfl (show 1 + 1 ≤ ((16 * (p668931.toInt - p668932.toInt)).toNat) by first | omega | decide) (show 4 + 16 ≤ ((160 * (p668931.toInt - p668932.toInt)).toNat) by first | omega | decide) (Nat.le_of_ble_eq_true rfl) (fun r668979 w668980 dc668976 ds668977 hp668978 => ?_)
    obtain ⟨P668982, F668983, q668981, rfl, rfl, hsb668984, hfr668985, he668986, he668987, hm668988, hq668989, hdc, hds⟩ := hp668978
    have hm668990 : q668929 ∈ P668982 := hsb668984 q668929 hm668970
    have hm668991 : q668930 ∈ P668982 := hsb668984 q668930 hm668971
    have hm668992 : q668960 ∈ P668982 := hsb668984 q668960 hm668972
    have hq668993 : q668981 ∉ P668927 := fun z => hq668989 (hsb668975 q668981 z)
    have hsb668994 : rSub P668927 P668982 := rSub_tr hsb668975 hsb668984
    have he668995 : F668983 q668929 = .inr (19, [.ref q668930, .int p668931, .int p668932, .int 6, .int p668934, .int p668935, .int p668936, .ref qo668937, .int p668938, .int p668939, .int p668940, .ref qo668941, .ref qo668942, .int p668943]) := (hfr668985 q668929 hm668970 (nm_c (fun h => hq668973 (h ▸ hmq668929)) nm_n)).trans he668967
    have he668996 : F668983 q668930 = .inl (I .byte, 8192, .inl f668944) := (hfr668985 q668930 hm668971 (nm_c (fun h => hq668973 (h ▸ hmq668930)) nm_n)).trans he668968
    have hfr668997 : rFr [q668929] P668927 F668928 F668983 := rFr_call hsb668975 hfr668974 hfr668985 (fun b hb hn => ⟨(nm_c (fun e => hn (e ▸ List.mem_cons_self)) nm_n), (nm_c (fun e => hq668973 (e ▸ hb)) nm_n)⟩)
    change G _ _ _ _ _ _ _ _ _ _ _
    refine G_widen (cs' := 2) (sl' := 20) (by omega) (by omega) ?_
    refine G_astore_n (L' := [(2, .ref q668960), (1, .int z668951), (0, .ref q668929)]) dr_cX14_word_185 (Nat.le_of_ble_eq_true rfl) rfl ?_
    refine G_widen (cs' := 2 + (0 : Int).toNat) (sl' := 4 + 2 * 16) (by omega) (by omega) ?_
    have hlp186_670450 : ∀ (n186_670450 : Nat) (P670440 : List Nat) (F670434 : Nat → va_E) (g670428 : Int32) (g670429 : Int32) (q670430 : Nat) (n670431 : Nat) (f670432 : Nat → Int32), gB g670428 0 8192 → gB g670429 0 16777216 → gF f670432 (-128) 127 → rSub P668927 P670440 → rFr [q668929] P668927 F668928 F670434 → q668929 ∈ P670440 → F670434 q668929 = .inr (19, [.ref q668930, .int p668931, .int g670428, .int 6, .int p668934, .int p668935, .int p668936, .ref qo668937, .int p668938, .int p668939, .int p668940, .ref qo668941, .ref qo668942, .int p668943]) → q668930 ∈ P670440 → F670434 q668930 = .inl (I .byte, 8192, .inl f668944) → q668960 ∈ P670440 → F670434 q668960 = .inr (1, [.ref q670430, .int 0, .int 0, .int g670429]) → q670430 ∈ P670440 → F670434 q670430 = .inl (I .byte, n670431, .inl f670432) → q670430 ∉ P668927 → p668932.toInt ≤ g670428.toInt → g670428.toInt ≤ p668931.toInt → g670429.toInt = g670428.toInt - p668932.toInt → g670429.toInt ≤ (n670431 : Int) → (n670431 : Int) ≤ 2 * g670429.toInt + 16 → (∀ (k : Nat) (e1 : Int32) (e2 : Int32) (e3 : Nat) (e4 : Nat → Int32), tl_RReader_word_186 p668931 f668944 g670428 g670429 n670431 f670432 k e1 e2 e3 e4 → tl_RReader_word_186 p668931 f668944 p668932 (0 : Int32) 16 (fun _ => 0 : Nat → Int32) k e1 e2 e3 e4) → ((8193 : Int) - g670428.toInt).toNat < n186_670450 → G (gV D I) l (gRm 6 132 ((16 * (p668931.toInt - p668932.toInt)).toNat) ((160 * (p668931.toInt - p668932.toInt)).toNat)) (gMA (gV D I) (pp_668950_Reader_word D I P668927 F668928 q668929 q668930 p668931 p668932 p668933 p668934 p668935 p668936 qo668937 p668938 p668939 p668940 qo668941 qo668942 p668943 f668944) gNA ((16 * (p668931.toInt - p668932.toInt)).toNat) ((160 * (p668931.toInt - p668932.toInt)).toNat)) ky_668950_Reader_word 186 [(2, .ref q668960), (1, .int z668951), (0, .ref q668929)] [] (va_pl P670440 F670434) (2 + (g670429.toInt : Int).toNat) (4 + 2 * n670431) := by
      intro n186_670450
      induction n186_670450 with
      | zero => intro P670440 F670434 g670428 g670429 q670430 n670431 f670432 bg670428 bg670429 bf670432 hsb670445 hfr670439 hm670441 he670435 hm670442 he670436 hm670443 he670437 hm670444 he670438 hq670433 x670446 x670447 x670448 x670449 x670450 kt186_670450 hm186_670450; exact absurd hm186_670450 (Nat.not_lt_zero _)
      | succ n186_670450 ih186_670450 =>
        intro P670440 F670434 g670428 g670429 q670430 n670431 f670432 bg670428 bg670429 bf670432 hsb670445 hfr670439 hm670441 he670435 hm670442 he670436 hm670443 he670437 hm670444 he670438 hq670433 x670446 x670447 x670448 x670449 x670450 kt186_670450 hm186_670450
        refine G_aload_n 2 dr_cX14_word_186 rfl ?_
        refine Gp_get 2 hm670441 he670435 dr_cX14_word_187 (gk_X14 D I) (Nat.le_of_ble_eq_true rfl) wr_9_38 rfl ?_
        refine G_aload_n 2 dr_cX14_word_190 rfl ?_
        refine Gp_get 1 hm670441 he670435 dr_cX14_word_191 (gk_X14 D I) (Nat.le_of_ble_eq_true rfl) wr_9_37 rfl ?_
        refine G_icmp_ge 240 dr_cX14_word_194 (by decide +kernel) (fun hc670451 => ?_) (fun hc670451 => ?_)
        · have r670452 : p668931.toInt ≤ g670428.toInt := gC_le hc670451
          have hx670453 : tl_RReader_word_186 p668931 f668944 p668932 (0 : Int32) 16 (fun _ => 0 : Nat → Int32) 240 g670428 g670429 n670431 f670432 := kt186_670450 240 g670428 g670429 n670431 f670432 (fun R c1 c2 c3 => c1 g670428 g670429 n670431 f670432 bg670428 bg670429 r670452)
          have x670454 : p668932.toInt < g670428.toInt := by first | omega | exact cLt_lt x668947 (by assumption) (isP_0 (by assumption) (by omega)) (by omega)
          refine G_aload_n 2 dr_cX14_word_240 rfl ?_
          refine G_aload_n 0 dr_cX14_word_241 rfl ?_
          refine Gw_callV (As := []) (gV_ok D I) (cp_658959_StringBuilder_toString l hl0 D I P670440 F670434 q668960 q670430 0 g670429 f670432 n670431 hm670443 hm670444 he670437 he670438 (gB_w (gBl (show Int32.toInt 0 = 0 by decide)) (by decide) (by decide)) bg670429 bf670432 (by have qa0 : Int32.toInt 0 = 0 := (by decide); have qa1 : Int32.toInt 6 = 6 := (by decide); omega) (by have qa0 : Int32.toInt 0 = 0 := (by decide); have qa1 : Int32.toInt 6 = 6 := (by decide); omega)) dr_cX14_word_242 ⟨wr_8_66, wr_1_20, wr_8_69, by decide, rfl, (Nat.le_of_ble_eq_true rfl), (Nat.le_of_ble_eq_true rfl)⟩ wr_8_67 wr_8_68 hm670443 he670437 rfl (show 2 + (g670429.toInt : Int).toNat + 2 ≤ ((16 * (p668931.toInt - p668932.toInt)).toNat) by first | omega | decide) (show 4 + 2 * n670431 + (g670429.toInt.toNat + 4) ≤ ((160 * (p668931.toInt - p668932.toInt)).toNat) by first | omega | decide) (Nat.le_of_ble_eq_true rfl) (fun r670458 w670459 dc670455 ds670456 hp670457 => ?_) (fun _ _ _ _ _ z => z.elim)
          obtain ⟨P670467, F670468, q670460, q670461, n670462, f670463, rfl, rfl, hsb670469, hfr670470, he670471, he670472, he670473, he670474, hm670475, hq670476, hm670477, hq670478, hdc, hds, bf670463, x670464, x670465, ht670466⟩ := hp670457
          have hm670479 : q668929 ∈ P670467 := hsb670469 q668929 hm670441
          have hm670480 : q668930 ∈ P670467 := hsb670469 q668930 hm670442
          have hm670481 : q668960 ∈ P670467 := hsb670469 q668960 hm670443
          have hm670482 : q670430 ∈ P670467 := hsb670469 q670430 hm670444
          have hq670483 : q670460 ∉ P668927 := fun z => hq670476 (hsb670445 q670460 z)
          have hq670484 : q670461 ∉ P668927 := fun z => hq670478 (hsb670445 q670461 z)
          have hsb670485 : rSub P668927 P670467 := rSub_tr hsb670445 hsb670469
          have he670486 : F670468 q668929 = .inr (19, [.ref q668930, .int p668931, .int g670428, .int 6, .int p668934, .int p668935, .int p668936, .ref qo668937, .int p668938, .int p668939, .int p668940, .ref qo668941, .ref qo668942, .int p668943]) := (hfr670470 q668929 hm670441 nm_n).trans he670435
          have he670487 : F670468 q668930 = .inl (I .byte, 8192, .inl f668944) := (hfr670470 q668930 hm670442 nm_n).trans he670436
          have hfr670488 : rFr [q668929] P668927 F668928 F670468 := rFr_call hsb670445 hfr670439 hfr670470 (fun b hb hn => ⟨(nm_c (fun e => hn (e ▸ List.mem_cons_self)) nm_n), nm_n⟩)
          have hne670489 : q670430 ≠ q670461 := fun h => hq670478 (h ▸ hm670444)
          change G _ _ _ _ _ _ _ (.ref q670460 :: _) _ _ _
          refine G_widen (cs' := 2 + (g670429.toInt : Int).toNat + 2) (sl' := 4 + 2 * n670431 + (g670429.toInt.toNat + 4)) (by omega) (by omega) ?_
          have x670490 : (n670462 : Int) = g670428.toInt - p668932.toInt := by omega
          clear he668955 he668956 hfr668957 he668967 he668968 he668969 hm668970 hm668971 hm668972 hfr668974 hsb668975 hsb668984 hfr668985 he668986 he668987 hm668988 hq668989 hm668990 hm668991 hm668992 hq668993 hsb668994 he668995 he668996 hfr668997 hsb670469 hfr670470 hq670476 hq670478; try clear r668979; try clear w668980; try clear dc668976; try clear ds668977; try clear hp668978; try clear r670458; try clear w670459; try clear dc670455; try clear ds670456; try clear hp670457
          refine Gp_put 7 hm670479 he670486 dr_cX14_word_245 (gk_X14 D I) (Nat.le_of_ble_eq_true rfl) wr_9_43 rfl rfl rfl (Nat.le_of_ble_eq_true rfl) (fun F670491 e670492 n670493 => ?_)
          have he670494 : F670491 q668930 = .inl (I .byte, 8192, .inl f668944) := (n670493 q668930 (rn_ao he670487 he670486)).trans he670487
          have he670495 : F670491 q670460 = .inr (0, [.ref q670461, .int 0, .int 0, .int 0]) := (n670493 q670460 (fun h => hq670483 (h ▸ hmq668929))).trans he670471
          have he670496 : F670491 q668960 = .inr (1, [.ref q670430, .int 0, .int 0, .int g670429]) := (n670493 q668960 (fun h => hq668973 (h ▸ hmq668929))).trans he670472
          have he670497 : F670491 q670430 = .inl (I .byte, n670431, .inl f670432) := (n670493 q670430 (fun h => hq670433 (h ▸ hmq668929))).trans he670473
          have he670498 : F670491 q670461 = .inl (I .byte, n670462, .inl f670463) := (n670493 q670461 (fun h => hq670484 (h ▸ hmq668929))).trans he670474
          have he670499 : F670491 q668929 = .inr (19, [.ref q668930, .int p668931, .int g670428, .int 6, .int p668934, .int p668935, .int p668936, .ref q670460, .int p668938, .int p668939, .int p668940, .ref qo668941, .ref qo668942, .int p668943]) := e670492
          have hfr670500 : rFr [q668929] P668927 F668928 F670491 := rFr_put' List.mem_cons_self hfr670488 n670493
          refine G_widen (cs' := (4 + (g670428.toInt - p668932.toInt) : Int).toNat) (sl' := (40 + 5 * (g670428.toInt - p668932.toInt) : Int).toNat) (by omega) (by omega) ?_
          clear he670471 he670472 he670473 he670474 he670486 he670487 hfr670488
          refine G_ldcK (a := D.2 1000 34) dr_cX14_word_248 (fun _ _ _ h => gx_vk 34 rfl rfl h) ?_
          have hl34_670500 : (sb_34.length : Int) = 25 := rfl
          refine G_new [.null, .int 0, .int 0, .int 0] dr_cX14_word_250 (gk_J4 D I) wr_7_235 wr_7_44 wr_1_20 (gfs_J4) (show (4 + (g670428.toInt - p668932.toInt) : Int).toNat + 1 ≤ ((16 * (p668931.toInt - p668932.toInt)).toNat) by first | omega | decide) (show (40 + 5 * (g670428.toInt - p668932.toInt) : Int).toNat + 4 ≤ ((160 * (p668931.toInt - p668932.toInt)).toNat) by first | omega | decide) (fun q670502 => Gp_in (fun P670503 F670504 hq670505 hP670506 e670507 n670508 => ?_))
          refine G_widen (cs' := (4 + (g670428.toInt - p668932.toInt) : Int).toNat + 1) (sl' := (40 + 5 * (g670428.toInt - p668932.toInt) : Int).toNat + 4) (by omega) (by omega) ?_
          have he670509 : F670504 q668929 = .inr (19, [.ref q668930, .int p668931, .int g670428, .int 6, .int p668934, .int p668935, .int p668936, .ref q670460, .int p668938, .int p668939, .int p668940, .ref qo668941, .ref qo668942, .int p668943]) := (n670508 q668929 (fun h => hq670505 (h ▸ hm670479))).trans he670499
          have he670510 : F670504 q668930 = .inl (I .byte, 8192, .inl f668944) := (n670508 q668930 (fun h => hq670505 (h ▸ hm670480))).trans he670494
          have he670511 : F670504 q670460 = .inr (0, [.ref q670461, .int 0, .int 0, .int 0]) := (n670508 q670460 (fun h => hq670505 (h ▸ hm670475))).trans he670495
          have he670512 : F670504 q668960 = .inr (1, [.ref q670430, .int 0, .int 0, .int g670429]) := (n670508 q668960 (fun h => hq670505 (h ▸ hm670481))).trans he670496
          have he670513 : F670504 q670430 = .inl (I .byte, n670431, .inl f670432) := (n670508 q670430 (fun h => hq670505 (h ▸ hm670482))).trans he670497
          have he670514 : F670504 q670461 = .inl (I .byte, n670462, .inl f670463) := (n670508 q670461 (fun h => hq670505 (h ▸ hm670477))).trans he670498
          have he670515 : F670504 q670502 = .inr (1, [.null, .int 0, .int 0, .int 0]) := e670507
          have hm670516 : q668929 ∈ P670503 := (hP670506 q668929).mpr (Or.inl hm670479)
          have hm670517 : q668930 ∈ P670503 := (hP670506 q668930).mpr (Or.inl hm670480)
          have hm670518 : q668960 ∈ P670503 := (hP670506 q668960).mpr (Or.inl hm670481)
          have hm670519 : q670430 ∈ P670503 := (hP670506 q670430).mpr (Or.inl hm670482)
          have hm670520 : q670460 ∈ P670503 := (hP670506 q670460).mpr (Or.inl hm670475)
          have hm670521 : q670461 ∈ P670503 := (hP670506 q670461).mpr (Or.inl hm670477)
          have hm670522 : q670502 ∈ P670503 := (hP670506 q670502).mpr (Or.inr rfl)
          have hq670523 : q670502 ∉ P668927 := fun z => hq670505 (hsb670485 q670502 z)
          have hfr670524 : rFr [q668929] P668927 F668928 F670504 := rFr_new hsb670485 hq670505 hfr670500 n670508
          have hsb670525 : rSub P668927 P670503 := rSub_new hsb670485 hP670506
          have hne670526 : q668960 ≠ q670502 := fun h => hq670505 (h ▸ hm670481)
          refine G_dup dr_cX14_word_253 rfl ?_
          refine Gw_callI (As := []) (gV_ok D I) (cp_658184_StringBuilder_init l hl0 D I P670503 F670504 q670502 0 0 hm670522 he670515 (gB_w (gBl (show Int32.toInt 0 = 0 by decide)) (by decide) (by decide)) (gB_w (gBl (show Int32.toInt 0 = 0 by decide)) (by decide) (by decide))) dr_cX14_word_254 ⟨wr_7_236, wr_1_20, wr_7_47, by decide, rfl, (Nat.le_of_ble_eq_true rfl), (Nat.le_of_ble_eq_true rfl)⟩ wr_7_46 rfl (show (4 + (g670428.toInt - p668932.toInt) : Int).toNat + 1 + 1 ≤ ((16 * (p668931.toInt - p668932.toInt)).toNat) by first | omega | decide) (show (40 + 5 * (g670428.toInt - p668932.toInt) : Int).toNat + 4 + 16 ≤ ((160 * (p668931.toInt - p668932.toInt)).toNat) by first | omega | decide) (Nat.le_of_ble_eq_true rfl) (fun r670530 w670531 dc670527 ds670528 hp670529 => ?_)
          obtain ⟨P670533, F670534, q670532, rfl, rfl, hsb670535, hfr670536, he670537, he670538, hm670539, hq670540, hdc, hds⟩ := hp670529
          have hm670541 : q668929 ∈ P670533 := hsb670535 q668929 hm670516
          have hm670542 : q668930 ∈ P670533 := hsb670535 q668930 hm670517
          have hm670543 : q668960 ∈ P670533 := hsb670535 q668960 hm670518
          have hm670544 : q670430 ∈ P670533 := hsb670535 q670430 hm670519
          have hm670545 : q670460 ∈ P670533 := hsb670535 q670460 hm670520
          have hm670546 : q670461 ∈ P670533 := hsb670535 q670461 hm670521
          have hm670547 : q670502 ∈ P670533 := hsb670535 q670502 hm670522
          have hq670548 : q670532 ∉ P668927 := fun z => hq670540 (hsb670525 q670532 z)
          have hsb670549 : rSub P668927 P670533 := rSub_tr hsb670525 hsb670535
          have he670550 : F670534 q668929 = .inr (19, [.ref q668930, .int p668931, .int g670428, .int 6, .int p668934, .int p668935, .int p668936, .ref q670460, .int p668938, .int p668939, .int p668940, .ref qo668941, .ref qo668942, .int p668943]) := (hfr670536 q668929 hm670516 (nm_c (fun h => hq670523 (h ▸ hmq668929)) nm_n)).trans he670509
          have he670551 : F670534 q668930 = .inl (I .byte, 8192, .inl f668944) := (hfr670536 q668930 hm670517 (nm_c (fun h => hq670523 (h ▸ hmq668930)) nm_n)).trans he670510
          have he670552 : F670534 q670460 = .inr (0, [.ref q670461, .int 0, .int 0, .int 0]) := (hfr670536 q670460 hm670520 (nm_c (rn_oo he670511 he670515 (by decide)) nm_n)).trans he670511
          have he670553 : F670534 q668960 = .inr (1, [.ref q670430, .int 0, .int 0, .int g670429]) := (hfr670536 q668960 hm670518 (nm_c hne670526 nm_n)).trans he670512
          have he670554 : F670534 q670430 = .inl (I .byte, n670431, .inl f670432) := (hfr670536 q670430 hm670519 (nm_c (rn_ao he670513 he670515) nm_n)).trans he670513
          have he670555 : F670534 q670461 = .inl (I .byte, n670462, .inl f670463) := (hfr670536 q670461 hm670521 (nm_c (rn_ao he670514 he670515) nm_n)).trans he670514
          have hfr670556 : rFr [q668929] P668927 F668928 F670534 := rFr_call hsb670525 hfr670524 hfr670536 (fun b hb hn => ⟨(nm_c (fun e => hn (e ▸ List.mem_cons_self)) nm_n), (nm_c (fun e => hq670523 (e ▸ hb)) nm_n)⟩)
          have hne670557 : q670430 ≠ q670532 := fun h => hq670540 (h ▸ hm670519)
          have hne670558 : q670461 ≠ q670532 := fun h => hq670540 (h ▸ hm670521)
          change G _ _ _ _ _ _ _ _ _ _ _
          refine G_widen (cs' := (4 + (g670428.toInt - p668932.toInt) : Int).toNat + 1 + 1) (sl' := (40 + 5 * (g670428.toInt - p668932.toInt) : Int).toNat + 4 + 16) (by omega) (by omega) ?_
          refine G_ldcK (a := D.2 1000 35) dr_cX14_word_257 (fun _ _ _ h => gx_vk 35 rfl rfl h) ?_
          have hl35_670558 : (sb_35.length : Int) = 1 := rfl
          refine Gw_callV (As := [.ref (D.2 1000 35)]) (gV_ok D I) (cp_658486_StringBuilder_append l hl0 D I P670533 F670534 q670502 q670532 (D.2 1000 35) (D.2 1001 35) sb_35 0 0 (fun _ => 0) 16 hm670547 hm670539 he670537 he670538 (gx_sc 35 rfl rfl) (by omega) (by decide +kernel) (gB_w (gBl (show Int32.toInt 0 = 0 by decide)) (by decide) (by decide)) (gB_w (gBl (show Int32.toInt 0 = 0 by decide)) (by decide) (by decide)) (gF_w gF_0 (by decide) (by decide)) (by have qa0 : Int32.toInt 0 = 0 := (by decide); have qa1 : Int32.toInt 6 = 6 := (by decide); omega) (by have qa0 : Int32.toInt 0 = 0 := (by decide); have qa1 : Int32.toInt 6 = 6 := (by decide); omega)) dr_cX14_word_259 ⟨wr_8_195, wr_1_20, wr_8_143, by decide, rfl, (Nat.le_of_ble_eq_true rfl), (Nat.le_of_ble_eq_true rfl)⟩ wr_8_141 wr_8_142 hm670547 he670537 rfl (show (4 + (g670428.toInt - p668932.toInt) : Int).toNat + 1 + 1 + 0 ≤ ((16 * (p668931.toInt - p668932.toInt)).toNat) by first | omega | decide) (show (40 + 5 * (g670428.toInt - p668932.toInt) : Int).toNat + 4 + 16 + 0 ≤ ((160 * (p668931.toInt - p668932.toInt)).toNat) by first | omega | decide) (Nat.le_of_ble_eq_true rfl) (fun r670563 w670564 dc670560 ds670561 hp670562 => ?_) (fun _ _ _ _ _ z => z.elim)
          obtain ⟨F670571, o670565, f670566, rfl, rfl, hfr670573, he670574, he670575, hdc, hds, bo670565, bf670566, x670567, x670568, x670569, ht670570⟩ := hp670562
          have he670576 : F670571 q668929 = .inr (19, [.ref q668930, .int p668931, .int g670428, .int 6, .int p668934, .int p668935, .int p668936, .ref q670460, .int p668938, .int p668939, .int p668940, .ref qo668941, .ref qo668942, .int p668943]) := (hfr670573 q668929 hm670541 (nm_c (fun h => hq670523 (h ▸ hmq668929)) (nm_c (fun h => hq670548 (h ▸ hmq668929)) nm_n))).trans he670550
          have he670577 : F670571 q668930 = .inl (I .byte, 8192, .inl f668944) := (hfr670573 q668930 hm670542 (nm_c (fun h => hq670523 (h ▸ hmq668930)) (nm_c (fun h => hq670548 (h ▸ hmq668930)) nm_n))).trans he670551
          have he670578 : F670571 q670460 = .inr (0, [.ref q670461, .int 0, .int 0, .int 0]) := (hfr670573 q670460 hm670545 (nm_c (rn_oo he670552 he670537 (by decide)) (nm_c (rn_oa he670552 he670538) nm_n))).trans he670552
          have he670579 : F670571 q668960 = .inr (1, [.ref q670430, .int 0, .int 0, .int g670429]) := (hfr670573 q668960 hm670543 (nm_c hne670526 (nm_c (rn_oa he670553 he670538) nm_n))).trans he670553
          have he670580 : F670571 q670430 = .inl (I .byte, n670431, .inl f670432) := (hfr670573 q670430 hm670544 (nm_c (rn_ao he670554 he670537) (nm_c hne670557 nm_n))).trans he670554
          have he670581 : F670571 q670461 = .inl (I .byte, n670462, .inl f670463) := (hfr670573 q670461 hm670546 (nm_c (rn_ao he670555 he670537) (nm_c hne670558 nm_n))).trans he670555
          have hfr670582 : rFr [q668929] P668927 F668928 F670571 := rFr_call hsb670549 hfr670556 hfr670573 (fun b hb hn => ⟨(nm_c (fun e => hn (e ▸ List.mem_cons_self)) nm_n), (nm_c (fun e => hq670523 (e ▸ hb)) (nm_c (fun e => hq670548 (e ▸ hb)) nm_n))⟩)
          rw [show Int32.toInt 0 = 0 from by decide] at x670567
          have bo670565' : gB o670565 1 1 := ⟨by omega, by omega⟩
          rw [show Int32.toInt 0 = 0 from by decide] at x670568
          rw [show Int32.toInt 0 = 0 from by decide] at x670569
          change G _ _ _ _ _ _ _ (.ref q670502 :: _) _ _ _
          refine G_widen (cs' := (4 + (g670428.toInt - p668932.toInt) : Int).toNat + 1 + 1 + 0) (sl' := (40 + 5 * (g670428.toInt - p668932.toInt) : Int).toNat + 4 + 16 + 0) (by omega) (by omega) ?_
          refine G_aload_n 2 dr_cX14_word_262 rfl ?_
          clear hm670475 hm670477 hm670479 hm670480 hm670481 hm670482 hsb670485 he670494 he670495 he670496 he670497 he670498 he670499 hfr670500 he670509 he670510 he670511 he670512 he670513 he670514 he670515 hm670516 hm670517 hm670518 hm670519 hm670520 hm670521 hm670522 hfr670524 hsb670525 hsb670535 hfr670536 he670537 he670538 hq670540 he670550 he670551 he670552 he670553 he670554 he670555 hfr670556 hfr670573; try clear r670530; try clear w670531; try clear dc670527; try clear ds670528; try clear hp670529; try clear r670563; try clear w670564; try clear dc670560; try clear ds670561; try clear hp670562
          refine Gp_get 7 hm670541 he670576 dr_cX14_word_263 (gk_X14 D I) (Nat.le_of_ble_eq_true rfl) wr_9_43 rfl ?_
          refine Gw_callV (As := [.ref q670460]) (gV_ok D I) (cp_658686_StringBuilder_append l hl0 D I P670533 F670571 q670502 q670460 q670532 q670461 0 o670565 0 0 f670566 16 f670463 n670462 hm670547 hm670545 hm670539 hm670546 he670574 he670578 he670575 he670581 (Ne.symm hne670558) (gB_w (gBl (show Int32.toInt 0 = 0 by decide)) (by decide) (by decide)) (gB_w bo670565' (by decide) (by decide)) (gB_w (gBl (show Int32.toInt 0 = 0 by decide)) (by decide) (by decide)) bf670566 bf670463 (by have qa0 : Int32.toInt 0 = 0 := (by decide); have qa1 : Int32.toInt 6 = 6 := (by decide); omega) (by have qa0 : Int32.toInt 0 = 0 := (by decide); have qa1 : Int32.toInt 6 = 6 := (by decide); omega) (by have qa0 : Int32.toInt 0 = 0 := (by decide); have qa1 : Int32.toInt 6 = 6 := (by decide); omega) (by have qa0 : Int32.toInt 0 = 0 := (by decide); have qa1 : Int32.toInt 6 = 6 := (by decide); omega) (by have qa0 : Int32.toInt 0 = 0 := (by decide); have qa1 : Int32.toInt 6 = 6 := (by decide); omega)) dr_cX14_word_266 ⟨wr_8_195, wr_1_20, wr_8_143, by decide, rfl, (Nat.le_of_ble_eq_true rfl), (Nat.le_of_ble_eq_true rfl)⟩ wr_8_141 wr_8_142 hm670547 he670574 rfl (show (4 + (g670428.toInt - p668932.toInt) : Int).toNat + 1 + 1 + 0 + 1 ≤ ((16 * (p668931.toInt - p668932.toInt)).toNat) by first | omega | decide) (show (40 + 5 * (g670428.toInt - p668932.toInt) : Int).toNat + 4 + 16 + 0 + (4 * 16 + 4 + 2 * n670462) ≤ ((160 * (p668931.toInt - p668932.toInt)).toNat) by first | omega | decide) (Nat.le_of_ble_eq_true rfl) (fun r670586 w670587 dc670583 ds670584 hp670585 => ?_) (fun _ _ _ _ _ z => z.elim)
          obtain ⟨P670598, F670599, o670588, q670589, n670590, f670591, rfl, rfl, hsb670600, hfr670601, he670602, he670603, he670604, he670605, hm670606, hq670607, hdc, hds, bo670588, bf670591, x670592, x670593, x670594, x670595, x670596, ht670597⟩ := hp670585
          have hm670608 : q668929 ∈ P670598 := hsb670600 q668929 hm670541
          have hm670609 : q668930 ∈ P670598 := hsb670600 q668930 hm670542
          have hm670610 : q668960 ∈ P670598 := hsb670600 q668960 hm670543
          have hm670611 : q670430 ∈ P670598 := hsb670600 q670430 hm670544
          have hm670612 : q670460 ∈ P670598 := hsb670600 q670460 hm670545
          have hm670613 : q670461 ∈ P670598 := hsb670600 q670461 hm670546
          have hm670614 : q670502 ∈ P670598 := hsb670600 q670502 hm670547
          have hm670615 : q670532 ∈ P670598 := hsb670600 q670532 hm670539
          have hq670616 : q670589 ∉ P668927 := fun z => hq670607.elim (fun e => hq670548 (e ▸ z)) (fun n => n (hsb670549 _ z))
          have hsb670617 : rSub P668927 P670598 := rSub_tr hsb670549 hsb670600
          have he670618 : F670599 q668929 = .inr (19, [.ref q668930, .int p668931, .int g670428, .int 6, .int p668934, .int p668935, .int p668936, .ref q670460, .int p668938, .int p668939, .int p668940, .ref qo668941, .ref qo668942, .int p668943]) := (hfr670601 q668929 hm670541 (nm_c (fun h => hq670523 (h ▸ hmq668929)) (nm_c (fun h => hq670548 (h ▸ hmq668929)) nm_n))).trans he670576
          have he670619 : F670599 q668930 = .inl (I .byte, 8192, .inl f668944) := (hfr670601 q668930 hm670542 (nm_c (fun h => hq670523 (h ▸ hmq668930)) (nm_c (fun h => hq670548 (h ▸ hmq668930)) nm_n))).trans he670577
          have he670620 : F670599 q668960 = .inr (1, [.ref q670430, .int 0, .int 0, .int g670429]) := (hfr670601 q668960 hm670543 (nm_c hne670526 (nm_c (rn_oa he670579 he670575) nm_n))).trans he670579
          have he670621 : F670599 q670430 = .inl (I .byte, n670431, .inl f670432) := (hfr670601 q670430 hm670544 (nm_c (rn_ao he670580 he670574) (nm_c hne670557 nm_n))).trans he670580
          have hfr670622 : rFr [q668929] P668927 F668928 F670599 := rFr_call hsb670549 hfr670582 hfr670601 (fun b hb hn => ⟨(nm_c (fun e => hn (e ▸ List.mem_cons_self)) nm_n), (nm_c (fun e => hq670523 (e ▸ hb)) (nm_c (fun e => hq670548 (e ▸ hb)) nm_n))⟩)
          have hne670623 : q670430 ≠ q670589 := fun e => hq670607.elim (fun e2 => hne670557 (e.trans e2)) (fun n => n (e ▸ hm670544))
          have hne670624 : q670461 ≠ q670589 := fun e => hq670607.elim (fun e2 => hne670558 (e.trans e2)) (fun n => n (e ▸ hm670546))
          have bo670588' : gB o670588 1 16777216 := ⟨by omega, by omega⟩
          change G _ _ _ _ _ _ _ (.ref q670502 :: _) _ _ _
          refine G_widen (cs' := (4 + (g670428.toInt - p668932.toInt) : Int).toNat + 1 + 1 + 0 + 1) (sl' := (40 + 5 * (g670428.toInt - p668932.toInt) : Int).toNat + 4 + 16 + 0 + (2 * (n670590 - 16))) (by omega) (by omega) ?_
          refine G_widen (cs' := (7 + (g670428.toInt - p668932.toInt) : Int).toNat) (sl' := (60 + 10 * (g670428.toInt - p668932.toInt) : Int).toNat) (by omega) (by omega) ?_
          clear hm670539 hm670541 hm670542 hm670543 hm670544 hm670545 hm670546 hm670547 hq670548 hsb670549 hne670557 hne670558 he670574 he670575 bf670566 he670576 he670577 he670578 he670579 he670580 he670581 hfr670582 hsb670600 hfr670601 hq670607 hm670615; try clear x670568; try clear x670569; try clear r670586; try clear w670587; try clear dc670583; try clear ds670584; try clear hp670585
          refine G_ldcK (a := D.2 1000 35) dr_cX14_word_269 (fun _ _ _ h => gx_vk 35 rfl rfl h) ?_
          have hl35_670624 : (sb_35.length : Int) = 1 := rfl
          refine Gw_callV (As := [.ref (D.2 1000 35)]) (gV_ok D I) (cp_658834_StringBuilder_append l hl0 D I P670598 F670599 q670502 q670589 (D.2 1000 35) (D.2 1001 35) sb_35 0 o670588 f670591 n670590 hm670614 hm670606 he670602 he670604 (gx_sc 35 rfl rfl) (by omega) (by decide +kernel) (gB_w (gBl (show Int32.toInt 0 = 0 by decide)) (by decide) (by decide)) (gB_w bo670588' (by decide) (by decide)) bf670591 (by have qa0 : Int32.toInt 0 = 0 := (by decide); have qa1 : Int32.toInt 6 = 6 := (by decide); omega) (by have qa0 : Int32.toInt 0 = 0 := (by decide); have qa1 : Int32.toInt 6 = 6 := (by decide); omega) (by have qa0 : Int32.toInt 0 = 0 := (by decide); have qa1 : Int32.toInt 6 = 6 := (by decide); omega) (by have qa0 : Int32.toInt 0 = 0 := (by decide); have qa1 : Int32.toInt 6 = 6 := (by decide); omega)) dr_cX14_word_271 ⟨wr_8_195, wr_1_20, wr_8_143, by decide, rfl, (Nat.le_of_ble_eq_true rfl), (Nat.le_of_ble_eq_true rfl)⟩ wr_8_141 wr_8_142 hm670614 he670602 rfl (show (7 + (g670428.toInt - p668932.toInt) : Int).toNat + 1 ≤ ((16 * (p668931.toInt - p668932.toInt)).toNat) by first | omega | decide) (show (60 + 10 * (g670428.toInt - p668932.toInt) : Int).toNat + (4 * n670590 + 4 + 2 * sb_35.length) ≤ ((160 * (p668931.toInt - p668932.toInt)).toNat) by first | omega | decide) (Nat.le_of_ble_eq_true rfl) (fun r670629 w670630 dc670626 ds670627 hp670628 => ?_) (fun _ _ _ _ _ z => z.elim)
          obtain ⟨P670641, F670642, o670631, q670632, n670633, f670634, rfl, rfl, hsb670643, hfr670644, he670645, he670646, hm670647, hq670648, hdc, hds, bo670631, bf670634, x670635, x670636, x670637, x670638, x670639, ht670640⟩ := hp670628
          have hm670649 : q668929 ∈ P670641 := hsb670643 q668929 hm670608
          have hm670650 : q668930 ∈ P670641 := hsb670643 q668930 hm670609
          have hm670651 : q668960 ∈ P670641 := hsb670643 q668960 hm670610
          have hm670652 : q670430 ∈ P670641 := hsb670643 q670430 hm670611
          have hm670653 : q670460 ∈ P670641 := hsb670643 q670460 hm670612
          have hm670654 : q670461 ∈ P670641 := hsb670643 q670461 hm670613
          have hm670655 : q670502 ∈ P670641 := hsb670643 q670502 hm670614
          have hm670656 : q670589 ∈ P670641 := hsb670643 q670589 hm670606
          have hq670657 : q670632 ∉ P668927 := fun z => hq670648.elim (fun e => hq670616 (e ▸ z)) (fun n => n (hsb670617 _ z))
          have hsb670658 : rSub P668927 P670641 := rSub_tr hsb670617 hsb670643
          have he670659 : F670642 q668929 = .inr (19, [.ref q668930, .int p668931, .int g670428, .int 6, .int p668934, .int p668935, .int p668936, .ref q670460, .int p668938, .int p668939, .int p668940, .ref qo668941, .ref qo668942, .int p668943]) := (hfr670644 q668929 hm670608 (nm_c (fun h => hq670523 (h ▸ hmq668929)) (nm_c (fun h => hq670616 (h ▸ hmq668929)) nm_n))).trans he670618
          have he670660 : F670642 q668930 = .inl (I .byte, 8192, .inl f668944) := (hfr670644 q668930 hm670609 (nm_c (fun h => hq670523 (h ▸ hmq668930)) (nm_c (fun h => hq670616 (h ▸ hmq668930)) nm_n))).trans he670619
          have he670661 : F670642 q668960 = .inr (1, [.ref q670430, .int 0, .int 0, .int g670429]) := (hfr670644 q668960 hm670610 (nm_c hne670526 (nm_c (rn_oa he670620 he670604) nm_n))).trans he670620
          have he670662 : F670642 q670430 = .inl (I .byte, n670431, .inl f670432) := (hfr670644 q670430 hm670611 (nm_c (rn_ao he670621 he670602) (nm_c hne670623 nm_n))).trans he670621
          have he670663 : F670642 q670460 = .inr (0, [.ref q670461, .int 0, .int 0, .int 0]) := (hfr670644 q670460 hm670612 (nm_c (rn_oo he670603 he670602 (by decide)) (nm_c (rn_oa he670603 he670604) nm_n))).trans he670603
          have he670664 : F670642 q670461 = .inl (I .byte, n670462, .inl f670463) := (hfr670644 q670461 hm670613 (nm_c (rn_ao he670605 he670602) (nm_c hne670624 nm_n))).trans he670605
          have hfr670665 : rFr [q668929] P668927 F668928 F670642 := rFr_call hsb670617 hfr670622 hfr670644 (fun b hb hn => ⟨(nm_c (fun e => hn (e ▸ List.mem_cons_self)) nm_n), (nm_c (fun e => hq670523 (e ▸ hb)) (nm_c (fun e => hq670616 (e ▸ hb)) nm_n))⟩)
          have hne670666 : q670430 ≠ q670632 := fun e => hq670648.elim (fun e2 => hne670623 (e.trans e2)) (fun n => n (e ▸ hm670611))
          have hne670667 : q670461 ≠ q670632 := fun e => hq670648.elim (fun e2 => hne670624 (e.trans e2)) (fun n => n (e ▸ hm670613))
          have bo670631' : gB o670631 2 16777216 := ⟨by omega, by omega⟩
          change G _ _ _ _ _ _ _ (.ref q670502 :: _) _ _ _
          refine G_widen (cs' := (7 + (g670428.toInt - p668932.toInt) : Int).toNat + 1) (sl' := (60 + 10 * (g670428.toInt - p668932.toInt) : Int).toNat + (2 * (n670633 - n670590))) (by omega) (by omega) ?_
          refine G_widen (cs' := (8 + (g670428.toInt - p668932.toInt) : Int).toNat) (sl' := (60 + 15 * (g670428.toInt - p668932.toInt) : Int).toNat) (by omega) (by omega) ?_
          clear he670602 he670603 he670604 he670605 hm670606 bf670591 hm670608 hm670609 hm670610 hm670611 hm670612 hm670613 hm670614 hq670616 hsb670617 he670618 he670619 he670620 he670621 hfr670622 hne670623 hne670624 hsb670643 hfr670644 hq670648 hm670656; try clear r670629; try clear w670630; try clear dc670626; try clear ds670627; try clear hp670628
          refine Gw_callV (As := []) (gV_ok D I) (cp_658959_StringBuilder_toString l hl0 D I P670641 F670642 q670502 q670632 0 o670631 f670634 n670633 hm670655 hm670647 he670645 he670646 (gB_w (gBl (show Int32.toInt 0 = 0 by decide)) (by decide) (by decide)) (gB_w bo670631' (by decide) (by decide)) bf670634 (by have qa0 : Int32.toInt 0 = 0 := (by decide); have qa1 : Int32.toInt 6 = 6 := (by decide); omega) (by have qa0 : Int32.toInt 0 = 0 := (by decide); have qa1 : Int32.toInt 6 = 6 := (by decide); omega)) dr_cX14_word_274 ⟨wr_8_66, wr_1_20, wr_8_69, by decide, rfl, (Nat.le_of_ble_eq_true rfl), (Nat.le_of_ble_eq_true rfl)⟩ wr_8_67 wr_8_68 hm670655 he670645 rfl (show (8 + (g670428.toInt - p668932.toInt) : Int).toNat + 2 ≤ ((16 * (p668931.toInt - p668932.toInt)).toNat) by first | omega | decide) (show (60 + 15 * (g670428.toInt - p668932.toInt) : Int).toNat + (o670631.toInt.toNat + 4) ≤ ((160 * (p668931.toInt - p668932.toInt)).toNat) by first | omega | decide) (Nat.le_of_ble_eq_true rfl) (fun r670671 w670672 dc670668 ds670669 hp670670 => ?_) (fun _ _ _ _ _ z => z.elim)
          obtain ⟨P670680, F670681, q670673, q670674, n670675, f670676, rfl, rfl, hsb670682, hfr670683, he670684, he670685, he670686, he670687, hm670688, hq670689, hm670690, hq670691, hdc, hds, bf670676, x670677, x670678, ht670679⟩ := hp670670
          have hm670692 : q668929 ∈ P670680 := hsb670682 q668929 hm670649
          have hm670693 : q668930 ∈ P670680 := hsb670682 q668930 hm670650
          have hm670694 : q668960 ∈ P670680 := hsb670682 q668960 hm670651
          have hm670695 : q670430 ∈ P670680 := hsb670682 q670430 hm670652
          have hm670696 : q670460 ∈ P670680 := hsb670682 q670460 hm670653
          have hm670697 : q670461 ∈ P670680 := hsb670682 q670461 hm670654
          have hm670698 : q670502 ∈ P670680 := hsb670682 q670502 hm670655
          have hm670699 : q670632 ∈ P670680 := hsb670682 q670632 hm670647
          have hq670700 : q670673 ∉ P668927 := fun z => hq670689 (hsb670658 q670673 z)
          have hq670701 : q670674 ∉ P668927 := fun z => hq670691 (hsb670658 q670674 z)
          have hsb670702 : rSub P668927 P670680 := rSub_tr hsb670658 hsb670682
          have he670703 : F670681 q668929 = .inr (19, [.ref q668930, .int p668931, .int g670428, .int 6, .int p668934, .int p668935, .int p668936, .ref q670460, .int p668938, .int p668939, .int p668940, .ref qo668941, .ref qo668942, .int p668943]) := (hfr670683 q668929 hm670649 nm_n).trans he670659
          have he670704 : F670681 q668930 = .inl (I .byte, 8192, .inl f668944) := (hfr670683 q668930 hm670650 nm_n).trans he670660
          have he670705 : F670681 q668960 = .inr (1, [.ref q670430, .int 0, .int 0, .int g670429]) := (hfr670683 q668960 hm670651 nm_n).trans he670661
          have he670706 : F670681 q670430 = .inl (I .byte, n670431, .inl f670432) := (hfr670683 q670430 hm670652 nm_n).trans he670662
          have he670707 : F670681 q670460 = .inr (0, [.ref q670461, .int 0, .int 0, .int 0]) := (hfr670683 q670460 hm670653 nm_n).trans he670663
          have he670708 : F670681 q670461 = .inl (I .byte, n670462, .inl f670463) := (hfr670683 q670461 hm670654 nm_n).trans he670664
          have hfr670709 : rFr [q668929] P668927 F668928 F670681 := rFr_call hsb670658 hfr670665 hfr670683 (fun b hb hn => ⟨(nm_c (fun e => hn (e ▸ List.mem_cons_self)) nm_n), nm_n⟩)
          have hne670710 : q670460 ≠ q670673 := fun h => hq670689 (h ▸ hm670653)
          have hne670711 : q670430 ≠ q670674 := fun h => hq670691 (h ▸ hm670652)
          have hne670712 : q670461 ≠ q670674 := fun h => hq670691 (h ▸ hm670654)
          have hne670713 : q670632 ≠ q670674 := fun h => hq670691 (h ▸ hm670647)
          change G _ _ _ _ _ _ _ (.ref q670673 :: _) _ _ _
          refine G_widen (cs' := (8 + (g670428.toInt - p668932.toInt) : Int).toNat + 2) (sl' := (60 + 15 * (g670428.toInt - p668932.toInt) : Int).toNat + (o670631.toInt.toNat + 4)) (by omega) (by omega) ?_
          refine G_widen (cs' := (10 + (g670428.toInt - p668932.toInt) : Int).toNat) (sl' := (66 + 16 * (g670428.toInt - p668932.toInt) : Int).toNat) (by omega) (by omega) ?_
          clear hq670523 hne670526 he670645 he670646 hm670647 bf670634 hm670649 hm670650 hm670651 hm670652 hm670653 hm670654 hm670655 hq670657 hsb670658 he670659 he670660 he670661 he670662 he670663 he670664 hfr670665 hne670666 hne670667 hsb670682 hfr670683 he670685 he670686 hq670689 hq670691 hm670698 hm670699 hne670713; try clear r670671; try clear w670672; try clear dc670668; try clear ds670669; try clear hp670670; try clear x670678
          refine Gw_callVk (As := [.ref q670673]) (gV_ok D I) (cp_659418_String_indexOf l hl0 D I P670680 F670681 q670673 q670674 (D.2 1000 34) (D.2 1001 34) sb_34 0 0 f670676 n670675 hm670688 hm670690 he670684 he670687 (gx_sc 34 rfl rfl) (by omega) (by decide +kernel) (gB_w (gBl (show Int32.toInt 0 = 0 by decide)) (by decide) (by decide)) bf670676 (by have qa0 : Int32.toInt 0 = 0 := (by decide); have qa1 : Int32.toInt 6 = 6 := (by decide); omega) (by have qa0 : Int32.toInt 0 = 0 := (by decide); have qa1 : Int32.toInt 6 = 6 := (by decide); omega)) dr_cX14_word_277 ⟨wr_8_196, wr_1_21, wr_8_199, by decide, rfl, (Nat.le_of_ble_eq_true rfl), (Nat.le_of_ble_eq_true rfl)⟩ wr_8_197 wr_8_198 (fun _ _ _ h => ((gx_sc 34 rfl rfl) _ _ _ h).1) (show (10 + (g670428.toInt - p668932.toInt) : Int).toNat + 0 ≤ ((16 * (p668931.toInt - p668932.toInt)).toNat) by first | omega | decide) (show (66 + 16 * (g670428.toInt - p668932.toInt) : Int).toNat + 0 ≤ ((160 * (p668931.toInt - p668932.toInt)).toNat) by first | omega | decide) (Nat.le_of_ble_eq_true rfl) (fun r670717 w670718 dc670714 ds670715 hp670716 => ?_) (fun _ _ _ _ _ z => z.elim)
          obtain ⟨o670719, rfl, rfl, hdc, hds, bo670719, x670720, x670721, ht670722⟩ := hp670716
          change G _ _ _ _ _ _ _ (.int o670719 :: _) _ _ _
          refine G_widen (cs' := (10 + (g670428.toInt - p668932.toInt) : Int).toNat + 0) (sl' := (66 + 16 * (g670428.toInt - p668932.toInt) : Int).toNat + 0) (by omega) (by omega) ?_
          clear he670684 he670687 hm670688 hm670690 bf670676 hq670700 hq670701 hne670710 hne670711 hne670712; try clear r670717; try clear w670718; try clear dc670714; try clear ds670715; try clear hp670716; try clear x670721
          refine G_if_lt 288 dr_cX14_word_280 (by decide +kernel) (fun hc670723 => ?_) (fun hc670723 => ?_)
          · have r670724 : o670719.toInt < 0 := gj_lt hc670723 (show Int32.toInt 0 = 0 by decide)
            have bo670719' : gB o670719 (-2147483646) (-1) := ⟨by omega, by omega⟩
            exact G_vretA dr_cX14_word_288 rfl (show (10 + (g670428.toInt - p668932.toInt) : Int).toNat + 0 ≤ ((16 * (p668931.toInt - p668932.toInt)).toNat) by omega) (show (66 + 16 * (g670428.toInt - p668932.toInt) : Int).toNat + 0 ≤ ((160 * (p668931.toInt - p668932.toInt)).toNat) by omega) ⟨P670680, F670681, g670428, 6, p668935, q670460, (0, fun _ => 0), rfl, rfl, hsb670702, hfr670709, he670703, he670704, (by omega), (by omega), bg670428, (gB_w (gBl (show Int32.toInt 6 = 6 by decide)) (by decide) (by decide)), (by have qa0 : Int32.toInt 0 = 0 := (by decide); have qa1 : Int32.toInt 6 = 6 := (by decide); omega), (by have qa0 : Int32.toInt 0 = 0 := (by decide); have qa1 : Int32.toInt 6 = 6 := (by decide); omega), (tP_no (by decide) (by decide)), (vP_no (by decide) (by decide)), (fun R c1 c2 c3 c4 c5 c6 => c1 z668951 g670428 g670429 n670431 f670432 n670462 f670463 o670565 f670566 o670588 n670590 f670591 o670631 n670633 f670634 n670675 f670676 o670719 hz668951 bz668951 hJ668959 hx670453 ht670466 bo670565 ht670570 bo670588 ht670597 bo670631 ht670640 ht670679 bo670719 ht670722 r670724)⟩
          · have r670725 : 0 ≤ o670719.toInt := gj_nlt hc670723 (show Int32.toInt 0 = 0 by decide)
            have bo670719' : gB o670719 0 16777215 := ⟨by omega, by omega⟩
            refine G_aload_n 2 dr_cX14_word_283 rfl ?_
            refine G_iconst 1 dr_cX14_word_284 (by decide +kernel) ?_
            refine Gp_put 3 hm670692 he670703 dr_cX14_word_285 (gk_X14 D I) (Nat.le_of_ble_eq_true rfl) wr_9_39 rfl rfl rfl (Nat.le_of_ble_eq_true rfl) (fun F670726 e670727 n670728 => ?_)
            have he670729 : F670726 q668930 = .inl (I .byte, 8192, .inl f668944) := (n670728 q668930 (rn_ao he670704 he670703)).trans he670704
            have he670730 : F670726 q668960 = .inr (1, [.ref q670430, .int 0, .int 0, .int g670429]) := (n670728 q668960 (fun h => hq668973 (h ▸ hmq668929))).trans he670705
            have he670731 : F670726 q670430 = .inl (I .byte, n670431, .inl f670432) := (n670728 q670430 (fun h => hq670433 (h ▸ hmq668929))).trans he670706
            have he670732 : F670726 q670460 = .inr (0, [.ref q670461, .int 0, .int 0, .int 0]) := (n670728 q670460 (fun h => hq670483 (h ▸ hmq668929))).trans he670707
            have he670733 : F670726 q670461 = .inl (I .byte, n670462, .inl f670463) := (n670728 q670461 (fun h => hq670484 (h ▸ hmq668929))).trans he670708
            have he670734 : F670726 q668929 = .inr (19, [.ref q668930, .int p668931, .int g670428, .int 1, .int p668934, .int p668935, .int p668936, .ref q670460, .int p668938, .int p668939, .int p668940, .ref qo668941, .ref qo668942, .int p668943]) := e670727
            have hfr670735 : rFr [q668929] P668927 F668928 F670726 := rFr_put' List.mem_cons_self hfr670709 n670728
            exact G_vretA dr_cX14_word_288 rfl (show (10 + (g670428.toInt - p668932.toInt) : Int).toNat + 0 ≤ ((16 * (p668931.toInt - p668932.toInt)).toNat) by omega) (show (66 + 16 * (g670428.toInt - p668932.toInt) : Int).toNat + 0 ≤ ((160 * (p668931.toInt - p668932.toInt)).toNat) by omega) ⟨P670680, F670726, g670428, 1, p668935, q670460, (n670462, f670463), rfl, rfl, hsb670702, hfr670735, he670734, he670729, (by omega), (by omega), bg670428, (gB_w (gBl (show Int32.toInt 1 = 1 by decide)) (by decide) (by decide)), (by have qa0 : Int32.toInt 0 = 0 := (by decide); have qa1 : Int32.toInt 1 = 1 := (by decide); omega), (by have qa0 : Int32.toInt 0 = 0 := (by decide); have qa1 : Int32.toInt 1 = 1 := (by decide); omega), (tP_1 hm670696 he670732 hm670697 he670733 bf670463 (by omega) (gB_w (gBl (show Int32.toInt 0 = 0 by decide)) (by decide) (by decide)) (fun e => hq670484 (e ▸ x668948)) (fun e => hq670484 (e ▸ x668949))), (vP_no (by decide) (by decide)), (fun R c1 c2 c3 c4 c5 c6 => c2 z668951 g670428 g670429 n670431 f670432 n670462 f670463 o670565 f670566 o670588 n670590 f670591 o670631 n670633 f670634 n670675 f670676 o670719 hz668951 bz668951 hJ668959 hx670453 ht670466 bo670565 ht670570 bo670588 ht670597 bo670631 ht670640 ht670679 bo670719 ht670722 r670725)⟩
        · have r670736 : g670428.toInt < p668931.toInt := gC_nle hc670451
          have bg670428' : gB g670428 0 8191 := ⟨by omega, by omega⟩
          have bp668931' : gB p668931 1 8192 := ⟨by omega, by omega⟩
          refine G_aload_n 2 dr_cX14_word_197 rfl ?_
          refine Gp_get 0 hm670441 he670435 dr_cX14_word_198 (gk_X14 D I) (Nat.le_of_ble_eq_true rfl) wr_9_36 rfl ?_
          refine G_aload_n 2 dr_cX14_word_201 rfl ?_
          refine Gp_get 2 hm670441 he670435 dr_cX14_word_202 (gk_X14 D I) (Nat.le_of_ble_eq_true rfl) wr_9_38 rfl ?_
          refine Gp_bald 1 hm670442 he670436 dr_cX14_word_205 rfl (gB_in bg670428' (by decide) (by decide)) (G_nam fun z670737 hz670737 => ?_)
          have bz670737 : gB z670737 (-128) 127 := by rw [hz670737]; exact bf668944 _
          refine Gw_callS (As := [.int z670737]) (gV_ok D I) (cp_669294_Reader_isLetter l hl0 D I P670440 F670434 z670737 ) dr_cX14_word_206 ⟨wr_7_222, wr_1_32, wr_7_224, by decide, rfl, (Nat.le_of_ble_eq_true rfl), (Nat.le_of_ble_eq_true rfl)⟩ wr_7_223 (show 2 + (g670429.toInt : Int).toNat + 0 ≤ ((16 * (p668931.toInt - p668932.toInt)).toNat) by first | omega | decide) (show 4 + 2 * n670431 + 0 ≤ ((160 * (p668931.toInt - p668932.toInt)).toNat) by first | omega | decide) (Nat.le_of_ble_eq_true rfl) (fun r670741 w670742 dc670738 ds670739 hp670740 => ?_) (fun _ _ _ _ _ z => z.elim)
          obtain ⟨o670743, rfl, rfl, hdc, hds, bo670743, x670744, ht670745⟩ := hp670740
          change G _ _ _ _ _ _ _ (.int o670743 :: _) _ _ _
          refine G_widen (cs' := 2 + (g670429.toInt : Int).toNat + 0) (sl' := 4 + 2 * n670431 + 0) (by omega) (by omega) ?_
          refine G_if_eq 240 dr_cX14_word_209 (by decide +kernel) (fun hc670746 => ?_) (fun hc670746 => ?_)
          · have r670747 : o670743.toInt = 0 := gj_eq hc670746 (show Int32.toInt 0 = 0 by decide)
            have bo670743' : gB o670743 0 0 := ⟨by omega, by omega⟩
            have hx670748 : tl_RReader_word_186 p668931 f668944 p668932 (0 : Int32) 16 (fun _ => 0 : Nat → Int32) 240 g670428 g670429 n670431 f670432 := kt186_670450 240 g670428 g670429 n670431 f670432 (fun R c1 c2 c3 => c2 g670428 g670429 n670431 f670432 z670737 o670743 bg670428 bg670429 r670736 hz670737 bz670737 bo670743 ht670745 r670747)
            have x670749 : p668932.toInt < g670428.toInt := by first | omega | exact cLt_lt x668947 (by assumption) (isP_0 (by assumption) (by omega)) (by omega)
            refine G_aload_n 2 dr_cX14_word_240 rfl ?_
            refine G_aload_n 0 dr_cX14_word_241 rfl ?_
            refine Gw_callV (As := []) (gV_ok D I) (cp_658959_StringBuilder_toString l hl0 D I P670440 F670434 q668960 q670430 0 g670429 f670432 n670431 hm670443 hm670444 he670437 he670438 (gB_w (gBl (show Int32.toInt 0 = 0 by decide)) (by decide) (by decide)) bg670429 bf670432 (by have qa0 : Int32.toInt 0 = 0 := (by decide); have qa1 : Int32.toInt 6 = 6 := (by decide); omega) (by have qa0 : Int32.toInt 0 = 0 := (by decide); have qa1 : Int32.toInt 6 = 6 := (by decide); omega)) dr_cX14_word_242 ⟨wr_8_66, wr_1_20, wr_8_69, by decide, rfl, (Nat.le_of_ble_eq_true rfl), (Nat.le_of_ble_eq_true rfl)⟩ wr_8_67 wr_8_68 hm670443 he670437 rfl (show 2 + (g670429.toInt : Int).toNat + 0 + 2 ≤ ((16 * (p668931.toInt - p668932.toInt)).toNat) by first | omega | decide) (show 4 + 2 * n670431 + 0 + (g670429.toInt.toNat + 4) ≤ ((160 * (p668931.toInt - p668932.toInt)).toNat) by first | omega | decide) (Nat.le_of_ble_eq_true rfl) (fun r670753 w670754 dc670750 ds670751 hp670752 => ?_) (fun _ _ _ _ _ z => z.elim)
            obtain ⟨P670762, F670763, q670755, q670756, n670757, f670758, rfl, rfl, hsb670764, hfr670765, he670766, he670767, he670768, he670769, hm670770, hq670771, hm670772, hq670773, hdc, hds, bf670758, x670759, x670760, ht670761⟩ := hp670752
            have hm670774 : q668929 ∈ P670762 := hsb670764 q668929 hm670441
            have hm670775 : q668930 ∈ P670762 := hsb670764 q668930 hm670442
            have hm670776 : q668960 ∈ P670762 := hsb670764 q668960 hm670443
            have hm670777 : q670430 ∈ P670762 := hsb670764 q670430 hm670444
            have hq670778 : q670755 ∉ P668927 := fun z => hq670771 (hsb670445 q670755 z)
            have hq670779 : q670756 ∉ P668927 := fun z => hq670773 (hsb670445 q670756 z)
            have hsb670780 : rSub P668927 P670762 := rSub_tr hsb670445 hsb670764
            have he670781 : F670763 q668929 = .inr (19, [.ref q668930, .int p668931, .int g670428, .int 6, .int p668934, .int p668935, .int p668936, .ref qo668937, .int p668938, .int p668939, .int p668940, .ref qo668941, .ref qo668942, .int p668943]) := (hfr670765 q668929 hm670441 nm_n).trans he670435
            have he670782 : F670763 q668930 = .inl (I .byte, 8192, .inl f668944) := (hfr670765 q668930 hm670442 nm_n).trans he670436
            have hfr670783 : rFr [q668929] P668927 F668928 F670763 := rFr_call hsb670445 hfr670439 hfr670765 (fun b hb hn => ⟨(nm_c (fun e => hn (e ▸ List.mem_cons_self)) nm_n), nm_n⟩)
            have hne670784 : q670430 ≠ q670756 := fun h => hq670773 (h ▸ hm670444)
            change G _ _ _ _ _ _ _ (.ref q670755 :: _) _ _ _
            refine G_widen (cs' := 2 + (g670429.toInt : Int).toNat + 0 + 2) (sl' := 4 + 2 * n670431 + 0 + (g670429.toInt.toNat + 4)) (by omega) (by omega) ?_
            have x670785 : (n670757 : Int) = g670428.toInt - p668932.toInt := by omega
            clear he668955 he668956 hfr668957 he668967 he668968 he668969 hm668970 hm668971 hm668972 hfr668974 hsb668975 hsb668984 hfr668985 he668986 he668987 hm668988 hq668989 hm668990 hm668991 hm668992 hq668993 hsb668994 he668995 he668996 hfr668997 bo670743 ht670745 bo670743' hsb670764 hfr670765 hq670771 hq670773; try clear r668979; try clear w668980; try clear dc668976; try clear ds668977; try clear hp668978; try clear r670741; try clear w670742; try clear dc670738; try clear ds670739; try clear hp670740; try clear x670744; try clear r670747; try clear r670753; try clear w670754; try clear dc670750; try clear ds670751; try clear hp670752
            refine Gp_put 7 hm670774 he670781 dr_cX14_word_245 (gk_X14 D I) (Nat.le_of_ble_eq_true rfl) wr_9_43 rfl rfl rfl (Nat.le_of_ble_eq_true rfl) (fun F670786 e670787 n670788 => ?_)
            have he670789 : F670786 q668930 = .inl (I .byte, 8192, .inl f668944) := (n670788 q668930 (rn_ao he670782 he670781)).trans he670782
            have he670790 : F670786 q670755 = .inr (0, [.ref q670756, .int 0, .int 0, .int 0]) := (n670788 q670755 (fun h => hq670778 (h ▸ hmq668929))).trans he670766
            have he670791 : F670786 q668960 = .inr (1, [.ref q670430, .int 0, .int 0, .int g670429]) := (n670788 q668960 (fun h => hq668973 (h ▸ hmq668929))).trans he670767
            have he670792 : F670786 q670430 = .inl (I .byte, n670431, .inl f670432) := (n670788 q670430 (fun h => hq670433 (h ▸ hmq668929))).trans he670768
            have he670793 : F670786 q670756 = .inl (I .byte, n670757, .inl f670758) := (n670788 q670756 (fun h => hq670779 (h ▸ hmq668929))).trans he670769
            have he670794 : F670786 q668929 = .inr (19, [.ref q668930, .int p668931, .int g670428, .int 6, .int p668934, .int p668935, .int p668936, .ref q670755, .int p668938, .int p668939, .int p668940, .ref qo668941, .ref qo668942, .int p668943]) := e670787
            have hfr670795 : rFr [q668929] P668927 F668928 F670786 := rFr_put' List.mem_cons_self hfr670783 n670788
            refine G_widen (cs' := (4 + (g670428.toInt - p668932.toInt) : Int).toNat) (sl' := (40 + 5 * (g670428.toInt - p668932.toInt) : Int).toNat) (by omega) (by omega) ?_
            clear he670766 he670767 he670768 he670769 he670781 he670782 hfr670783
            refine G_ldcK (a := D.2 1000 34) dr_cX14_word_248 (fun _ _ _ h => gx_vk 34 rfl rfl h) ?_
            have hl34_670795 : (sb_34.length : Int) = 25 := rfl
            refine G_new [.null, .int 0, .int 0, .int 0] dr_cX14_word_250 (gk_J4 D I) wr_7_235 wr_7_44 wr_1_20 (gfs_J4) (show (4 + (g670428.toInt - p668932.toInt) : Int).toNat + 1 ≤ ((16 * (p668931.toInt - p668932.toInt)).toNat) by first | omega | decide) (show (40 + 5 * (g670428.toInt - p668932.toInt) : Int).toNat + 4 ≤ ((160 * (p668931.toInt - p668932.toInt)).toNat) by first | omega | decide) (fun q670797 => Gp_in (fun P670798 F670799 hq670800 hP670801 e670802 n670803 => ?_))
            refine G_widen (cs' := (4 + (g670428.toInt - p668932.toInt) : Int).toNat + 1) (sl' := (40 + 5 * (g670428.toInt - p668932.toInt) : Int).toNat + 4) (by omega) (by omega) ?_
            have he670804 : F670799 q668929 = .inr (19, [.ref q668930, .int p668931, .int g670428, .int 6, .int p668934, .int p668935, .int p668936, .ref q670755, .int p668938, .int p668939, .int p668940, .ref qo668941, .ref qo668942, .int p668943]) := (n670803 q668929 (fun h => hq670800 (h ▸ hm670774))).trans he670794
            have he670805 : F670799 q668930 = .inl (I .byte, 8192, .inl f668944) := (n670803 q668930 (fun h => hq670800 (h ▸ hm670775))).trans he670789
            have he670806 : F670799 q670755 = .inr (0, [.ref q670756, .int 0, .int 0, .int 0]) := (n670803 q670755 (fun h => hq670800 (h ▸ hm670770))).trans he670790
            have he670807 : F670799 q668960 = .inr (1, [.ref q670430, .int 0, .int 0, .int g670429]) := (n670803 q668960 (fun h => hq670800 (h ▸ hm670776))).trans he670791
            have he670808 : F670799 q670430 = .inl (I .byte, n670431, .inl f670432) := (n670803 q670430 (fun h => hq670800 (h ▸ hm670777))).trans he670792
            have he670809 : F670799 q670756 = .inl (I .byte, n670757, .inl f670758) := (n670803 q670756 (fun h => hq670800 (h ▸ hm670772))).trans he670793
            have he670810 : F670799 q670797 = .inr (1, [.null, .int 0, .int 0, .int 0]) := e670802
            have hm670811 : q668929 ∈ P670798 := (hP670801 q668929).mpr (Or.inl hm670774)
            have hm670812 : q668930 ∈ P670798 := (hP670801 q668930).mpr (Or.inl hm670775)
            have hm670813 : q668960 ∈ P670798 := (hP670801 q668960).mpr (Or.inl hm670776)
            have hm670814 : q670430 ∈ P670798 := (hP670801 q670430).mpr (Or.inl hm670777)
            have hm670815 : q670755 ∈ P670798 := (hP670801 q670755).mpr (Or.inl hm670770)
            have hm670816 : q670756 ∈ P670798 := (hP670801 q670756).mpr (Or.inl hm670772)
            have hm670817 : q670797 ∈ P670798 := (hP670801 q670797).mpr (Or.inr rfl)
            have hq670818 : q670797 ∉ P668927 := fun z => hq670800 (hsb670780 q670797 z)
            have hfr670819 : rFr [q668929] P668927 F668928 F670799 := rFr_new hsb670780 hq670800 hfr670795 n670803
            have hsb670820 : rSub P668927 P670798 := rSub_new hsb670780 hP670801
            have hne670821 : q668960 ≠ q670797 := fun h => hq670800 (h ▸ hm670776)
            refine G_dup dr_cX14_word_253 rfl ?_
            refine Gw_callI (As := []) (gV_ok D I) (cp_658184_StringBuilder_init l hl0 D I P670798 F670799 q670797 0 0 hm670817 he670810 (gB_w (gBl (show Int32.toInt 0 = 0 by decide)) (by decide) (by decide)) (gB_w (gBl (show Int32.toInt 0 = 0 by decide)) (by decide) (by decide))) dr_cX14_word_254 ⟨wr_7_236, wr_1_20, wr_7_47, by decide, rfl, (Nat.le_of_ble_eq_true rfl), (Nat.le_of_ble_eq_true rfl)⟩ wr_7_46 rfl (show (4 + (g670428.toInt - p668932.toInt) : Int).toNat + 1 + 1 ≤ ((16 * (p668931.toInt - p668932.toInt)).toNat) by first | omega | decide) (show (40 + 5 * (g670428.toInt - p668932.toInt) : Int).toNat + 4 + 16 ≤ ((160 * (p668931.toInt - p668932.toInt)).toNat) by first | omega | decide) (Nat.le_of_ble_eq_true rfl) (fun r670825 w670826 dc670822 ds670823 hp670824 => ?_)
            obtain ⟨P670828, F670829, q670827, rfl, rfl, hsb670830, hfr670831, he670832, he670833, hm670834, hq670835, hdc, hds⟩ := hp670824
            have hm670836 : q668929 ∈ P670828 := hsb670830 q668929 hm670811
            have hm670837 : q668930 ∈ P670828 := hsb670830 q668930 hm670812
            have hm670838 : q668960 ∈ P670828 := hsb670830 q668960 hm670813
            have hm670839 : q670430 ∈ P670828 := hsb670830 q670430 hm670814
            have hm670840 : q670755 ∈ P670828 := hsb670830 q670755 hm670815
            have hm670841 : q670756 ∈ P670828 := hsb670830 q670756 hm670816
            have hm670842 : q670797 ∈ P670828 := hsb670830 q670797 hm670817
            have hq670843 : q670827 ∉ P668927 := fun z => hq670835 (hsb670820 q670827 z)
            have hsb670844 : rSub P668927 P670828 := rSub_tr hsb670820 hsb670830
            have he670845 : F670829 q668929 = .inr (19, [.ref q668930, .int p668931, .int g670428, .int 6, .int p668934, .int p668935, .int p668936, .ref q670755, .int p668938, .int p668939, .int p668940, .ref qo668941, .ref qo668942, .int p668943]) := (hfr670831 q668929 hm670811 (nm_c (fun h => hq670818 (h ▸ hmq668929)) nm_n)).trans he670804
            have he670846 : F670829 q668930 = .inl (I .byte, 8192, .inl f668944) := (hfr670831 q668930 hm670812 (nm_c (fun h => hq670818 (h ▸ hmq668930)) nm_n)).trans he670805
            have he670847 : F670829 q670755 = .inr (0, [.ref q670756, .int 0, .int 0, .int 0]) := (hfr670831 q670755 hm670815 (nm_c (rn_oo he670806 he670810 (by decide)) nm_n)).trans he670806
            have he670848 : F670829 q668960 = .inr (1, [.ref q670430, .int 0, .int 0, .int g670429]) := (hfr670831 q668960 hm670813 (nm_c hne670821 nm_n)).trans he670807
            have he670849 : F670829 q670430 = .inl (I .byte, n670431, .inl f670432) := (hfr670831 q670430 hm670814 (nm_c (rn_ao he670808 he670810) nm_n)).trans he670808
            have he670850 : F670829 q670756 = .inl (I .byte, n670757, .inl f670758) := (hfr670831 q670756 hm670816 (nm_c (rn_ao he670809 he670810) nm_n)).trans he670809
            have hfr670851 : rFr [q668929] P668927 F668928 F670829 := rFr_call hsb670820 hfr670819 hfr670831 (fun b hb hn => ⟨(nm_c (fun e => hn (e ▸ List.mem_cons_self)) nm_n), (nm_c (fun e => hq670818 (e ▸ hb)) nm_n)⟩)
            have hne670852 : q670430 ≠ q670827 := fun h => hq670835 (h ▸ hm670814)
            have hne670853 : q670756 ≠ q670827 := fun h => hq670835 (h ▸ hm670816)
            change G _ _ _ _ _ _ _ _ _ _ _
            refine G_widen (cs' := (4 + (g670428.toInt - p668932.toInt) : Int).toNat + 1 + 1) (sl' := (40 + 5 * (g670428.toInt - p668932.toInt) : Int).toNat + 4 + 16) (by omega) (by omega) ?_
            refine G_ldcK (a := D.2 1000 35) dr_cX14_word_257 (fun _ _ _ h => gx_vk 35 rfl rfl h) ?_
            have hl35_670853 : (sb_35.length : Int) = 1 := rfl
            refine Gw_callV (As := [.ref (D.2 1000 35)]) (gV_ok D I) (cp_658486_StringBuilder_append l hl0 D I P670828 F670829 q670797 q670827 (D.2 1000 35) (D.2 1001 35) sb_35 0 0 (fun _ => 0) 16 hm670842 hm670834 he670832 he670833 (gx_sc 35 rfl rfl) (by omega) (by decide +kernel) (gB_w (gBl (show Int32.toInt 0 = 0 by decide)) (by decide) (by decide)) (gB_w (gBl (show Int32.toInt 0 = 0 by decide)) (by decide) (by decide)) (gF_w gF_0 (by decide) (by decide)) (by have qa0 : Int32.toInt 0 = 0 := (by decide); have qa1 : Int32.toInt 6 = 6 := (by decide); omega) (by have qa0 : Int32.toInt 0 = 0 := (by decide); have qa1 : Int32.toInt 6 = 6 := (by decide); omega)) dr_cX14_word_259 ⟨wr_8_195, wr_1_20, wr_8_143, by decide, rfl, (Nat.le_of_ble_eq_true rfl), (Nat.le_of_ble_eq_true rfl)⟩ wr_8_141 wr_8_142 hm670842 he670832 rfl (show (4 + (g670428.toInt - p668932.toInt) : Int).toNat + 1 + 1 + 0 ≤ ((16 * (p668931.toInt - p668932.toInt)).toNat) by first | omega | decide) (show (40 + 5 * (g670428.toInt - p668932.toInt) : Int).toNat + 4 + 16 + 0 ≤ ((160 * (p668931.toInt - p668932.toInt)).toNat) by first | omega | decide) (Nat.le_of_ble_eq_true rfl) (fun r670858 w670859 dc670855 ds670856 hp670857 => ?_) (fun _ _ _ _ _ z => z.elim)
            obtain ⟨F670866, o670860, f670861, rfl, rfl, hfr670868, he670869, he670870, hdc, hds, bo670860, bf670861, x670862, x670863, x670864, ht670865⟩ := hp670857
            have he670871 : F670866 q668929 = .inr (19, [.ref q668930, .int p668931, .int g670428, .int 6, .int p668934, .int p668935, .int p668936, .ref q670755, .int p668938, .int p668939, .int p668940, .ref qo668941, .ref qo668942, .int p668943]) := (hfr670868 q668929 hm670836 (nm_c (fun h => hq670818 (h ▸ hmq668929)) (nm_c (fun h => hq670843 (h ▸ hmq668929)) nm_n))).trans he670845
            have he670872 : F670866 q668930 = .inl (I .byte, 8192, .inl f668944) := (hfr670868 q668930 hm670837 (nm_c (fun h => hq670818 (h ▸ hmq668930)) (nm_c (fun h => hq670843 (h ▸ hmq668930)) nm_n))).trans he670846
            have he670873 : F670866 q670755 = .inr (0, [.ref q670756, .int 0, .int 0, .int 0]) := (hfr670868 q670755 hm670840 (nm_c (rn_oo he670847 he670832 (by decide)) (nm_c (rn_oa he670847 he670833) nm_n))).trans he670847
            have he670874 : F670866 q668960 = .inr (1, [.ref q670430, .int 0, .int 0, .int g670429]) := (hfr670868 q668960 hm670838 (nm_c hne670821 (nm_c (rn_oa he670848 he670833) nm_n))).trans he670848
            have he670875 : F670866 q670430 = .inl (I .byte, n670431, .inl f670432) := (hfr670868 q670430 hm670839 (nm_c (rn_ao he670849 he670832) (nm_c hne670852 nm_n))).trans he670849
            have he670876 : F670866 q670756 = .inl (I .byte, n670757, .inl f670758) := (hfr670868 q670756 hm670841 (nm_c (rn_ao he670850 he670832) (nm_c hne670853 nm_n))).trans he670850
            have hfr670877 : rFr [q668929] P668927 F668928 F670866 := rFr_call hsb670844 hfr670851 hfr670868 (fun b hb hn => ⟨(nm_c (fun e => hn (e ▸ List.mem_cons_self)) nm_n), (nm_c (fun e => hq670818 (e ▸ hb)) (nm_c (fun e => hq670843 (e ▸ hb)) nm_n))⟩)
            rw [show Int32.toInt 0 = 0 from by decide] at x670862
            have bo670860' : gB o670860 1 1 := ⟨by omega, by omega⟩
            rw [show Int32.toInt 0 = 0 from by decide] at x670863
            rw [show Int32.toInt 0 = 0 from by decide] at x670864
            change G _ _ _ _ _ _ _ (.ref q670797 :: _) _ _ _
            refine G_widen (cs' := (4 + (g670428.toInt - p668932.toInt) : Int).toNat + 1 + 1 + 0) (sl' := (40 + 5 * (g670428.toInt - p668932.toInt) : Int).toNat + 4 + 16 + 0) (by omega) (by omega) ?_
            refine G_aload_n 2 dr_cX14_word_262 rfl ?_
            clear hm670770 hm670772 hm670774 hm670775 hm670776 hm670777 hsb670780 he670789 he670790 he670791 he670792 he670793 he670794 hfr670795 he670804 he670805 he670806 he670807 he670808 he670809 he670810 hm670811 hm670812 hm670813 hm670814 hm670815 hm670816 hm670817 hfr670819 hsb670820 hsb670830 hfr670831 he670832 he670833 hq670835 he670845 he670846 he670847 he670848 he670849 he670850 hfr670851 hfr670868; try clear r670825; try clear w670826; try clear dc670822; try clear ds670823; try clear hp670824; try clear r670858; try clear w670859; try clear dc670855; try clear ds670856; try clear hp670857
            refine Gp_get 7 hm670836 he670871 dr_cX14_word_263 (gk_X14 D I) (Nat.le_of_ble_eq_true rfl) wr_9_43 rfl ?_
            refine Gw_callV (As := [.ref q670755]) (gV_ok D I) (cp_658686_StringBuilder_append l hl0 D I P670828 F670866 q670797 q670755 q670827 q670756 0 o670860 0 0 f670861 16 f670758 n670757 hm670842 hm670840 hm670834 hm670841 he670869 he670873 he670870 he670876 (Ne.symm hne670853) (gB_w (gBl (show Int32.toInt 0 = 0 by decide)) (by decide) (by decide)) (gB_w bo670860' (by decide) (by decide)) (gB_w (gBl (show Int32.toInt 0 = 0 by decide)) (by decide) (by decide)) bf670861 bf670758 (by have qa0 : Int32.toInt 0 = 0 := (by decide); have qa1 : Int32.toInt 6 = 6 := (by decide); omega) (by have qa0 : Int32.toInt 0 = 0 := (by decide); have qa1 : Int32.toInt 6 = 6 := (by decide); omega) (by have qa0 : Int32.toInt 0 = 0 := (by decide); have qa1 : Int32.toInt 6 = 6 := (by decide); omega) (by have qa0 : Int32.toInt 0 = 0 := (by decide); have qa1 : Int32.toInt 6 = 6 := (by decide); omega) (by have qa0 : Int32.toInt 0 = 0 := (by decide); have qa1 : Int32.toInt 6 = 6 := (by decide); omega)) dr_cX14_word_266 ⟨wr_8_195, wr_1_20, wr_8_143, by decide, rfl, (Nat.le_of_ble_eq_true rfl), (Nat.le_of_ble_eq_true rfl)⟩ wr_8_141 wr_8_142 hm670842 he670869 rfl (show (4 + (g670428.toInt - p668932.toInt) : Int).toNat + 1 + 1 + 0 + 1 ≤ ((16 * (p668931.toInt - p668932.toInt)).toNat) by first | omega | decide) (show (40 + 5 * (g670428.toInt - p668932.toInt) : Int).toNat + 4 + 16 + 0 + (4 * 16 + 4 + 2 * n670757) ≤ ((160 * (p668931.toInt - p668932.toInt)).toNat) by first | omega | decide) (Nat.le_of_ble_eq_true rfl) (fun r670881 w670882 dc670878 ds670879 hp670880 => ?_) (fun _ _ _ _ _ z => z.elim)
            obtain ⟨P670893, F670894, o670883, q670884, n670885, f670886, rfl, rfl, hsb670895, hfr670896, he670897, he670898, he670899, he670900, hm670901, hq670902, hdc, hds, bo670883, bf670886, x670887, x670888, x670889, x670890, x670891, ht670892⟩ := hp670880
            have hm670903 : q668929 ∈ P670893 := hsb670895 q668929 hm670836
            have hm670904 : q668930 ∈ P670893 := hsb670895 q668930 hm670837
            have hm670905 : q668960 ∈ P670893 := hsb670895 q668960 hm670838
            have hm670906 : q670430 ∈ P670893 := hsb670895 q670430 hm670839
            have hm670907 : q670755 ∈ P670893 := hsb670895 q670755 hm670840
            have hm670908 : q670756 ∈ P670893 := hsb670895 q670756 hm670841
            have hm670909 : q670797 ∈ P670893 := hsb670895 q670797 hm670842
            have hm670910 : q670827 ∈ P670893 := hsb670895 q670827 hm670834
            have hq670911 : q670884 ∉ P668927 := fun z => hq670902.elim (fun e => hq670843 (e ▸ z)) (fun n => n (hsb670844 _ z))
            have hsb670912 : rSub P668927 P670893 := rSub_tr hsb670844 hsb670895
            have he670913 : F670894 q668929 = .inr (19, [.ref q668930, .int p668931, .int g670428, .int 6, .int p668934, .int p668935, .int p668936, .ref q670755, .int p668938, .int p668939, .int p668940, .ref qo668941, .ref qo668942, .int p668943]) := (hfr670896 q668929 hm670836 (nm_c (fun h => hq670818 (h ▸ hmq668929)) (nm_c (fun h => hq670843 (h ▸ hmq668929)) nm_n))).trans he670871
            have he670914 : F670894 q668930 = .inl (I .byte, 8192, .inl f668944) := (hfr670896 q668930 hm670837 (nm_c (fun h => hq670818 (h ▸ hmq668930)) (nm_c (fun h => hq670843 (h ▸ hmq668930)) nm_n))).trans he670872
            have he670915 : F670894 q668960 = .inr (1, [.ref q670430, .int 0, .int 0, .int g670429]) := (hfr670896 q668960 hm670838 (nm_c hne670821 (nm_c (rn_oa he670874 he670870) nm_n))).trans he670874
            have he670916 : F670894 q670430 = .inl (I .byte, n670431, .inl f670432) := (hfr670896 q670430 hm670839 (nm_c (rn_ao he670875 he670869) (nm_c hne670852 nm_n))).trans he670875
            have hfr670917 : rFr [q668929] P668927 F668928 F670894 := rFr_call hsb670844 hfr670877 hfr670896 (fun b hb hn => ⟨(nm_c (fun e => hn (e ▸ List.mem_cons_self)) nm_n), (nm_c (fun e => hq670818 (e ▸ hb)) (nm_c (fun e => hq670843 (e ▸ hb)) nm_n))⟩)
            have hne670918 : q670430 ≠ q670884 := fun e => hq670902.elim (fun e2 => hne670852 (e.trans e2)) (fun n => n (e ▸ hm670839))
            have hne670919 : q670756 ≠ q670884 := fun e => hq670902.elim (fun e2 => hne670853 (e.trans e2)) (fun n => n (e ▸ hm670841))
            have bo670883' : gB o670883 1 16777216 := ⟨by omega, by omega⟩
            change G _ _ _ _ _ _ _ (.ref q670797 :: _) _ _ _
            refine G_widen (cs' := (4 + (g670428.toInt - p668932.toInt) : Int).toNat + 1 + 1 + 0 + 1) (sl' := (40 + 5 * (g670428.toInt - p668932.toInt) : Int).toNat + 4 + 16 + 0 + (2 * (n670885 - 16))) (by omega) (by omega) ?_
            refine G_widen (cs' := (7 + (g670428.toInt - p668932.toInt) : Int).toNat) (sl' := (60 + 10 * (g670428.toInt - p668932.toInt) : Int).toNat) (by omega) (by omega) ?_
            clear hm670834 hm670836 hm670837 hm670838 hm670839 hm670840 hm670841 hm670842 hq670843 hsb670844 hne670852 hne670853 he670869 he670870 bf670861 he670871 he670872 he670873 he670874 he670875 he670876 hfr670877 hsb670895 hfr670896 hq670902 hm670910; try clear x670863; try clear x670864; try clear r670881; try clear w670882; try clear dc670878; try clear ds670879; try clear hp670880
            refine G_ldcK (a := D.2 1000 35) dr_cX14_word_269 (fun _ _ _ h => gx_vk 35 rfl rfl h) ?_
            have hl35_670919 : (sb_35.length : Int) = 1 := rfl
            refine Gw_callV (As := [.ref (D.2 1000 35)]) (gV_ok D I) (cp_658834_StringBuilder_append l hl0 D I P670893 F670894 q670797 q670884 (D.2 1000 35) (D.2 1001 35) sb_35 0 o670883 f670886 n670885 hm670909 hm670901 he670897 he670899 (gx_sc 35 rfl rfl) (by omega) (by decide +kernel) (gB_w (gBl (show Int32.toInt 0 = 0 by decide)) (by decide) (by decide)) (gB_w bo670883' (by decide) (by decide)) bf670886 (by have qa0 : Int32.toInt 0 = 0 := (by decide); have qa1 : Int32.toInt 6 = 6 := (by decide); omega) (by have qa0 : Int32.toInt 0 = 0 := (by decide); have qa1 : Int32.toInt 6 = 6 := (by decide); omega) (by have qa0 : Int32.toInt 0 = 0 := (by decide); have qa1 : Int32.toInt 6 = 6 := (by decide); omega) (by have qa0 : Int32.toInt 0 = 0 := (by decide); have qa1 : Int32.toInt 6 = 6 := (by decide); omega)) dr_cX14_word_271 ⟨wr_8_195, wr_1_20, wr_8_143, by decide, rfl, (Nat.le_of_ble_eq_true rfl), (Nat.le_of_ble_eq_true rfl)⟩ wr_8_141 wr_8_142 hm670909 he670897 rfl (show (7 + (g670428.toInt - p668932.toInt) : Int).toNat + 1 ≤ ((16 * (p668931.toInt - p668932.toInt)).toNat) by first | omega | decide) (show (60 + 10 * (g670428.toInt - p668932.toInt) : Int).toNat + (4 * n670885 + 4 + 2 * sb_35.length) ≤ ((160 * (p668931.toInt - p668932.toInt)).toNat) by first | omega | decide) (Nat.le_of_ble_eq_true rfl) (fun r670924 w670925 dc670921 ds670922 hp670923 => ?_) (fun _ _ _ _ _ z => z.elim)
            obtain ⟨P670936, F670937, o670926, q670927, n670928, f670929, rfl, rfl, hsb670938, hfr670939, he670940, he670941, hm670942, hq670943, hdc, hds, bo670926, bf670929, x670930, x670931, x670932, x670933, x670934, ht670935⟩ := hp670923
            have hm670944 : q668929 ∈ P670936 := hsb670938 q668929 hm670903
            have hm670945 : q668930 ∈ P670936 := hsb670938 q668930 hm670904
            have hm670946 : q668960 ∈ P670936 := hsb670938 q668960 hm670905
            have hm670947 : q670430 ∈ P670936 := hsb670938 q670430 hm670906
            have hm670948 : q670755 ∈ P670936 := hsb670938 q670755 hm670907
            have hm670949 : q670756 ∈ P670936 := hsb670938 q670756 hm670908
            have hm670950 : q670797 ∈ P670936 := hsb670938 q670797 hm670909
            have hm670951 : q670884 ∈ P670936 := hsb670938 q670884 hm670901
            have hq670952 : q670927 ∉ P668927 := fun z => hq670943.elim (fun e => hq670911 (e ▸ z)) (fun n => n (hsb670912 _ z))
            have hsb670953 : rSub P668927 P670936 := rSub_tr hsb670912 hsb670938
            have he670954 : F670937 q668929 = .inr (19, [.ref q668930, .int p668931, .int g670428, .int 6, .int p668934, .int p668935, .int p668936, .ref q670755, .int p668938, .int p668939, .int p668940, .ref qo668941, .ref qo668942, .int p668943]) := (hfr670939 q668929 hm670903 (nm_c (fun h => hq670818 (h ▸ hmq668929)) (nm_c (fun h => hq670911 (h ▸ hmq668929)) nm_n))).trans he670913
            have he670955 : F670937 q668930 = .inl (I .byte, 8192, .inl f668944) := (hfr670939 q668930 hm670904 (nm_c (fun h => hq670818 (h ▸ hmq668930)) (nm_c (fun h => hq670911 (h ▸ hmq668930)) nm_n))).trans he670914
            have he670956 : F670937 q668960 = .inr (1, [.ref q670430, .int 0, .int 0, .int g670429]) := (hfr670939 q668960 hm670905 (nm_c hne670821 (nm_c (rn_oa he670915 he670899) nm_n))).trans he670915
            have he670957 : F670937 q670430 = .inl (I .byte, n670431, .inl f670432) := (hfr670939 q670430 hm670906 (nm_c (rn_ao he670916 he670897) (nm_c hne670918 nm_n))).trans he670916
            have he670958 : F670937 q670755 = .inr (0, [.ref q670756, .int 0, .int 0, .int 0]) := (hfr670939 q670755 hm670907 (nm_c (rn_oo he670898 he670897 (by decide)) (nm_c (rn_oa he670898 he670899) nm_n))).trans he670898
            have he670959 : F670937 q670756 = .inl (I .byte, n670757, .inl f670758) := (hfr670939 q670756 hm670908 (nm_c (rn_ao he670900 he670897) (nm_c hne670919 nm_n))).trans he670900
            have hfr670960 : rFr [q668929] P668927 F668928 F670937 := rFr_call hsb670912 hfr670917 hfr670939 (fun b hb hn => ⟨(nm_c (fun e => hn (e ▸ List.mem_cons_self)) nm_n), (nm_c (fun e => hq670818 (e ▸ hb)) (nm_c (fun e => hq670911 (e ▸ hb)) nm_n))⟩)
            have hne670961 : q670430 ≠ q670927 := fun e => hq670943.elim (fun e2 => hne670918 (e.trans e2)) (fun n => n (e ▸ hm670906))
            have hne670962 : q670756 ≠ q670927 := fun e => hq670943.elim (fun e2 => hne670919 (e.trans e2)) (fun n => n (e ▸ hm670908))
            have bo670926' : gB o670926 2 16777216 := ⟨by omega, by omega⟩
            change G _ _ _ _ _ _ _ (.ref q670797 :: _) _ _ _
            refine G_widen (cs' := (7 + (g670428.toInt - p668932.toInt) : Int).toNat + 1) (sl' := (60 + 10 * (g670428.toInt - p668932.toInt) : Int).toNat + (2 * (n670928 - n670885))) (by omega) (by omega) ?_
            refine G_widen (cs' := (8 + (g670428.toInt - p668932.toInt) : Int).toNat) (sl' := (60 + 15 * (g670428.toInt - p668932.toInt) : Int).toNat) (by omega) (by omega) ?_
            clear he670897 he670898 he670899 he670900 hm670901 bf670886 hm670903 hm670904 hm670905 hm670906 hm670907 hm670908 hm670909 hq670911 hsb670912 he670913 he670914 he670915 he670916 hfr670917 hne670918 hne670919 hsb670938 hfr670939 hq670943 hm670951; try clear r670924; try clear w670925; try clear dc670921; try clear ds670922; try clear hp670923
            refine Gw_callV (As := []) (gV_ok D I) (cp_658959_StringBuilder_toString l hl0 D I P670936 F670937 q670797 q670927 0 o670926 f670929 n670928 hm670950 hm670942 he670940 he670941 (gB_w (gBl (show Int32.toInt 0 = 0 by decide)) (by decide) (by decide)) (gB_w bo670926' (by decide) (by decide)) bf670929 (by have qa0 : Int32.toInt 0 = 0 := (by decide); have qa1 : Int32.toInt 6 = 6 := (by decide); omega) (by have qa0 : Int32.toInt 0 = 0 := (by decide); have qa1 : Int32.toInt 6 = 6 := (by decide); omega)) dr_cX14_word_274 ⟨wr_8_66, wr_1_20, wr_8_69, by decide, rfl, (Nat.le_of_ble_eq_true rfl), (Nat.le_of_ble_eq_true rfl)⟩ wr_8_67 wr_8_68 hm670950 he670940 rfl (show (8 + (g670428.toInt - p668932.toInt) : Int).toNat + 2 ≤ ((16 * (p668931.toInt - p668932.toInt)).toNat) by first | omega | decide) (show (60 + 15 * (g670428.toInt - p668932.toInt) : Int).toNat + (o670926.toInt.toNat + 4) ≤ ((160 * (p668931.toInt - p668932.toInt)).toNat) by first | omega | decide) (Nat.le_of_ble_eq_true rfl) (fun r670966 w670967 dc670963 ds670964 hp670965 => ?_) (fun _ _ _ _ _ z => z.elim)
            obtain ⟨P670975, F670976, q670968, q670969, n670970, f670971, rfl, rfl, hsb670977, hfr670978, he670979, he670980, he670981, he670982, hm670983, hq670984, hm670985, hq670986, hdc, hds, bf670971, x670972, x670973, ht670974⟩ := hp670965
            have hm670987 : q668929 ∈ P670975 := hsb670977 q668929 hm670944
            have hm670988 : q668930 ∈ P670975 := hsb670977 q668930 hm670945
            have hm670989 : q668960 ∈ P670975 := hsb670977 q668960 hm670946
            have hm670990 : q670430 ∈ P670975 := hsb670977 q670430 hm670947
            have hm670991 : q670755 ∈ P670975 := hsb670977 q670755 hm670948
            have hm670992 : q670756 ∈ P670975 := hsb670977 q670756 hm670949
            have hm670993 : q670797 ∈ P670975 := hsb670977 q670797 hm670950
            have hm670994 : q670927 ∈ P670975 := hsb670977 q670927 hm670942
            have hq670995 : q670968 ∉ P668927 := fun z => hq670984 (hsb670953 q670968 z)
            have hq670996 : q670969 ∉ P668927 := fun z => hq670986 (hsb670953 q670969 z)
            have hsb670997 : rSub P668927 P670975 := rSub_tr hsb670953 hsb670977
            have he670998 : F670976 q668929 = .inr (19, [.ref q668930, .int p668931, .int g670428, .int 6, .int p668934, .int p668935, .int p668936, .ref q670755, .int p668938, .int p668939, .int p668940, .ref qo668941, .ref qo668942, .int p668943]) := (hfr670978 q668929 hm670944 nm_n).trans he670954
            have he670999 : F670976 q668930 = .inl (I .byte, 8192, .inl f668944) := (hfr670978 q668930 hm670945 nm_n).trans he670955
            have he671000 : F670976 q668960 = .inr (1, [.ref q670430, .int 0, .int 0, .int g670429]) := (hfr670978 q668960 hm670946 nm_n).trans he670956
            have he671001 : F670976 q670430 = .inl (I .byte, n670431, .inl f670432) := (hfr670978 q670430 hm670947 nm_n).trans he670957
            have he671002 : F670976 q670755 = .inr (0, [.ref q670756, .int 0, .int 0, .int 0]) := (hfr670978 q670755 hm670948 nm_n).trans he670958
            have he671003 : F670976 q670756 = .inl (I .byte, n670757, .inl f670758) := (hfr670978 q670756 hm670949 nm_n).trans he670959
            have hfr671004 : rFr [q668929] P668927 F668928 F670976 := rFr_call hsb670953 hfr670960 hfr670978 (fun b hb hn => ⟨(nm_c (fun e => hn (e ▸ List.mem_cons_self)) nm_n), nm_n⟩)
            have hne671005 : q670755 ≠ q670968 := fun h => hq670984 (h ▸ hm670948)
            have hne671006 : q670430 ≠ q670969 := fun h => hq670986 (h ▸ hm670947)
            have hne671007 : q670756 ≠ q670969 := fun h => hq670986 (h ▸ hm670949)
            have hne671008 : q670927 ≠ q670969 := fun h => hq670986 (h ▸ hm670942)
            change G _ _ _ _ _ _ _ (.ref q670968 :: _) _ _ _
            refine G_widen (cs' := (8 + (g670428.toInt - p668932.toInt) : Int).toNat + 2) (sl' := (60 + 15 * (g670428.toInt - p668932.toInt) : Int).toNat + (o670926.toInt.toNat + 4)) (by omega) (by omega) ?_
            refine G_widen (cs' := (10 + (g670428.toInt - p668932.toInt) : Int).toNat) (sl' := (66 + 16 * (g670428.toInt - p668932.toInt) : Int).toNat) (by omega) (by omega) ?_
            clear hq670818 hne670821 he670940 he670941 hm670942 bf670929 hm670944 hm670945 hm670946 hm670947 hm670948 hm670949 hm670950 hq670952 hsb670953 he670954 he670955 he670956 he670957 he670958 he670959 hfr670960 hne670961 hne670962 hsb670977 hfr670978 he670980 he670981 hq670984 hq670986 hm670993 hm670994 hne671008; try clear r670966; try clear w670967; try clear dc670963; try clear ds670964; try clear hp670965; try clear x670973
            refine Gw_callVk (As := [.ref q670968]) (gV_ok D I) (cp_659418_String_indexOf l hl0 D I P670975 F670976 q670968 q670969 (D.2 1000 34) (D.2 1001 34) sb_34 0 0 f670971 n670970 hm670983 hm670985 he670979 he670982 (gx_sc 34 rfl rfl) (by omega) (by decide +kernel) (gB_w (gBl (show Int32.toInt 0 = 0 by decide)) (by decide) (by decide)) bf670971 (by have qa0 : Int32.toInt 0 = 0 := (by decide); have qa1 : Int32.toInt 6 = 6 := (by decide); omega) (by have qa0 : Int32.toInt 0 = 0 := (by decide); have qa1 : Int32.toInt 6 = 6 := (by decide); omega)) dr_cX14_word_277 ⟨wr_8_196, wr_1_21, wr_8_199, by decide, rfl, (Nat.le_of_ble_eq_true rfl), (Nat.le_of_ble_eq_true rfl)⟩ wr_8_197 wr_8_198 (fun _ _ _ h => ((gx_sc 34 rfl rfl) _ _ _ h).1) (show (10 + (g670428.toInt - p668932.toInt) : Int).toNat + 0 ≤ ((16 * (p668931.toInt - p668932.toInt)).toNat) by first | omega | decide) (show (66 + 16 * (g670428.toInt - p668932.toInt) : Int).toNat + 0 ≤ ((160 * (p668931.toInt - p668932.toInt)).toNat) by first | omega | decide) (Nat.le_of_ble_eq_true rfl) (fun r671012 w671013 dc671009 ds671010 hp671011 => ?_) (fun _ _ _ _ _ z => z.elim)
            obtain ⟨o671014, rfl, rfl, hdc, hds, bo671014, x671015, x671016, ht671017⟩ := hp671011
            change G _ _ _ _ _ _ _ (.int o671014 :: _) _ _ _
            refine G_widen (cs' := (10 + (g670428.toInt - p668932.toInt) : Int).toNat + 0) (sl' := (66 + 16 * (g670428.toInt - p668932.toInt) : Int).toNat + 0) (by omega) (by omega) ?_
            clear he670979 he670982 hm670983 hm670985 bf670971 hq670995 hq670996 hne671005 hne671006 hne671007; try clear r671012; try clear w671013; try clear dc671009; try clear ds671010; try clear hp671011; try clear x671016
            refine G_if_lt 288 dr_cX14_word_280 (by decide +kernel) (fun hc671018 => ?_) (fun hc671018 => ?_)
            · have r671019 : o671014.toInt < 0 := gj_lt hc671018 (show Int32.toInt 0 = 0 by decide)
              have bo671014' : gB o671014 (-2147483646) (-1) := ⟨by omega, by omega⟩
              exact G_vretA dr_cX14_word_288 rfl (show (10 + (g670428.toInt - p668932.toInt) : Int).toNat + 0 ≤ ((16 * (p668931.toInt - p668932.toInt)).toNat) by omega) (show (66 + 16 * (g670428.toInt - p668932.toInt) : Int).toNat + 0 ≤ ((160 * (p668931.toInt - p668932.toInt)).toNat) by omega) ⟨P670975, F670976, g670428, 6, p668935, q670755, (0, fun _ => 0), rfl, rfl, hsb670997, hfr671004, he670998, he670999, (by omega), (by omega), (gB_w bg670428' (by decide) (by decide)), (gB_w (gBl (show Int32.toInt 6 = 6 by decide)) (by decide) (by decide)), (by have qa0 : Int32.toInt 0 = 0 := (by decide); have qa1 : Int32.toInt 6 = 6 := (by decide); omega), (by have qa0 : Int32.toInt 0 = 0 := (by decide); have qa1 : Int32.toInt 6 = 6 := (by decide); omega), (tP_no (by decide) (by decide)), (vP_no (by decide) (by decide)), (fun R c1 c2 c3 c4 c5 c6 => c1 z668951 g670428 g670429 n670431 f670432 n670757 f670758 o670860 f670861 o670883 n670885 f670886 o670926 n670928 f670929 n670970 f670971 o671014 hz668951 bz668951 hJ668959 hx670748 ht670761 bo670860 ht670865 bo670883 ht670892 bo670926 ht670935 ht670974 bo671014 ht671017 r671019)⟩
            · have r671020 : 0 ≤ o671014.toInt := gj_nlt hc671018 (show Int32.toInt 0 = 0 by decide)
              have bo671014' : gB o671014 0 16777215 := ⟨by omega, by omega⟩
              refine G_aload_n 2 dr_cX14_word_283 rfl ?_
              refine G_iconst 1 dr_cX14_word_284 (by decide +kernel) ?_
              refine Gp_put 3 hm670987 he670998 dr_cX14_word_285 (gk_X14 D I) (Nat.le_of_ble_eq_true rfl) wr_9_39 rfl rfl rfl (Nat.le_of_ble_eq_true rfl) (fun F671021 e671022 n671023 => ?_)
              have he671024 : F671021 q668930 = .inl (I .byte, 8192, .inl f668944) := (n671023 q668930 (rn_ao he670999 he670998)).trans he670999
              have he671025 : F671021 q668960 = .inr (1, [.ref q670430, .int 0, .int 0, .int g670429]) := (n671023 q668960 (fun h => hq668973 (h ▸ hmq668929))).trans he671000
              have he671026 : F671021 q670430 = .inl (I .byte, n670431, .inl f670432) := (n671023 q670430 (fun h => hq670433 (h ▸ hmq668929))).trans he671001
              have he671027 : F671021 q670755 = .inr (0, [.ref q670756, .int 0, .int 0, .int 0]) := (n671023 q670755 (fun h => hq670778 (h ▸ hmq668929))).trans he671002
              have he671028 : F671021 q670756 = .inl (I .byte, n670757, .inl f670758) := (n671023 q670756 (fun h => hq670779 (h ▸ hmq668929))).trans he671003
              have he671029 : F671021 q668929 = .inr (19, [.ref q668930, .int p668931, .int g670428, .int 1, .int p668934, .int p668935, .int p668936, .ref q670755, .int p668938, .int p668939, .int p668940, .ref qo668941, .ref qo668942, .int p668943]) := e671022
              have hfr671030 : rFr [q668929] P668927 F668928 F671021 := rFr_put' List.mem_cons_self hfr671004 n671023
              exact G_vretA dr_cX14_word_288 rfl (show (10 + (g670428.toInt - p668932.toInt) : Int).toNat + 0 ≤ ((16 * (p668931.toInt - p668932.toInt)).toNat) by omega) (show (66 + 16 * (g670428.toInt - p668932.toInt) : Int).toNat + 0 ≤ ((160 * (p668931.toInt - p668932.toInt)).toNat) by omega) ⟨P670975, F671021, g670428, 1, p668935, q670755, (n670757, f670758), rfl, rfl, hsb670997, hfr671030, he671029, he671024, (by omega), (by omega), (gB_w bg670428' (by decide) (by decide)), (gB_w (gBl (show Int32.toInt 1 = 1 by decide)) (by decide) (by decide)), (by have qa0 : Int32.toInt 0 = 0 := (by decide); have qa1 : Int32.toInt 1 = 1 := (by decide); omega), (by have qa0 : Int32.toInt 0 = 0 := (by decide); have qa1 : Int32.toInt 1 = 1 := (by decide); omega), (tP_1 hm670991 he671027 hm670992 he671028 bf670758 (by omega) (gB_w (gBl (show Int32.toInt 0 = 0 by decide)) (by decide) (by decide)) (fun e => hq670779 (e ▸ x668948)) (fun e => hq670779 (e ▸ x668949))), (vP_no (by decide) (by decide)), (fun R c1 c2 c3 c4 c5 c6 => c2 z668951 g670428 g670429 n670431 f670432 n670757 f670758 o670860 f670861 o670883 n670885 f670886 o670926 n670928 f670929 n670970 f670971 o671014 hz668951 bz668951 hJ668959 hx670748 ht670761 bo670860 ht670865 bo670883 ht670892 bo670926 ht670935 ht670974 bo671014 ht671017 r671020)⟩
          · have r671031 : o670743.toInt ≠ 0 := gj_neq hc670746 (show Int32.toInt 0 = 0 by decide)
            have bo670743' : gB o670743 1 1 := ⟨by omega, by omega⟩
            have bi671032 : gB z670737 97 122 := isP_1 x670744 (by omega)
            refine G_aload_n 0 dr_cX14_word_212 rfl ?_
            refine G_aload_n 2 dr_cX14_word_213 rfl ?_
            refine Gp_get 0 hm670441 he670435 dr_cX14_word_214 (gk_X14 D I) (Nat.le_of_ble_eq_true rfl) wr_9_36 rfl ?_
            refine G_aload_n 2 dr_cX14_word_217 rfl ?_
            refine Gp_get 2 hm670441 he670435 dr_cX14_word_218 (gk_X14 D I) (Nat.le_of_ble_eq_true rfl) wr_9_38 rfl ?_
            refine Gp_bald 1 hm670442 he670436 dr_cX14_word_221 rfl (gB_in bg670428' (by decide) (by decide)) (G_eqi (y := z670737) hz670737.symm ?_)
            refine G_i2c dr_cX14_word_222 (G_nam fun z671033 hz671033 => ?_)
            have ez671033 : z671033.toInt = z670737.toInt := gI_i2c hz671033 (by omega) (by omega)
            have bz671033 : gB z671033 97 122 := ⟨by omega, by omega⟩
            refine Gw_callV (As := [.int z671033]) (gV_ok D I) (cp_669618_StringBuilder_append l hl0 D I P670440 F670434 q668960 q670430 z671033 0 g670429 f670432 n670431 hm670443 hm670444 he670437 he670438 (gB_w bz671033 (by decide) (by decide)) (gB_w (gBl (show Int32.toInt 0 = 0 by decide)) (by decide) (by decide)) bg670429 bf670432 (by have qa0 : Int32.toInt 0 = 0 := (by decide); have qa1 : Int32.toInt 6 = 6 := (by decide); omega) (by have qa0 : Int32.toInt 0 = 0 := (by decide); have qa1 : Int32.toInt 6 = 6 := (by decide); omega) (by have qa0 : Int32.toInt 0 = 0 := (by decide); have qa1 : Int32.toInt 6 = 6 := (by decide); omega) (by have qa0 : Int32.toInt 0 = 0 := (by decide); have qa1 : Int32.toInt 6 = 6 := (by decide); omega)) dr_cX14_word_223 ⟨wr_7_237, wr_1_20, wr_8_0, by decide, rfl, (Nat.le_of_ble_eq_true rfl), (Nat.le_of_ble_eq_true rfl)⟩ wr_7_238 wr_7_239 hm670443 he670437 rfl (show 2 + (g670429.toInt : Int).toNat + 0 + 1 ≤ ((16 * (p668931.toInt - p668932.toInt)).toNat) by first | omega | decide) (show 4 + 2 * n670431 + 0 + (4 * n670431 + 8) ≤ ((160 * (p668931.toInt - p668932.toInt)).toNat) by first | omega | decide) (Nat.le_of_ble_eq_true rfl) (fun r671037 w671038 dc671034 ds671035 hp671036 => ?_) (fun _ _ _ _ _ z => z.elim)
            obtain ⟨P671049, F671050, o671039, q671040, n671041, f671042, rfl, rfl, hsb671051, hfr671052, he671053, he671054, hm671055, hq671056, hdc, hds, bo671039, bf671042, x671043, x671044, x671045, x671046, x671047, ht671048⟩ := hp671036
            have hm671057 : q668929 ∈ P671049 := hsb671051 q668929 hm670441
            have hm671058 : q668930 ∈ P671049 := hsb671051 q668930 hm670442
            have hm671059 : q668960 ∈ P671049 := hsb671051 q668960 hm670443
            have hm671060 : q670430 ∈ P671049 := hsb671051 q670430 hm670444
            have hq671061 : q671040 ∉ P668927 := fun z => hq671056.elim (fun e => hq670433 (e ▸ z)) (fun n => n (hsb670445 _ z))
            have hsb671062 : rSub P668927 P671049 := rSub_tr hsb670445 hsb671051
            have he671063 : F671050 q668929 = .inr (19, [.ref q668930, .int p668931, .int g670428, .int 6, .int p668934, .int p668935, .int p668936, .ref qo668937, .int p668938, .int p668939, .int p668940, .ref qo668941, .ref qo668942, .int p668943]) := (hfr671052 q668929 hm670441 (nm_c (fun h => hq670433 (h ▸ hmq668929)) (nm_c (fun h => hq668973 (h ▸ hmq668929)) nm_n))).trans he670435
            have he671064 : F671050 q668930 = .inl (I .byte, 8192, .inl f668944) := (hfr671052 q668930 hm670442 (nm_c (fun h => hq670433 (h ▸ hmq668930)) (nm_c (fun h => hq668973 (h ▸ hmq668930)) nm_n))).trans he670436
            have hfr671065 : rFr [q668929] P668927 F668928 F671050 := rFr_call hsb670445 hfr670439 hfr671052 (fun b hb hn => ⟨(nm_c (fun e => hn (e ▸ List.mem_cons_self)) nm_n), (nm_c (fun e => hq670433 (e ▸ hb)) (nm_c (fun e => hq668973 (e ▸ hb)) nm_n))⟩)
            change G _ _ _ _ _ _ _ (.ref q668960 :: _) _ _ _
            refine G_widen (cs' := 2 + (g670429.toInt : Int).toNat + 0 + 1) (sl' := 4 + 2 * n670431 + 0 + (2 * (n671041 - n670431))) (by omega) (by omega) ?_
            refine G_pop dr_cX14_word_226 rfl ?_
            refine G_aload_n 2 dr_cX14_word_227 rfl ?_
            refine G_dup dr_cX14_word_228 rfl ?_
            refine Gp_get 2 hm671057 he671063 dr_cX14_word_229 (gk_X14 D I) (Nat.le_of_ble_eq_true rfl) wr_9_38 rfl ?_
            refine G_iconst 1 dr_cX14_word_232 (by decide +kernel) ?_
            refine G_iadd dr_cX14_word_233 (G_nam fun z671066 hz671066 => ?_)
            have ez671066 : z671066.toInt = g670428.toInt + 1 := by rw [gI_add hz671066 bg670428' (gBl (show Int32.toInt 1 = 1 by decide)) (by decide) (by decide), show Int32.toInt 1 = 1 from by decide]
            have bz671066 : gB z671066 1 8192 := gB_add (gI_add hz671066 bg670428' (gBl (show Int32.toInt 1 = 1 by decide)) (by decide) (by decide)) bg670428' (gBl (show Int32.toInt 1 = 1 by decide)) (by decide) (by decide)
            refine Gp_put 2 hm671057 he671063 dr_cX14_word_234 (gk_X14 D I) (Nat.le_of_ble_eq_true rfl) wr_9_38 rfl rfl rfl (Nat.le_of_ble_eq_true rfl) (fun F671067 e671068 n671069 => ?_)
            have he671070 : F671067 q668930 = .inl (I .byte, 8192, .inl f668944) := (n671069 q668930 (rn_ao he671064 he671063)).trans he671064
            have he671071 : F671067 q668960 = .inr (1, [.ref q671040, .int 0, .int 0, .int o671039]) := (n671069 q668960 (fun h => hq668973 (h ▸ hmq668929))).trans he671053
            have he671072 : F671067 q671040 = .inl (I .byte, n671041, .inl f671042) := (n671069 q671040 (fun h => hq671061 (h ▸ hmq668929))).trans he671054
            have he671073 : F671067 q668929 = .inr (19, [.ref q668930, .int p668931, .int z671066, .int 6, .int p668934, .int p668935, .int p668936, .ref qo668937, .int p668938, .int p668939, .int p668940, .ref qo668941, .ref qo668942, .int p668943]) := e671068
            have hfr671074 : rFr [q668929] P668927 F668928 F671067 := rFr_put' List.mem_cons_self hfr671065 n671069
            refine G_goto 186 dr_cX14_word_237 (by decide +kernel) ?_
            refine G_widen (cs' := 2 + (o671039.toInt : Int).toNat) (sl' := 4 + 2 * n671041) (by omega) (by omega) ?_
            exact ih186_670450 P671049 F671067 z671066 o671039 q671040 n671041 f671042 (gB_w bz671066 (by decide) (by decide)) (gB_w bo671039 (by decide) (by decide)) bf671042 hsb671062 hfr671074 hm671057 he671073 hm671058 he671070 hm671059 he671071 hm671055 he671072 hq671061 (by have qa0 : Int32.toInt 0 = 0 := (by decide); have qa1 : Int32.toInt 6 = 6 := (by decide); omega) (by have qa0 : Int32.toInt 0 = 0 := (by decide); have qa1 : Int32.toInt 6 = 6 := (by decide); omega) (by have qa0 : Int32.toInt 0 = 0 := (by decide); have qa1 : Int32.toInt 6 = 6 := (by decide); omega) (by have qa0 : Int32.toInt 0 = 0 := (by decide); have qa1 : Int32.toInt 6 = 6 := (by decide); omega) (by have qa0 : Int32.toInt 0 = 0 := (by decide); have qa1 : Int32.toInt 6 = 6 := (by decide); omega) (fun k e1 e2 e3 e4 ht => kt186_670450 k e1 e2 e3 e4 (fun R c1 c2 c3 => c3 g670428 g670429 n670431 f670432 z670737 o670743 z671033 o671039 n671041 f671042 z671066 k e1 e2 e3 e4 bg670428 bg670429 r670736 hz670737 bz670737 bo670743 ht670745 r671031 hz671033 bo671039 ht671048 ez671066 (ht R c1 c2 c3))) (by have qa0 : Int32.toInt 0 = 0 := (by decide); have qa1 : Int32.toInt 6 = 6 := (by decide); omega)
    exact hlp186_670450 (((8193 : Int) - p668932.toInt).toNat + 1) P668982 F668983 p668932 0 q668981 16 (fun _ => 0) bp668932 (gB_w (gBl (show Int32.toInt 0 = 0 by decide)) (by decide) (by decide)) (gF_w gF_0 (by decide) (by decide)) hsb668994 hfr668997 hm668990 he668995 hm668991 he668996 hm668992 he668986 hm668988 he668987 hq668993 (by have qa0 : Int32.toInt 0 = 0 := (by decide); have qa1 : Int32.toInt 6 = 6 := (by decide); omega) (by have qa0 : Int32.toInt 0 = 0 := (by decide); have qa1 : Int32.toInt 6 = 6 := (by decide); omega) (by have qa0 : Int32.toInt 0 = 0 := (by decide); have qa1 : Int32.toInt 6 = 6 := (by decide); omega) (by have qa0 : Int32.toInt 0 = 0 := (by decide); have qa1 : Int32.toInt 6 = 6 := (by decide); omega) (by have qa0 : Int32.toInt 0 = 0 := (by decide); have qa1 : Int32.toInt 6 = 6 := (by decide); omega) (fun k e1 e2 e3 e4 ht => ht) (Nat.lt_succ_self _)
  refine G_iload_n 0 dr_cX14_word_16 rfl ?_
  refine G_bipush 118 dr_cX14_word_17 (by decide +kernel) ?_
  refine G_icmp_eq 28 dr_cX14_word_19 (by decide +kernel) (fun hc671075 => ?_) (fun hc671075 => ?_)
  · have r671076 : z668951.toInt = 118 := gj_eq hc671075 (show Int32.toInt 118 = 118 by decide)
    have bz668951' : gB z668951 118 118 := ⟨by omega, by omega⟩
    refine G_aload_n 1 dr_cX14_word_28 rfl ?_
    refine Gp_get 2 hmq668929 he668956 dr_cX14_word_29 (gk_X14 D I) (Nat.le_of_ble_eq_true rfl) wr_9_38 rfl ?_
    refine G_iconst 1 dr_cX14_word_32 (by decide +kernel) ?_
    refine G_iadd dr_cX14_word_33 (G_nam fun z671077 hz671077 => ?_)
    have ez671077 : z671077.toInt = p668932.toInt + 1 := by rw [gI_add hz671077 bp668932 (gBl (show Int32.toInt 1 = 1 by decide)) (by decide) (by decide), show Int32.toInt 1 = 1 from by decide]
    have bz671077 : gB z671077 1 8193 := gB_add (gI_add hz671077 bp668932 (gBl (show Int32.toInt 1 = 1 by decide)) (by decide) (by decide)) bp668932 (gBl (show Int32.toInt 1 = 1 by decide)) (by decide) (by decide)
    refine G_aload_n 1 dr_cX14_word_34 rfl ?_
    refine Gp_get 1 hmq668929 he668956 dr_cX14_word_35 (gk_X14 D I) (Nat.le_of_ble_eq_true rfl) wr_9_37 rfl ?_
    refine G_icmp_ge 178 dr_cX14_word_38 (by decide +kernel) (fun hc671078 => ?_) (fun hc671078 => ?_)
    · have r671079 : p668931.toInt ≤ z671077.toInt := gC_le hc671078
      refine G_lv (L' := [(1, .int z668951), (0, .ref q668929)]) [0, 1] rfl ?_
      exact jn668958 (Or.inl ⟨z671077, r671076, ez671077, r671079⟩)
    · have r671080 : z671077.toInt < p668931.toInt := gC_nle hc671078
      have bz671077' : gB z671077 1 8191 := ⟨by omega, by omega⟩
      have bp668931' : gB p668931 2 8192 := ⟨by omega, by omega⟩
      refine G_aload_n 1 dr_cX14_word_41 rfl ?_
      refine Gp_get 0 hmq668929 he668956 dr_cX14_word_42 (gk_X14 D I) (Nat.le_of_ble_eq_true rfl) wr_9_36 rfl ?_
      refine G_aload_n 1 dr_cX14_word_45 rfl ?_
      refine Gp_get 2 hmq668929 he668956 dr_cX14_word_46 (gk_X14 D I) (Nat.le_of_ble_eq_true rfl) wr_9_38 rfl ?_
      refine G_iconst 1 dr_cX14_word_49 (by decide +kernel) ?_
      refine G_iadd dr_cX14_word_50 (G_eqi (y := z671077) hz671077.symm ?_)
      refine Gp_bald 1 hmq668930 he668955 dr_cX14_word_51 rfl (gB_in bz671077' (by decide) (by decide)) (G_nam fun z671081 hz671081 => ?_)
      have bz671081 : gB z671081 (-128) 127 := by rw [hz671081]; exact bf668944 _
      refine Gw_callS (As := [.int z671081]) (gV_ok D I) (cp_667344_Reader_isDigit l hl0 D I P668927 F668952 z671081 ) dr_cX14_word_52 ⟨wr_7_219, wr_1_32, wr_7_221, by decide, rfl, (Nat.le_of_ble_eq_true rfl), (Nat.le_of_ble_eq_true rfl)⟩ wr_7_220 (show 0 + 0 ≤ ((16 * (p668931.toInt - p668932.toInt)).toNat) by first | omega | decide) (show 0 + 0 ≤ ((160 * (p668931.toInt - p668932.toInt)).toNat) by first | omega | decide) (Nat.le_of_ble_eq_true rfl) (fun r671085 w671086 dc671082 ds671083 hp671084 => ?_) (fun _ _ _ _ _ z => z.elim)
      obtain ⟨o671087, rfl, rfl, hdc, hds, bo671087, x671088, ht671089⟩ := hp671084
      change G _ _ _ _ _ _ _ (.int o671087 :: _) _ _ _
      refine G_widen (cs' := 0) (sl' := 0) (by omega) (by omega) ?_
      refine G_if_eq 178 dr_cX14_word_55 (by decide +kernel) (fun hc671090 => ?_) (fun hc671090 => ?_)
      · have r671091 : o671087.toInt = 0 := gj_eq hc671090 (show Int32.toInt 0 = 0 by decide)
        have bo671087' : gB o671087 0 0 := ⟨by omega, by omega⟩
        refine G_lv (L' := [(1, .int z668951), (0, .ref q668929)]) [0, 1] rfl ?_
        exact jn668958 (Or.inr (Or.inl ⟨z671077, z671081, o671087, r671076, ez671077, r671080, hz671081, bz671081, bo671087, ht671089, r671091⟩))
      · have r671092 : o671087.toInt ≠ 0 := gj_neq hc671090 (show Int32.toInt 0 = 0 by decide)
        have bo671087' : gB o671087 1 1 := ⟨by omega, by omega⟩
        have bi671093 : gB z671081 48 57 := isP_1 x671088 (by omega)
        refine G_lconst 0 dr_cX14_word_58 rfl ?_
        refine G_lstore_n (L' := [(2, .long 0), (1, .int z668951), (0, .ref q668929)]) dr_cX14_word_59 (Nat.le_of_ble_eq_true rfl) rfl ?_
        refine G_aload_n 2 dr_cX14_word_60 rfl ?_
        refine G_dup dr_cX14_word_61 rfl ?_
        refine Gp_get 2 hmq668929 he668956 dr_cX14_word_62 (gk_X14 D I) (Nat.le_of_ble_eq_true rfl) wr_9_38 rfl ?_
        refine G_iconst 1 dr_cX14_word_65 (by decide +kernel) ?_
        refine G_iadd dr_cX14_word_66 (G_eqi (y := z671077) hz671077.symm ?_)
        refine Gp_put 2 hmq668929 he668956 dr_cX14_word_67 (gk_X14 D I) (Nat.le_of_ble_eq_true rfl) wr_9_38 rfl rfl rfl (Nat.le_of_ble_eq_true rfl) (fun F671094 e671095 n671096 => ?_)
        have he671097 : F671094 q668930 = .inl (I .byte, 8192, .inl f668944) := (n671096 q668930 (rn_ao he668955 he668956)).trans he668955
        have he671098 : F671094 q668929 = .inr (19, [.ref q668930, .int p668931, .int z671077, .int 6, .int p668934, .int p668935, .int p668936, .ref qo668937, .int p668938, .int p668939, .int p668940, .ref qo668941, .ref qo668942, .int p668943]) := e671095
        have hfr671099 : rFr [q668929] P668927 F668928 F671094 := rFr_put' List.mem_cons_self hfr668957 n671096
        have hlp70_671250 : ∀ (n70_671250 : Nat) (F671244 : Nat → va_E) (gl671242 : Int64) (g671243 : Int32), gB g671243 0 8192 → rFr [q668929] P668927 F668928 F671244 → F671244 q668929 = .inr (19, [.ref q668930, .int p668931, .int g671243, .int 6, .int p668934, .int p668935, .int p668936, .ref qo668937, .int p668938, .int p668939, .int p668940, .ref qo668941, .ref qo668942, .int p668943]) → F671244 q668930 = .inl (I .byte, 8192, .inl f668944) → LG gl671242 0 1000000 → p668932.toInt < g671243.toInt → g671243.toInt ≤ p668931.toInt → (∀ (k : Nat) (e1 : Int64) (e2 : Int32), tl_RReader_word_70 p668931 f668944 gl671242 g671243 k e1 e2 → tl_RReader_word_70 p668931 f668944 (0 : Int64) z671077 k e1 e2) → ((8193 : Int) - g671243.toInt).toNat < n70_671250 → G (gV D I) l (gRm 6 132 ((16 * (p668931.toInt - p668932.toInt)).toNat) ((160 * (p668931.toInt - p668932.toInt)).toNat)) (gMA (gV D I) (pp_668950_Reader_word D I P668927 F668928 q668929 q668930 p668931 p668932 p668933 p668934 p668935 p668936 qo668937 p668938 p668939 p668940 qo668941 qo668942 p668943 f668944) gNA ((16 * (p668931.toInt - p668932.toInt)).toNat) ((160 * (p668931.toInt - p668932.toInt)).toNat)) ky_668950_Reader_word 70 [(2, .long gl671242), (1, .int z668951), (0, .ref q668929)] [] (va_pl P668927 F671244) 0 0 := by
          intro n70_671250
          induction n70_671250 with
          | zero => intro F671244 gl671242 g671243 bg671243 hfr671247 he671245 he671246 x671248 x671249 x671250 kt70_671250 hm70_671250; exact absurd hm70_671250 (Nat.not_lt_zero _)
          | succ n70_671250 ih70_671250 =>
            intro F671244 gl671242 g671243 bg671243 hfr671247 he671245 he671246 x671248 x671249 x671250 kt70_671250 hm70_671250
            refine G_aload_n 2 dr_cX14_word_70 rfl ?_
            refine Gp_get 2 hmq668929 he671245 dr_cX14_word_71 (gk_X14 D I) (Nat.le_of_ble_eq_true rfl) wr_9_38 rfl ?_
            refine G_aload_n 2 dr_cX14_word_74 rfl ?_
            refine Gp_get 1 hmq668929 he671245 dr_cX14_word_75 (gk_X14 D I) (Nat.le_of_ble_eq_true rfl) wr_9_37 rfl ?_
            refine G_icmp_ge 136 dr_cX14_word_78 (by decide +kernel) (fun hc671251 => ?_) (fun hc671251 => ?_)
            · have r671252 : p668931.toInt ≤ g671243.toInt := gC_le hc671251
              have bg671243' : gB g671243 2 8192 := ⟨by omega, by omega⟩
              have hx671253 : tl_RReader_word_70 p668931 f668944 (0 : Int64) z671077 136 gl671242 g671243 := kt70_671250 136 gl671242 g671243 (fun R c1 c2 c3 => c1 gl671242 g671243 bg671243 r671252)
              clear he668955 he668956 hfr668957 jn668958 bz671077 bo671087' he671097 he671098 hfr671099; try clear r671085; try clear w671086; try clear dc671082; try clear ds671083; try clear hp671084; try clear x671088
              refine G_aload_n 2 dr_cX14_word_136 rfl ?_
              refine G_lload_n 0 dr_cX14_word_137 rfl ?_
              refine G_l2i dr_cX14_word_138 (G_nam fun z671254 hz671254 => ?_)
              have bz671254 : gB z671254 (-2147483648) 2147483647 := gB_any z671254
              refine Gp_put 5 hmq668929 he671245 dr_cX14_word_139 (gk_X14 D I) (Nat.le_of_ble_eq_true rfl) wr_9_41 rfl rfl rfl (Nat.le_of_ble_eq_true rfl) (fun F671255 e671256 n671257 => ?_)
              have he671258 : F671255 q668930 = .inl (I .byte, 8192, .inl f668944) := (n671257 q668930 (rn_ao he671246 he671245)).trans he671246
              have he671259 : F671255 q668929 = .inr (19, [.ref q668930, .int p668931, .int g671243, .int 6, .int p668934, .int z671254, .int p668936, .ref qo668937, .int p668938, .int p668939, .int p668940, .ref qo668941, .ref qo668942, .int p668943]) := e671256
              have hfr671260 : rFr [q668929] P668927 F668928 F671255 := rFr_put' List.mem_cons_self hfr671247 n671257
              refine G_lload_n 0 dr_cX14_word_142 rfl ?_
              refine G_iload_n 1 dr_cX14_word_143 rfl ?_
              refine G_bipush 118 dr_cX14_word_144 (by decide +kernel) ?_
              refine G_icmp_ne 155 dr_cX14_word_146 (by decide +kernel) (fun hc => absurd (show False by have := gj_neq hc (show Int32.toInt 118 = 118 by decide); omega) not_false) (fun _ => ?_)
              refine G_ldc2 99 dr_cX14_word_149 wr_7_233 ?_
              refine G_goto 158 dr_cX14_word_152 (by decide +kernel) ?_
              refine G_lcmp dr_cX14_word_158 (G_nam fun z671261 hz671261 => ?_)
              have bz671261 : gB z671261 (-1) 1 := gB_cmp hz671261
              refine G_if_gt 177 dr_cX14_word_159 (by decide +kernel) (fun hc671262 => ?_) (fun hc671262 => ?_)
              · have r671263 : 0 < z671261.toInt := gj_ltL hc671262 (show Int32.toInt 0 = 0 by decide)
                have bz671261' : gB z671261 1 1 := ⟨by omega, by omega⟩
                have lhc671262 := gC_cmpS hz671261 (by omega)
                exact G_vretA dr_cX14_word_177 rfl (show 0 ≤ ((16 * (p668931.toInt - p668932.toInt)).toNat) by omega) (show 0 ≤ ((160 * (p668931.toInt - p668932.toInt)).toNat) by omega) ⟨P668927, F671255, g671243, 6, z671254, qo668937, (0, fun _ => 0), rfl, rfl, (rSub_rf (P := P668927)), hfr671260, he671259, he671258, (by omega), (by omega), (gB_w bg671243' (by decide) (by decide)), (gB_w (gBl (show Int32.toInt 6 = 6 by decide)) (by decide) (by decide)), (by have qa0 : Int32.toInt 6 = 6 := (by decide); omega), (by have qa0 : Int32.toInt 6 = 6 := (by decide); omega), (tP_no (by decide) (by decide)), (vP_no (by decide) (by decide)), (fun R c1 c2 c3 c4 c5 c6 => c3 z668951 z671077 z671081 o671087 gl671242 g671243 z671254 z671261 hz668951 bz668951 r671076 ez671077 r671080 hz671081 bz671081 bo671087 ht671089 r671092 hx671253 hz671254 hz671261 r671263)⟩
              · have r671264 : z671261.toInt ≤ 0 := gj_nltL hc671262 (show Int32.toInt 0 = 0 by decide)
                have bz671261' : gB z671261 (-1) 0 := ⟨by omega, by omega⟩
                refine G_aload_n 2 dr_cX14_word_162 rfl ?_
                refine G_iload_n 1 dr_cX14_word_163 rfl ?_
                refine G_bipush 118 dr_cX14_word_164 (by decide +kernel) ?_
                refine G_icmp_ne 173 dr_cX14_word_166 (by decide +kernel) (fun hc => absurd (show False by have := gj_neq hc (show Int32.toInt 118 = 118 by decide); omega) not_false) (fun _ => ?_)
                refine G_iconst 2 dr_cX14_word_169 (by decide +kernel) ?_
                refine G_goto 174 dr_cX14_word_170 (by decide +kernel) ?_
                refine Gp_put 3 hmq668929 he671259 dr_cX14_word_174 (gk_X14 D I) (Nat.le_of_ble_eq_true rfl) wr_9_39 rfl rfl rfl (Nat.le_of_ble_eq_true rfl) (fun F671265 e671266 n671267 => ?_)
                have he671268 : F671265 q668930 = .inl (I .byte, 8192, .inl f668944) := (n671267 q668930 (rn_ao he671258 he671259)).trans he671258
                have he671269 : F671265 q668929 = .inr (19, [.ref q668930, .int p668931, .int g671243, .int 2, .int p668934, .int z671254, .int p668936, .ref qo668937, .int p668938, .int p668939, .int p668940, .ref qo668941, .ref qo668942, .int p668943]) := e671266
                have hfr671270 : rFr [q668929] P668927 F668928 F671265 := rFr_put' List.mem_cons_self hfr671260 n671267
                exact G_vretA dr_cX14_word_177 rfl (show 0 ≤ ((16 * (p668931.toInt - p668932.toInt)).toNat) by omega) (show 0 ≤ ((160 * (p668931.toInt - p668932.toInt)).toNat) by omega) ⟨P668927, F671265, g671243, 2, z671254, qo668937, (0, fun _ => 0), rfl, rfl, (rSub_rf (P := P668927)), hfr671270, he671269, he671268, (by omega), (by omega), (gB_w bg671243' (by decide) (by decide)), (gB_w (gBl (show Int32.toInt 2 = 2 by decide)) (by decide) (by decide)), (by have qa0 : Int32.toInt 2 = 2 := (by decide); omega), (by have qa0 : Int32.toInt 2 = 2 := (by decide); omega), (tP_no (by decide) (by decide)), (vP_r (by assumption) (by assumption) (by assumption) (by omega)), (fun R c1 c2 c3 c4 c5 c6 => c4 z668951 z671077 z671081 o671087 gl671242 g671243 z671254 z671261 hz668951 bz668951 r671076 ez671077 r671080 hz671081 bz671081 bo671087 ht671089 r671092 hx671253 hz671254 hz671261 r671264)⟩
            · have r671271 : g671243.toInt < p668931.toInt := gC_nle hc671251
              have bg671243' : gB g671243 0 8191 := ⟨by omega, by omega⟩
              refine G_aload_n 2 dr_cX14_word_81 rfl ?_
              refine Gp_get 0 hmq668929 he671245 dr_cX14_word_82 (gk_X14 D I) (Nat.le_of_ble_eq_true rfl) wr_9_36 rfl ?_
              refine G_aload_n 2 dr_cX14_word_85 rfl ?_
              refine Gp_get 2 hmq668929 he671245 dr_cX14_word_86 (gk_X14 D I) (Nat.le_of_ble_eq_true rfl) wr_9_38 rfl ?_
              refine Gp_bald 1 hmq668930 he671246 dr_cX14_word_89 rfl (gB_in bg671243' (by decide) (by decide)) (G_nam fun z671272 hz671272 => ?_)
              have bz671272 : gB z671272 (-128) 127 := by rw [hz671272]; exact bf668944 _
              refine Gw_callS (As := [.int z671272]) (gV_ok D I) (cp_667344_Reader_isDigit l hl0 D I P668927 F671244 z671272 ) dr_cX14_word_90 ⟨wr_7_219, wr_1_32, wr_7_221, by decide, rfl, (Nat.le_of_ble_eq_true rfl), (Nat.le_of_ble_eq_true rfl)⟩ wr_7_220 (show 0 + 0 ≤ ((16 * (p668931.toInt - p668932.toInt)).toNat) by first | omega | decide) (show 0 + 0 ≤ ((160 * (p668931.toInt - p668932.toInt)).toNat) by first | omega | decide) (Nat.le_of_ble_eq_true rfl) (fun r671276 w671277 dc671273 ds671274 hp671275 => ?_) (fun _ _ _ _ _ z => z.elim)
              obtain ⟨o671278, rfl, rfl, hdc, hds, bo671278, x671279, ht671280⟩ := hp671275
              change G _ _ _ _ _ _ _ (.int o671278 :: _) _ _ _
              refine G_widen (cs' := 0) (sl' := 0) (by omega) (by omega) ?_
              refine G_if_eq 136 dr_cX14_word_93 (by decide +kernel) (fun hc671281 => ?_) (fun hc671281 => ?_)
              · have r671282 : o671278.toInt = 0 := gj_eq hc671281 (show Int32.toInt 0 = 0 by decide)
                have bo671278' : gB o671278 0 0 := ⟨by omega, by omega⟩
                have hx671283 : tl_RReader_word_70 p668931 f668944 (0 : Int64) z671077 136 gl671242 g671243 := kt70_671250 136 gl671242 g671243 (fun R c1 c2 c3 => c2 gl671242 g671243 z671272 o671278 bg671243 r671271 hz671272 bz671272 bo671278 ht671280 r671282)
                clear he668955 he668956 hfr668957 jn668958 bz671077 bo671087' he671097 he671098 hfr671099 bo671278 ht671280 bo671278'; try clear r671085; try clear w671086; try clear dc671082; try clear ds671083; try clear hp671084; try clear x671088; try clear r671276; try clear w671277; try clear dc671273; try clear ds671274; try clear hp671275; try clear x671279; try clear r671282
                refine G_aload_n 2 dr_cX14_word_136 rfl ?_
                refine G_lload_n 0 dr_cX14_word_137 rfl ?_
                refine G_l2i dr_cX14_word_138 (G_nam fun z671284 hz671284 => ?_)
                have bz671284 : gB z671284 (-2147483648) 2147483647 := gB_any z671284
                refine Gp_put 5 hmq668929 he671245 dr_cX14_word_139 (gk_X14 D I) (Nat.le_of_ble_eq_true rfl) wr_9_41 rfl rfl rfl (Nat.le_of_ble_eq_true rfl) (fun F671285 e671286 n671287 => ?_)
                have he671288 : F671285 q668930 = .inl (I .byte, 8192, .inl f668944) := (n671287 q668930 (rn_ao he671246 he671245)).trans he671246
                have he671289 : F671285 q668929 = .inr (19, [.ref q668930, .int p668931, .int g671243, .int 6, .int p668934, .int z671284, .int p668936, .ref qo668937, .int p668938, .int p668939, .int p668940, .ref qo668941, .ref qo668942, .int p668943]) := e671286
                have hfr671290 : rFr [q668929] P668927 F668928 F671285 := rFr_put' List.mem_cons_self hfr671247 n671287
                refine G_lload_n 0 dr_cX14_word_142 rfl ?_
                refine G_iload_n 1 dr_cX14_word_143 rfl ?_
                refine G_bipush 118 dr_cX14_word_144 (by decide +kernel) ?_
                refine G_icmp_ne 155 dr_cX14_word_146 (by decide +kernel) (fun hc => absurd (show False by have := gj_neq hc (show Int32.toInt 118 = 118 by decide); omega) not_false) (fun _ => ?_)
                refine G_ldc2 99 dr_cX14_word_149 wr_7_233 ?_
                refine G_goto 158 dr_cX14_word_152 (by decide +kernel) ?_
                refine G_lcmp dr_cX14_word_158 (G_nam fun z671291 hz671291 => ?_)
                have bz671291 : gB z671291 (-1) 1 := gB_cmp hz671291
                refine G_if_gt 177 dr_cX14_word_159 (by decide +kernel) (fun hc671292 => ?_) (fun hc671292 => ?_)
                · have r671293 : 0 < z671291.toInt := gj_ltL hc671292 (show Int32.toInt 0 = 0 by decide)
                  have bz671291' : gB z671291 1 1 := ⟨by omega, by omega⟩
                  have lhc671292 := gC_cmpS hz671291 (by omega)
                  exact G_vretA dr_cX14_word_177 rfl (show 0 ≤ ((16 * (p668931.toInt - p668932.toInt)).toNat) by omega) (show 0 ≤ ((160 * (p668931.toInt - p668932.toInt)).toNat) by omega) ⟨P668927, F671285, g671243, 6, z671284, qo668937, (0, fun _ => 0), rfl, rfl, (rSub_rf (P := P668927)), hfr671290, he671289, he671288, (by omega), (by omega), (gB_w bg671243' (by decide) (by decide)), (gB_w (gBl (show Int32.toInt 6 = 6 by decide)) (by decide) (by decide)), (by have qa0 : Int32.toInt 6 = 6 := (by decide); omega), (by have qa0 : Int32.toInt 6 = 6 := (by decide); omega), (tP_no (by decide) (by decide)), (vP_no (by decide) (by decide)), (fun R c1 c2 c3 c4 c5 c6 => c3 z668951 z671077 z671081 o671087 gl671242 g671243 z671284 z671291 hz668951 bz668951 r671076 ez671077 r671080 hz671081 bz671081 bo671087 ht671089 r671092 hx671283 hz671284 hz671291 r671293)⟩
                · have r671294 : z671291.toInt ≤ 0 := gj_nltL hc671292 (show Int32.toInt 0 = 0 by decide)
                  have bz671291' : gB z671291 (-1) 0 := ⟨by omega, by omega⟩
                  refine G_aload_n 2 dr_cX14_word_162 rfl ?_
                  refine G_iload_n 1 dr_cX14_word_163 rfl ?_
                  refine G_bipush 118 dr_cX14_word_164 (by decide +kernel) ?_
                  refine G_icmp_ne 173 dr_cX14_word_166 (by decide +kernel) (fun hc => absurd (show False by have := gj_neq hc (show Int32.toInt 118 = 118 by decide); omega) not_false) (fun _ => ?_)
                  refine G_iconst 2 dr_cX14_word_169 (by decide +kernel) ?_
                  refine G_goto 174 dr_cX14_word_170 (by decide +kernel) ?_
                  refine Gp_put 3 hmq668929 he671289 dr_cX14_word_174 (gk_X14 D I) (Nat.le_of_ble_eq_true rfl) wr_9_39 rfl rfl rfl (Nat.le_of_ble_eq_true rfl) (fun F671295 e671296 n671297 => ?_)
                  have he671298 : F671295 q668930 = .inl (I .byte, 8192, .inl f668944) := (n671297 q668930 (rn_ao he671288 he671289)).trans he671288
                  have he671299 : F671295 q668929 = .inr (19, [.ref q668930, .int p668931, .int g671243, .int 2, .int p668934, .int z671284, .int p668936, .ref qo668937, .int p668938, .int p668939, .int p668940, .ref qo668941, .ref qo668942, .int p668943]) := e671296
                  have hfr671300 : rFr [q668929] P668927 F668928 F671295 := rFr_put' List.mem_cons_self hfr671290 n671297
                  exact G_vretA dr_cX14_word_177 rfl (show 0 ≤ ((16 * (p668931.toInt - p668932.toInt)).toNat) by omega) (show 0 ≤ ((160 * (p668931.toInt - p668932.toInt)).toNat) by omega) ⟨P668927, F671295, g671243, 2, z671284, qo668937, (0, fun _ => 0), rfl, rfl, (rSub_rf (P := P668927)), hfr671300, he671299, he671298, (by omega), (by omega), (gB_w bg671243' (by decide) (by decide)), (gB_w (gBl (show Int32.toInt 2 = 2 by decide)) (by decide) (by decide)), (by have qa0 : Int32.toInt 2 = 2 := (by decide); omega), (by have qa0 : Int32.toInt 2 = 2 := (by decide); omega), (tP_no (by decide) (by decide)), (vP_r (by assumption) (by assumption) (by assumption) (by omega)), (fun R c1 c2 c3 c4 c5 c6 => c4 z668951 z671077 z671081 o671087 gl671242 g671243 z671284 z671291 hz668951 bz668951 r671076 ez671077 r671080 hz671081 bz671081 bo671087 ht671089 r671092 hx671283 hz671284 hz671291 r671294)⟩
              · have r671301 : o671278.toInt ≠ 0 := gj_neq hc671281 (show Int32.toInt 0 = 0 by decide)
                have bo671278' : gB o671278 1 1 := ⟨by omega, by omega⟩
                have bi671302 : gB z671272 48 57 := isP_1 x671279 (by omega)
                refine G_lload_n 0 dr_cX14_word_96 rfl ?_
                refine G_ldc2 10 dr_cX14_word_97 wr_7_229 ?_
                refine G_lmul dr_cX14_word_100 (G_namL fun u671303 hu671303 => ?_)
                refine G_aload_n 2 dr_cX14_word_101 rfl ?_
                refine Gp_get 0 hmq668929 he671245 dr_cX14_word_102 (gk_X14 D I) (Nat.le_of_ble_eq_true rfl) wr_9_36 rfl ?_
                refine G_aload_n 2 dr_cX14_word_105 rfl ?_
                refine Gp_get 2 hmq668929 he671245 dr_cX14_word_106 (gk_X14 D I) (Nat.le_of_ble_eq_true rfl) wr_9_38 rfl ?_
                refine Gp_bald 1 hmq668930 he671246 dr_cX14_word_109 rfl (gB_in bg671243' (by decide) (by decide)) (G_eqi (y := z671272) hz671272.symm ?_)
                refine G_i2l dr_cX14_word_110 (G_namL fun u671304 hu671304 => ?_)
                refine G_ladd dr_cX14_word_111 (G_namL fun u671305 hu671305 => ?_)
                refine G_ldc2 48 dr_cX14_word_112 wr_7_230 ?_
                refine G_lsub dr_cX14_word_115 (G_namL fun u671306 hu671306 => ?_)
                refine G_ldc2 1000000 dr_cX14_word_116 wr_7_231 ?_
                refine Gw_callS (As := [.long u671306, .long 1000000]) (gV_ok D I) (cp_667398_Math_min l hl0 D I P668927 F671244 u671306 1000000 ) dr_cX14_word_119 ⟨wr_7_232, wr_1_6, wr_3_40, by decide, rfl, (Nat.le_of_ble_eq_true rfl), (Nat.le_of_ble_eq_true rfl)⟩ wr_3_39 (show 0 + 0 ≤ ((16 * (p668931.toInt - p668932.toInt)).toNat) by first | omega | decide) (show 0 + 0 ≤ ((160 * (p668931.toInt - p668932.toInt)).toNat) by first | omega | decide) (Nat.le_of_ble_eq_true rfl) (fun r671310 w671311 dc671307 ds671308 hp671309 => ?_) (fun _ _ _ _ _ z => z.elim)
                obtain ⟨ol671312, rfl, rfl, hdc, hds, x671313, ht671314⟩ := hp671309
                change G _ _ _ _ _ _ _ (.long ol671312 :: _) _ _ _
                refine G_widen (cs' := 0) (sl' := 0) (by omega) (by omega) ?_
                refine G_lstore_n (L' := [(2, .long ol671312), (1, .int z668951), (0, .ref q668929)]) dr_cX14_word_122 (Nat.le_of_ble_eq_true rfl) rfl ?_
                refine G_aload_n 2 dr_cX14_word_123 rfl ?_
                refine G_dup dr_cX14_word_124 rfl ?_
                refine Gp_get 2 hmq668929 he671245 dr_cX14_word_125 (gk_X14 D I) (Nat.le_of_ble_eq_true rfl) wr_9_38 rfl ?_
                refine G_iconst 1 dr_cX14_word_128 (by decide +kernel) ?_
                refine G_iadd dr_cX14_word_129 (G_nam fun z671315 hz671315 => ?_)
                have ez671315 : z671315.toInt = g671243.toInt + 1 := by rw [gI_add hz671315 bg671243' (gBl (show Int32.toInt 1 = 1 by decide)) (by decide) (by decide), show Int32.toInt 1 = 1 from by decide]
                have bz671315 : gB z671315 1 8192 := gB_add (gI_add hz671315 bg671243' (gBl (show Int32.toInt 1 = 1 by decide)) (by decide) (by decide)) bg671243' (gBl (show Int32.toInt 1 = 1 by decide)) (by decide) (by decide)
                refine Gp_put 2 hmq668929 he671245 dr_cX14_word_130 (gk_X14 D I) (Nat.le_of_ble_eq_true rfl) wr_9_38 rfl rfl rfl (Nat.le_of_ble_eq_true rfl) (fun F671316 e671317 n671318 => ?_)
                have he671319 : F671316 q668930 = .inl (I .byte, 8192, .inl f668944) := (n671318 q668930 (rn_ao he671246 he671245)).trans he671246
                have he671320 : F671316 q668929 = .inr (19, [.ref q668930, .int p668931, .int z671315, .int 6, .int p668934, .int p668935, .int p668936, .ref qo668937, .int p668938, .int p668939, .int p668940, .ref qo668941, .ref qo668942, .int p668943]) := e671317
                have hfr671321 : rFr [q668929] P668927 F668928 F671316 := rFr_put' List.mem_cons_self hfr671247 n671318
                refine G_goto 70 dr_cX14_word_133 (by decide +kernel) ?_
                exact ih70_671250 F671316 ol671312 z671315 (gB_w bz671315 (by decide) (by decide)) hfr671321 he671320 he671319 (lgSt (by assumption) (by assumption) (by assumption) (by assumption) (by assumption) (by assumption) (by omega) (by omega)) (by have qa0 : Int32.toInt 6 = 6 := (by decide); omega) (by have qa0 : Int32.toInt 6 = 6 := (by decide); omega) (fun k e1 e2 ht => kt70_671250 k e1 e2 (fun R c1 c2 c3 => c3 gl671242 g671243 z671272 o671278 u671303 u671304 u671305 u671306 ol671312 z671315 k e1 e2 bg671243 r671271 hz671272 bz671272 bo671278 ht671280 r671301 hu671303 hu671304 hu671305 hu671306 ht671314 ez671315 (ht R c1 c2 c3))) (by have qa0 : Int32.toInt 6 = 6 := (by decide); omega)
        exact hlp70_671250 (((8193 : Int) - z671077.toInt).toNat + 1) F671094 0 z671077 (gB_w bz671077' (by decide) (by decide)) hfr671099 he671098 he671097 LG_0 (by have qa0 : Int32.toInt 6 = 6 := (by decide); omega) (by have qa0 : Int32.toInt 6 = 6 := (by decide); omega) (fun k e1 e2 ht => ht) (Nat.lt_succ_self _)
  · have r671322 : z668951.toInt ≠ 118 := gj_neq hc671075 (show Int32.toInt 118 = 118 by decide)
    refine G_iload_n 0 dr_cX14_word_22 rfl ?_
    refine G_bipush 98 dr_cX14_word_23 (by decide +kernel) ?_
    refine G_icmp_ne 178 dr_cX14_word_25 (by decide +kernel) (fun hc671323 => ?_) (fun hc671323 => ?_)
    · have r671324 : z668951.toInt ≠ 98 := gj_neq hc671323 (show Int32.toInt 98 = 98 by decide)
      refine G_lv (L' := [(1, .int z668951), (0, .ref q668929)]) [0, 1] rfl ?_
      exact jn668958 (Or.inr (Or.inr (Or.inl ⟨r671322, r671324⟩)))
    · have r671325 : z668951.toInt = 98 := gj_eq hc671323 (show Int32.toInt 98 = 98 by decide)
      have bz668951' : gB z668951 98 98 := ⟨by omega, by omega⟩
      refine G_aload_n 1 dr_cX14_word_28 rfl ?_
      refine Gp_get 2 hmq668929 he668956 dr_cX14_word_29 (gk_X14 D I) (Nat.le_of_ble_eq_true rfl) wr_9_38 rfl ?_
      refine G_iconst 1 dr_cX14_word_32 (by decide +kernel) ?_
      refine G_iadd dr_cX14_word_33 (G_nam fun z671326 hz671326 => ?_)
      have ez671326 : z671326.toInt = p668932.toInt + 1 := by rw [gI_add hz671326 bp668932 (gBl (show Int32.toInt 1 = 1 by decide)) (by decide) (by decide), show Int32.toInt 1 = 1 from by decide]
      have bz671326 : gB z671326 1 8193 := gB_add (gI_add hz671326 bp668932 (gBl (show Int32.toInt 1 = 1 by decide)) (by decide) (by decide)) bp668932 (gBl (show Int32.toInt 1 = 1 by decide)) (by decide) (by decide)
      refine G_aload_n 1 dr_cX14_word_34 rfl ?_
      refine Gp_get 1 hmq668929 he668956 dr_cX14_word_35 (gk_X14 D I) (Nat.le_of_ble_eq_true rfl) wr_9_37 rfl ?_
      refine G_icmp_ge 178 dr_cX14_word_38 (by decide +kernel) (fun hc671327 => ?_) (fun hc671327 => ?_)
      · have r671328 : p668931.toInt ≤ z671326.toInt := gC_le hc671327
        refine G_lv (L' := [(1, .int z668951), (0, .ref q668929)]) [0, 1] rfl ?_
        exact jn668958 (Or.inr (Or.inr (Or.inr (Or.inl ⟨z671326, r671322, r671325, ez671326, r671328⟩))))
      · have r671329 : z671326.toInt < p668931.toInt := gC_nle hc671327
        have bz671326' : gB z671326 1 8191 := ⟨by omega, by omega⟩
        have bp668931' : gB p668931 2 8192 := ⟨by omega, by omega⟩
        refine G_aload_n 1 dr_cX14_word_41 rfl ?_
        refine Gp_get 0 hmq668929 he668956 dr_cX14_word_42 (gk_X14 D I) (Nat.le_of_ble_eq_true rfl) wr_9_36 rfl ?_
        refine G_aload_n 1 dr_cX14_word_45 rfl ?_
        refine Gp_get 2 hmq668929 he668956 dr_cX14_word_46 (gk_X14 D I) (Nat.le_of_ble_eq_true rfl) wr_9_38 rfl ?_
        refine G_iconst 1 dr_cX14_word_49 (by decide +kernel) ?_
        refine G_iadd dr_cX14_word_50 (G_eqi (y := z671326) hz671326.symm ?_)
        refine Gp_bald 1 hmq668930 he668955 dr_cX14_word_51 rfl (gB_in bz671326' (by decide) (by decide)) (G_nam fun z671330 hz671330 => ?_)
        have bz671330 : gB z671330 (-128) 127 := by rw [hz671330]; exact bf668944 _
        refine Gw_callS (As := [.int z671330]) (gV_ok D I) (cp_667344_Reader_isDigit l hl0 D I P668927 F668952 z671330 ) dr_cX14_word_52 ⟨wr_7_219, wr_1_32, wr_7_221, by decide, rfl, (Nat.le_of_ble_eq_true rfl), (Nat.le_of_ble_eq_true rfl)⟩ wr_7_220 (show 0 + 0 ≤ ((16 * (p668931.toInt - p668932.toInt)).toNat) by first | omega | decide) (show 0 + 0 ≤ ((160 * (p668931.toInt - p668932.toInt)).toNat) by first | omega | decide) (Nat.le_of_ble_eq_true rfl) (fun r671334 w671335 dc671331 ds671332 hp671333 => ?_) (fun _ _ _ _ _ z => z.elim)
        obtain ⟨o671336, rfl, rfl, hdc, hds, bo671336, x671337, ht671338⟩ := hp671333
        change G _ _ _ _ _ _ _ (.int o671336 :: _) _ _ _
        refine G_widen (cs' := 0) (sl' := 0) (by omega) (by omega) ?_
        refine G_if_eq 178 dr_cX14_word_55 (by decide +kernel) (fun hc671339 => ?_) (fun hc671339 => ?_)
        · have r671340 : o671336.toInt = 0 := gj_eq hc671339 (show Int32.toInt 0 = 0 by decide)
          have bo671336' : gB o671336 0 0 := ⟨by omega, by omega⟩
          refine G_lv (L' := [(1, .int z668951), (0, .ref q668929)]) [0, 1] rfl ?_
          exact jn668958 (Or.inr (Or.inr (Or.inr (Or.inr (⟨z671326, z671330, o671336, r671322, r671325, ez671326, r671329, hz671330, bz671330, bo671336, ht671338, r671340⟩)))))
        · have r671341 : o671336.toInt ≠ 0 := gj_neq hc671339 (show Int32.toInt 0 = 0 by decide)
          have bo671336' : gB o671336 1 1 := ⟨by omega, by omega⟩
          have bi671342 : gB z671330 48 57 := isP_1 x671337 (by omega)
          refine G_lconst 0 dr_cX14_word_58 rfl ?_
          refine G_lstore_n (L' := [(2, .long 0), (1, .int z668951), (0, .ref q668929)]) dr_cX14_word_59 (Nat.le_of_ble_eq_true rfl) rfl ?_
          refine G_aload_n 2 dr_cX14_word_60 rfl ?_
          refine G_dup dr_cX14_word_61 rfl ?_
          refine Gp_get 2 hmq668929 he668956 dr_cX14_word_62 (gk_X14 D I) (Nat.le_of_ble_eq_true rfl) wr_9_38 rfl ?_
          refine G_iconst 1 dr_cX14_word_65 (by decide +kernel) ?_
          refine G_iadd dr_cX14_word_66 (G_eqi (y := z671326) hz671326.symm ?_)
          refine Gp_put 2 hmq668929 he668956 dr_cX14_word_67 (gk_X14 D I) (Nat.le_of_ble_eq_true rfl) wr_9_38 rfl rfl rfl (Nat.le_of_ble_eq_true rfl) (fun F671343 e671344 n671345 => ?_)
          have he671346 : F671343 q668930 = .inl (I .byte, 8192, .inl f668944) := (n671345 q668930 (rn_ao he668955 he668956)).trans he668955
          have he671347 : F671343 q668929 = .inr (19, [.ref q668930, .int p668931, .int z671326, .int 6, .int p668934, .int p668935, .int p668936, .ref qo668937, .int p668938, .int p668939, .int p668940, .ref qo668941, .ref qo668942, .int p668943]) := e671344
          have hfr671348 : rFr [q668929] P668927 F668928 F671343 := rFr_put' List.mem_cons_self hfr668957 n671345
          have hlp70_671499 : ∀ (n70_671499 : Nat) (F671493 : Nat → va_E) (gl671491 : Int64) (g671492 : Int32), gB g671492 0 8192 → rFr [q668929] P668927 F668928 F671493 → F671493 q668929 = .inr (19, [.ref q668930, .int p668931, .int g671492, .int 6, .int p668934, .int p668935, .int p668936, .ref qo668937, .int p668938, .int p668939, .int p668940, .ref qo668941, .ref qo668942, .int p668943]) → F671493 q668930 = .inl (I .byte, 8192, .inl f668944) → LG gl671491 0 1000000 → p668932.toInt < g671492.toInt → g671492.toInt ≤ p668931.toInt → (∀ (k : Nat) (e1 : Int64) (e2 : Int32), tl_RReader_word_70_2 p668931 f668944 gl671491 g671492 k e1 e2 → tl_RReader_word_70_2 p668931 f668944 (0 : Int64) z671326 k e1 e2) → ((8193 : Int) - g671492.toInt).toNat < n70_671499 → G (gV D I) l (gRm 6 132 ((16 * (p668931.toInt - p668932.toInt)).toNat) ((160 * (p668931.toInt - p668932.toInt)).toNat)) (gMA (gV D I) (pp_668950_Reader_word D I P668927 F668928 q668929 q668930 p668931 p668932 p668933 p668934 p668935 p668936 qo668937 p668938 p668939 p668940 qo668941 qo668942 p668943 f668944) gNA ((16 * (p668931.toInt - p668932.toInt)).toNat) ((160 * (p668931.toInt - p668932.toInt)).toNat)) ky_668950_Reader_word 70 [(2, .long gl671491), (1, .int z668951), (0, .ref q668929)] [] (va_pl P668927 F671493) 0 0 := by
            intro n70_671499
            induction n70_671499 with
            | zero => intro F671493 gl671491 g671492 bg671492 hfr671496 he671494 he671495 x671497 x671498 x671499 kt70_671499 hm70_671499; exact absurd hm70_671499 (Nat.not_lt_zero _)
            | succ n70_671499 ih70_671499 =>
              intro F671493 gl671491 g671492 bg671492 hfr671496 he671494 he671495 x671497 x671498 x671499 kt70_671499 hm70_671499
              refine G_aload_n 2 dr_cX14_word_70 rfl ?_
              refine Gp_get 2 hmq668929 he671494 dr_cX14_word_71 (gk_X14 D I) (Nat.le_of_ble_eq_true rfl) wr_9_38 rfl ?_
              refine G_aload_n 2 dr_cX14_word_74 rfl ?_
              refine Gp_get 1 hmq668929 he671494 dr_cX14_word_75 (gk_X14 D I) (Nat.le_of_ble_eq_true rfl) wr_9_37 rfl ?_
              refine G_icmp_ge 136 dr_cX14_word_78 (by decide +kernel) (fun hc671500 => ?_) (fun hc671500 => ?_)
              · have r671501 : p668931.toInt ≤ g671492.toInt := gC_le hc671500
                have bg671492' : gB g671492 2 8192 := ⟨by omega, by omega⟩
                have hx671502 : tl_RReader_word_70_2 p668931 f668944 (0 : Int64) z671326 136 gl671491 g671492 := kt70_671499 136 gl671491 g671492 (fun R c1 c2 c3 => c1 gl671491 g671492 bg671492 r671501)
                clear he668955 he668956 hfr668957 jn668958 bz671326 bo671336' he671346 he671347 hfr671348; try clear r671334; try clear w671335; try clear dc671331; try clear ds671332; try clear hp671333; try clear x671337
                refine G_aload_n 2 dr_cX14_word_136 rfl ?_
                refine G_lload_n 0 dr_cX14_word_137 rfl ?_
                refine G_l2i dr_cX14_word_138 (G_nam fun z671503 hz671503 => ?_)
                have bz671503 : gB z671503 (-2147483648) 2147483647 := gB_any z671503
                refine Gp_put 5 hmq668929 he671494 dr_cX14_word_139 (gk_X14 D I) (Nat.le_of_ble_eq_true rfl) wr_9_41 rfl rfl rfl (Nat.le_of_ble_eq_true rfl) (fun F671504 e671505 n671506 => ?_)
                have he671507 : F671504 q668930 = .inl (I .byte, 8192, .inl f668944) := (n671506 q668930 (rn_ao he671495 he671494)).trans he671495
                have he671508 : F671504 q668929 = .inr (19, [.ref q668930, .int p668931, .int g671492, .int 6, .int p668934, .int z671503, .int p668936, .ref qo668937, .int p668938, .int p668939, .int p668940, .ref qo668941, .ref qo668942, .int p668943]) := e671505
                have hfr671509 : rFr [q668929] P668927 F668928 F671504 := rFr_put' List.mem_cons_self hfr671496 n671506
                refine G_lload_n 0 dr_cX14_word_142 rfl ?_
                refine G_iload_n 1 dr_cX14_word_143 rfl ?_
                refine G_bipush 118 dr_cX14_word_144 (by decide +kernel) ?_
                refine G_icmp_ne 155 dr_cX14_word_146 (by decide +kernel) (fun _ => ?_) (fun hc => absurd (show False by have := gj_eq hc (show Int32.toInt 118 = 118 by decide); omega) not_false)
                refine G_ldc2 39 dr_cX14_word_155 wr_7_234 ?_
                refine G_lcmp dr_cX14_word_158 (G_nam fun z671510 hz671510 => ?_)
                have bz671510 : gB z671510 (-1) 1 := gB_cmp hz671510
                refine G_if_gt 177 dr_cX14_word_159 (by decide +kernel) (fun hc671511 => ?_) (fun hc671511 => ?_)
                · have r671512 : 0 < z671510.toInt := gj_ltL hc671511 (show Int32.toInt 0 = 0 by decide)
                  have bz671510' : gB z671510 1 1 := ⟨by omega, by omega⟩
                  have lhc671511 := gC_cmpS hz671510 (by omega)
                  exact G_vretA dr_cX14_word_177 rfl (show 0 ≤ ((16 * (p668931.toInt - p668932.toInt)).toNat) by omega) (show 0 ≤ ((160 * (p668931.toInt - p668932.toInt)).toNat) by omega) ⟨P668927, F671504, g671492, 6, z671503, qo668937, (0, fun _ => 0), rfl, rfl, (rSub_rf (P := P668927)), hfr671509, he671508, he671507, (by omega), (by omega), (gB_w bg671492' (by decide) (by decide)), (gB_w (gBl (show Int32.toInt 6 = 6 by decide)) (by decide) (by decide)), (by have qa0 : Int32.toInt 6 = 6 := (by decide); omega), (by have qa0 : Int32.toInt 6 = 6 := (by decide); omega), (tP_no (by decide) (by decide)), (vP_no (by decide) (by decide)), (fun R c1 c2 c3 c4 c5 c6 => c5 z668951 z671326 z671330 o671336 gl671491 g671492 z671503 z671510 hz668951 bz668951 r671322 r671325 ez671326 r671329 hz671330 bz671330 bo671336 ht671338 r671341 hx671502 hz671503 hz671510 r671512)⟩
                · have r671513 : z671510.toInt ≤ 0 := gj_nltL hc671511 (show Int32.toInt 0 = 0 by decide)
                  have bz671510' : gB z671510 (-1) 0 := ⟨by omega, by omega⟩
                  refine G_aload_n 2 dr_cX14_word_162 rfl ?_
                  refine G_iload_n 1 dr_cX14_word_163 rfl ?_
                  refine G_bipush 118 dr_cX14_word_164 (by decide +kernel) ?_
                  refine G_icmp_ne 173 dr_cX14_word_166 (by decide +kernel) (fun _ => ?_) (fun hc => absurd (show False by have := gj_eq hc (show Int32.toInt 118 = 118 by decide); omega) not_false)
                  refine G_iconst 3 dr_cX14_word_173 (by decide +kernel) ?_
                  refine Gp_put 3 hmq668929 he671508 dr_cX14_word_174 (gk_X14 D I) (Nat.le_of_ble_eq_true rfl) wr_9_39 rfl rfl rfl (Nat.le_of_ble_eq_true rfl) (fun F671514 e671515 n671516 => ?_)
                  have he671517 : F671514 q668930 = .inl (I .byte, 8192, .inl f668944) := (n671516 q668930 (rn_ao he671507 he671508)).trans he671507
                  have he671518 : F671514 q668929 = .inr (19, [.ref q668930, .int p668931, .int g671492, .int 3, .int p668934, .int z671503, .int p668936, .ref qo668937, .int p668938, .int p668939, .int p668940, .ref qo668941, .ref qo668942, .int p668943]) := e671515
                  have hfr671519 : rFr [q668929] P668927 F668928 F671514 := rFr_put' List.mem_cons_self hfr671509 n671516
                  exact G_vretA dr_cX14_word_177 rfl (show 0 ≤ ((16 * (p668931.toInt - p668932.toInt)).toNat) by omega) (show 0 ≤ ((160 * (p668931.toInt - p668932.toInt)).toNat) by omega) ⟨P668927, F671514, g671492, 3, z671503, qo668937, (0, fun _ => 0), rfl, rfl, (rSub_rf (P := P668927)), hfr671519, he671518, he671517, (by omega), (by omega), (gB_w bg671492' (by decide) (by decide)), (gB_w (gBl (show Int32.toInt 3 = 3 by decide)) (by decide) (by decide)), (by have qa0 : Int32.toInt 3 = 3 := (by decide); omega), (by have qa0 : Int32.toInt 3 = 3 := (by decide); omega), (tP_no (by decide) (by decide)), (vP_b (by assumption) (by assumption) (by assumption) (by omega)), (fun R c1 c2 c3 c4 c5 c6 => c6 z668951 z671326 z671330 o671336 gl671491 g671492 z671503 z671510 hz668951 bz668951 r671322 r671325 ez671326 r671329 hz671330 bz671330 bo671336 ht671338 r671341 hx671502 hz671503 hz671510 r671513)⟩
              · have r671520 : g671492.toInt < p668931.toInt := gC_nle hc671500
                have bg671492' : gB g671492 0 8191 := ⟨by omega, by omega⟩
                refine G_aload_n 2 dr_cX14_word_81 rfl ?_
                refine Gp_get 0 hmq668929 he671494 dr_cX14_word_82 (gk_X14 D I) (Nat.le_of_ble_eq_true rfl) wr_9_36 rfl ?_
                refine G_aload_n 2 dr_cX14_word_85 rfl ?_
                refine Gp_get 2 hmq668929 he671494 dr_cX14_word_86 (gk_X14 D I) (Nat.le_of_ble_eq_true rfl) wr_9_38 rfl ?_
                refine Gp_bald 1 hmq668930 he671495 dr_cX14_word_89 rfl (gB_in bg671492' (by decide) (by decide)) (G_nam fun z671521 hz671521 => ?_)
                have bz671521 : gB z671521 (-128) 127 := by rw [hz671521]; exact bf668944 _
                refine Gw_callS (As := [.int z671521]) (gV_ok D I) (cp_667344_Reader_isDigit l hl0 D I P668927 F671493 z671521 ) dr_cX14_word_90 ⟨wr_7_219, wr_1_32, wr_7_221, by decide, rfl, (Nat.le_of_ble_eq_true rfl), (Nat.le_of_ble_eq_true rfl)⟩ wr_7_220 (show 0 + 0 ≤ ((16 * (p668931.toInt - p668932.toInt)).toNat) by first | omega | decide) (show 0 + 0 ≤ ((160 * (p668931.toInt - p668932.toInt)).toNat) by first | omega | decide) (Nat.le_of_ble_eq_true rfl) (fun r671525 w671526 dc671522 ds671523 hp671524 => ?_) (fun _ _ _ _ _ z => z.elim)
                obtain ⟨o671527, rfl, rfl, hdc, hds, bo671527, x671528, ht671529⟩ := hp671524
                change G _ _ _ _ _ _ _ (.int o671527 :: _) _ _ _
                refine G_widen (cs' := 0) (sl' := 0) (by omega) (by omega) ?_
                refine G_if_eq 136 dr_cX14_word_93 (by decide +kernel) (fun hc671530 => ?_) (fun hc671530 => ?_)
                · have r671531 : o671527.toInt = 0 := gj_eq hc671530 (show Int32.toInt 0 = 0 by decide)
                  have bo671527' : gB o671527 0 0 := ⟨by omega, by omega⟩
                  have hx671532 : tl_RReader_word_70_2 p668931 f668944 (0 : Int64) z671326 136 gl671491 g671492 := kt70_671499 136 gl671491 g671492 (fun R c1 c2 c3 => c2 gl671491 g671492 z671521 o671527 bg671492 r671520 hz671521 bz671521 bo671527 ht671529 r671531)
                  clear he668955 he668956 hfr668957 jn668958 bz671326 bo671336' he671346 he671347 hfr671348 bo671527 ht671529 bo671527'; try clear r671334; try clear w671335; try clear dc671331; try clear ds671332; try clear hp671333; try clear x671337; try clear r671525; try clear w671526; try clear dc671522; try clear ds671523; try clear hp671524; try clear x671528; try clear r671531
                  refine G_aload_n 2 dr_cX14_word_136 rfl ?_
                  refine G_lload_n 0 dr_cX14_word_137 rfl ?_
                  refine G_l2i dr_cX14_word_138 (G_nam fun z671533 hz671533 => ?_)
                  have bz671533 : gB z671533 (-2147483648) 2147483647 := gB_any z671533
                  refine Gp_put 5 hmq668929 he671494 dr_cX14_word_139 (gk_X14 D I) (Nat.le_of_ble_eq_true rfl) wr_9_41 rfl rfl rfl (Nat.le_of_ble_eq_true rfl) (fun F671534 e671535 n671536 => ?_)
                  have he671537 : F671534 q668930 = .inl (I .byte, 8192, .inl f668944) := (n671536 q668930 (rn_ao he671495 he671494)).trans he671495
                  have he671538 : F671534 q668929 = .inr (19, [.ref q668930, .int p668931, .int g671492, .int 6, .int p668934, .int z671533, .int p668936, .ref qo668937, .int p668938, .int p668939, .int p668940, .ref qo668941, .ref qo668942, .int p668943]) := e671535
                  have hfr671539 : rFr [q668929] P668927 F668928 F671534 := rFr_put' List.mem_cons_self hfr671496 n671536
                  refine G_lload_n 0 dr_cX14_word_142 rfl ?_
                  refine G_iload_n 1 dr_cX14_word_143 rfl ?_
                  refine G_bipush 118 dr_cX14_word_144 (by decide +kernel) ?_
                  refine G_icmp_ne 155 dr_cX14_word_146 (by decide +kernel) (fun _ => ?_) (fun hc => absurd (show False by have := gj_eq hc (show Int32.toInt 118 = 118 by decide); omega) not_false)
                  refine G_ldc2 39 dr_cX14_word_155 wr_7_234 ?_
                  refine G_lcmp dr_cX14_word_158 (G_nam fun z671540 hz671540 => ?_)
                  have bz671540 : gB z671540 (-1) 1 := gB_cmp hz671540
                  refine G_if_gt 177 dr_cX14_word_159 (by decide +kernel) (fun hc671541 => ?_) (fun hc671541 => ?_)
                  · have r671542 : 0 < z671540.toInt := gj_ltL hc671541 (show Int32.toInt 0 = 0 by decide)
                    have bz671540' : gB z671540 1 1 := ⟨by omega, by omega⟩
                    have lhc671541 := gC_cmpS hz671540 (by omega)
                    exact G_vretA dr_cX14_word_177 rfl (show 0 ≤ ((16 * (p668931.toInt - p668932.toInt)).toNat) by omega) (show 0 ≤ ((160 * (p668931.toInt - p668932.toInt)).toNat) by omega) ⟨P668927, F671534, g671492, 6, z671533, qo668937, (0, fun _ => 0), rfl, rfl, (rSub_rf (P := P668927)), hfr671539, he671538, he671537, (by omega), (by omega), (gB_w bg671492' (by decide) (by decide)), (gB_w (gBl (show Int32.toInt 6 = 6 by decide)) (by decide) (by decide)), (by have qa0 : Int32.toInt 6 = 6 := (by decide); omega), (by have qa0 : Int32.toInt 6 = 6 := (by decide); omega), (tP_no (by decide) (by decide)), (vP_no (by decide) (by decide)), (fun R c1 c2 c3 c4 c5 c6 => c5 z668951 z671326 z671330 o671336 gl671491 g671492 z671533 z671540 hz668951 bz668951 r671322 r671325 ez671326 r671329 hz671330 bz671330 bo671336 ht671338 r671341 hx671532 hz671533 hz671540 r671542)⟩
                  · have r671543 : z671540.toInt ≤ 0 := gj_nltL hc671541 (show Int32.toInt 0 = 0 by decide)
                    have bz671540' : gB z671540 (-1) 0 := ⟨by omega, by omega⟩
                    refine G_aload_n 2 dr_cX14_word_162 rfl ?_
                    refine G_iload_n 1 dr_cX14_word_163 rfl ?_
                    refine G_bipush 118 dr_cX14_word_164 (by decide +kernel) ?_
                    refine G_icmp_ne 173 dr_cX14_word_166 (by decide +kernel) (fun _ => ?_) (fun hc => absurd (show False by have := gj_eq hc (show Int32.toInt 118 = 118 by decide); omega) not_false)
                    refine G_iconst 3 dr_cX14_word_173 (by decide +kernel) ?_
                    refine Gp_put 3 hmq668929 he671538 dr_cX14_word_174 (gk_X14 D I) (Nat.le_of_ble_eq_true rfl) wr_9_39 rfl rfl rfl (Nat.le_of_ble_eq_true rfl) (fun F671544 e671545 n671546 => ?_)
                    have he671547 : F671544 q668930 = .inl (I .byte, 8192, .inl f668944) := (n671546 q668930 (rn_ao he671537 he671538)).trans he671537
                    have he671548 : F671544 q668929 = .inr (19, [.ref q668930, .int p668931, .int g671492, .int 3, .int p668934, .int z671533, .int p668936, .ref qo668937, .int p668938, .int p668939, .int p668940, .ref qo668941, .ref qo668942, .int p668943]) := e671545
                    have hfr671549 : rFr [q668929] P668927 F668928 F671544 := rFr_put' List.mem_cons_self hfr671539 n671546
                    exact G_vretA dr_cX14_word_177 rfl (show 0 ≤ ((16 * (p668931.toInt - p668932.toInt)).toNat) by omega) (show 0 ≤ ((160 * (p668931.toInt - p668932.toInt)).toNat) by omega) ⟨P668927, F671544, g671492, 3, z671533, qo668937, (0, fun _ => 0), rfl, rfl, (rSub_rf (P := P668927)), hfr671549, he671548, he671547, (by omega), (by omega), (gB_w bg671492' (by decide) (by decide)), (gB_w (gBl (show Int32.toInt 3 = 3 by decide)) (by decide) (by decide)), (by have qa0 : Int32.toInt 3 = 3 := (by decide); omega), (by have qa0 : Int32.toInt 3 = 3 := (by decide); omega), (tP_no (by decide) (by decide)), (vP_b (by assumption) (by assumption) (by assumption) (by omega)), (fun R c1 c2 c3 c4 c5 c6 => c6 z668951 z671326 z671330 o671336 gl671491 g671492 z671533 z671540 hz668951 bz668951 r671322 r671325 ez671326 r671329 hz671330 bz671330 bo671336 ht671338 r671341 hx671532 hz671533 hz671540 r671543)⟩
                · have r671550 : o671527.toInt ≠ 0 := gj_neq hc671530 (show Int32.toInt 0 = 0 by decide)
                  have bo671527' : gB o671527 1 1 := ⟨by omega, by omega⟩
                  have bi671551 : gB z671521 48 57 := isP_1 x671528 (by omega)
                  refine G_lload_n 0 dr_cX14_word_96 rfl ?_
                  refine G_ldc2 10 dr_cX14_word_97 wr_7_229 ?_
                  refine G_lmul dr_cX14_word_100 (G_namL fun u671552 hu671552 => ?_)
                  refine G_aload_n 2 dr_cX14_word_101 rfl ?_
                  refine Gp_get 0 hmq668929 he671494 dr_cX14_word_102 (gk_X14 D I) (Nat.le_of_ble_eq_true rfl) wr_9_36 rfl ?_
                  refine G_aload_n 2 dr_cX14_word_105 rfl ?_
                  refine Gp_get 2 hmq668929 he671494 dr_cX14_word_106 (gk_X14 D I) (Nat.le_of_ble_eq_true rfl) wr_9_38 rfl ?_
                  refine Gp_bald 1 hmq668930 he671495 dr_cX14_word_109 rfl (gB_in bg671492' (by decide) (by decide)) (G_eqi (y := z671521) hz671521.symm ?_)
                  refine G_i2l dr_cX14_word_110 (G_namL fun u671553 hu671553 => ?_)
                  refine G_ladd dr_cX14_word_111 (G_namL fun u671554 hu671554 => ?_)
                  refine G_ldc2 48 dr_cX14_word_112 wr_7_230 ?_
                  refine G_lsub dr_cX14_word_115 (G_namL fun u671555 hu671555 => ?_)
                  refine G_ldc2 1000000 dr_cX14_word_116 wr_7_231 ?_
                  refine Gw_callS (As := [.long u671555, .long 1000000]) (gV_ok D I) (cp_667398_Math_min l hl0 D I P668927 F671493 u671555 1000000 ) dr_cX14_word_119 ⟨wr_7_232, wr_1_6, wr_3_40, by decide, rfl, (Nat.le_of_ble_eq_true rfl), (Nat.le_of_ble_eq_true rfl)⟩ wr_3_39 (show 0 + 0 ≤ ((16 * (p668931.toInt - p668932.toInt)).toNat) by first | omega | decide) (show 0 + 0 ≤ ((160 * (p668931.toInt - p668932.toInt)).toNat) by first | omega | decide) (Nat.le_of_ble_eq_true rfl) (fun r671559 w671560 dc671556 ds671557 hp671558 => ?_) (fun _ _ _ _ _ z => z.elim)
                  obtain ⟨ol671561, rfl, rfl, hdc, hds, x671562, ht671563⟩ := hp671558
                  change G _ _ _ _ _ _ _ (.long ol671561 :: _) _ _ _
                  refine G_widen (cs' := 0) (sl' := 0) (by omega) (by omega) ?_
                  refine G_lstore_n (L' := [(2, .long ol671561), (1, .int z668951), (0, .ref q668929)]) dr_cX14_word_122 (Nat.le_of_ble_eq_true rfl) rfl ?_
                  refine G_aload_n 2 dr_cX14_word_123 rfl ?_
                  refine G_dup dr_cX14_word_124 rfl ?_
                  refine Gp_get 2 hmq668929 he671494 dr_cX14_word_125 (gk_X14 D I) (Nat.le_of_ble_eq_true rfl) wr_9_38 rfl ?_
                  refine G_iconst 1 dr_cX14_word_128 (by decide +kernel) ?_
                  refine G_iadd dr_cX14_word_129 (G_nam fun z671564 hz671564 => ?_)
                  have ez671564 : z671564.toInt = g671492.toInt + 1 := by rw [gI_add hz671564 bg671492' (gBl (show Int32.toInt 1 = 1 by decide)) (by decide) (by decide), show Int32.toInt 1 = 1 from by decide]
                  have bz671564 : gB z671564 1 8192 := gB_add (gI_add hz671564 bg671492' (gBl (show Int32.toInt 1 = 1 by decide)) (by decide) (by decide)) bg671492' (gBl (show Int32.toInt 1 = 1 by decide)) (by decide) (by decide)
                  refine Gp_put 2 hmq668929 he671494 dr_cX14_word_130 (gk_X14 D I) (Nat.le_of_ble_eq_true rfl) wr_9_38 rfl rfl rfl (Nat.le_of_ble_eq_true rfl) (fun F671565 e671566 n671567 => ?_)
                  have he671568 : F671565 q668930 = .inl (I .byte, 8192, .inl f668944) := (n671567 q668930 (rn_ao he671495 he671494)).trans he671495
                  have he671569 : F671565 q668929 = .inr (19, [.ref q668930, .int p668931, .int z671564, .int 6, .int p668934, .int p668935, .int p668936, .ref qo668937, .int p668938, .int p668939, .int p668940, .ref qo668941, .ref qo668942, .int p668943]) := e671566
                  have hfr671570 : rFr [q668929] P668927 F668928 F671565 := rFr_put' List.mem_cons_self hfr671496 n671567
                  refine G_goto 70 dr_cX14_word_133 (by decide +kernel) ?_
                  exact ih70_671499 F671565 ol671561 z671564 (gB_w bz671564 (by decide) (by decide)) hfr671570 he671569 he671568 (lgSt (by assumption) (by assumption) (by assumption) (by assumption) (by assumption) (by assumption) (by omega) (by omega)) (by have qa0 : Int32.toInt 6 = 6 := (by decide); omega) (by have qa0 : Int32.toInt 6 = 6 := (by decide); omega) (fun k e1 e2 ht => kt70_671499 k e1 e2 (fun R c1 c2 c3 => c3 gl671491 g671492 z671521 o671527 u671552 u671553 u671554 u671555 ol671561 z671564 k e1 e2 bg671492 r671520 hz671521 bz671521 bo671527 ht671529 r671550 hu671552 hu671553 hu671554 hu671555 ht671563 ez671564 (ht R c1 c2 c3))) (by have qa0 : Int32.toInt 6 = 6 := (by decide); omega)
          exact hlp70_671499 (((8193 : Int) - z671326.toInt).toNat + 1) F671343 0 z671326 (gB_w bz671326' (by decide) (by decide)) hfr671348 he671347 he671346 LG_0 (by have qa0 : Int32.toInt 6 = 6 := (by decide); omega) (by have qa0 : Int32.toInt 6 = 6 := (by decide); omega) (fun k e1 e2 ht => ht) (Nat.lt_succ_self _)
/- tl_RReader_next_35: a0_at; out: a0_at -/
def tl_RReader_next_35 (a0_n : Int32) (a0_t_v : Nat → Int32) (s1 : Int32) (k : Nat) (e1 : Int32) : Prop := ∀ R : (Int32) → Nat → (Int32) → Prop,
  (∀ (a0_at_2 : Int32), gB a0_at_2 0 8192 → a0_n.toInt ≤ a0_at_2.toInt → R a0_at_2 107 a0_at_2) →
  (∀ (a0_at_2 : Int32) (x1 : Int32), gB a0_at_2 0 8192 → a0_at_2.toInt < a0_n.toInt → x1 = a0_t_v a0_at_2.toNatClampNeg → gB x1 (-128) 127 → x1.toInt = 10 → R a0_at_2 107 a0_at_2) →
  (∀ (a0_at_2 : Int32) (x1 : Int32) (x2 : Int32) (k : Nat) (e1 : Int32), gB a0_at_2 0 8192 → a0_at_2.toInt < a0_n.toInt → x1 = a0_t_v a0_at_2.toNatClampNeg → gB x1 (-128) 127 → x1.toInt ≠ 10 → x2.toInt = a0_at_2.toInt + 1 → R x2 k e1 → R a0_at_2 k e1) →
  R s1 k e1
/- tl_RReader_next_8: a0_at; out: a0_at -/
def tl_RReader_next_8 (a0_n : Int32) (a0_t_v : Nat → Int32) (s1 : Int32) (k : Nat) (e1 : Int32) : Prop := ∀ R : (Int32) → Nat → (Int32) → Prop,
  (∀ (a0_at_1 : Int32), gB a0_at_1 0 8192 → a0_n.toInt ≤ a0_at_1.toInt → R a0_at_1 110 a0_at_1) →
  (∀ (a0_at_1 : Int32) (x1 : Int32) (x2 : Int32) (k : Nat) (e1 : Int32), gB a0_at_1 0 8192 → a0_at_1.toInt < a0_n.toInt → x1 = a0_t_v a0_at_1.toNatClampNeg → gB x1 (-128) 127 → x1.toInt ≠ 59 → x1.toInt = 9 → x2.toInt = a0_at_1.toInt + 1 → R x2 k e1 → R a0_at_1 k e1) →
  (∀ (a0_at_1 : Int32) (x1 : Int32) (x2 : Int32) (k : Nat) (e1 : Int32), gB a0_at_1 0 8192 → a0_at_1.toInt < a0_n.toInt → x1 = a0_t_v a0_at_1.toNatClampNeg → gB x1 (-128) 127 → x1.toInt ≠ 59 → x1.toInt ≠ 9 → x1.toInt = 10 → x2.toInt = a0_at_1.toInt + 1 → R x2 k e1 → R a0_at_1 k e1) →
  (∀ (a0_at_1 : Int32) (x1 : Int32) (x2 : Int32) (k : Nat) (e1 : Int32), gB a0_at_1 0 8192 → a0_at_1.toInt < a0_n.toInt → x1 = a0_t_v a0_at_1.toNatClampNeg → gB x1 (-128) 127 → x1.toInt ≠ 59 → x1.toInt ≠ 9 → x1.toInt ≠ 10 → x1.toInt = 13 → x2.toInt = a0_at_1.toInt + 1 → R x2 k e1 → R a0_at_1 k e1) →
  (∀ (a0_at_1 : Int32) (x1 : Int32), gB a0_at_1 0 8192 → a0_at_1.toInt < a0_n.toInt → x1 = a0_t_v a0_at_1.toNatClampNeg → gB x1 (-128) 127 → x1.toInt ≠ 59 → x1.toInt ≠ 9 → x1.toInt ≠ 10 → x1.toInt ≠ 13 → x1.toInt ≠ 32 → R a0_at_1 110 a0_at_1) →
  (∀ (a0_at_1 : Int32) (x1 : Int32) (x2 : Int32) (k : Nat) (e1 : Int32), gB a0_at_1 0 8192 → a0_at_1.toInt < a0_n.toInt → x1 = a0_t_v a0_at_1.toNatClampNeg → gB x1 (-128) 127 → x1.toInt ≠ 59 → x1.toInt ≠ 9 → x1.toInt ≠ 10 → x1.toInt ≠ 13 → x1.toInt = 32 → x2.toInt = a0_at_1.toInt + 1 → R x2 k e1 → R a0_at_1 k e1) →
  (∀ (a0_at_1 : Int32) (x1 : Int32) (x2 : Int32) (k : Nat) (e1 : Int32), gB a0_at_1 0 8192 → a0_at_1.toInt < a0_n.toInt → x1 = a0_t_v a0_at_1.toNatClampNeg → gB x1 (-128) 127 → x1.toInt = 59 → tl_RReader_next_35 a0_n a0_t_v a0_at_1 107 x2 → R x2 k e1 → R a0_at_1 k e1) →
  R s1 k e1
/- tr_RReader_next: a.0...at, a.0...kind, a.0...place, a.0...value -/
def tr_RReader_next (a0_n : Int32) (a0_at : Int32) (a0_kind : Int32) (a0_value : Int32) (a0_t_v : Nat → Int32) (o1 : Int32) (o2 : Int32) (o3 : Int32) (o4 : Int32) (o5 : gTx) : Prop := ∀ R : (Int32) → (Int32) → (Int32) → (Int32) → (gTx) → Prop,
  (∀ (x1 : Int32) (x2 : Int32) (x3 : Int32) (x4 : Int32) (x5 : gTx) (x6 : Int32) (x7 : Int32) (x8 : Int32), tl_RReader_next_8 a0_n a0_t_v a0_at 110 x1 → x1.toInt ≠ a0_n.toInt → x2 = a0_t_v x1.toNatClampNeg → gB x2 (-128) 127 → (((x2.toInt ≠ 45) ∨ (∃ (y1 : Int32), x2.toInt = 45 ∧ y1.toInt = x1.toInt + 1 ∧ a0_n.toInt ≤ y1.toInt) ∨ (∃ (y1 : Int32) (y2 : Int32) (y3 : Int32), x2.toInt = 45 ∧ y1.toInt = x1.toInt + 1 ∧ y1.toInt < a0_n.toInt ∧ y2 = a0_t_v y1.toNatClampNeg ∧ gB y2 (-128) 127 ∧ gB y3 0 1 ∧ tr_RReader_isDigit2 y2 y3 ∧ y3.toInt = 0) ∨ (∃ (y1 : Int32) (y2 : Int32) (y3 : Int32), x2.toInt = 45 ∧ y1.toInt = x1.toInt + 1 ∧ y1.toInt < a0_n.toInt ∧ y2 = a0_t_v y1.toNatClampNeg ∧ gB y2 (-128) 127 ∧ gB y3 0 1 ∧ tr_RReader_isDigit2 y2 y3 ∧ y3.toInt ≠ 0 ∧ a0_kind.toInt = 2) ∨ (∃ (y1 : Int32) (y2 : Int32) (y3 : Int32), x2.toInt = 45 ∧ y1.toInt = x1.toInt + 1 ∧ y1.toInt < a0_n.toInt ∧ y2 = a0_t_v y1.toNatClampNeg ∧ gB y2 (-128) 127 ∧ gB y3 0 1 ∧ tr_RReader_isDigit2 y2 y3 ∧ y3.toInt ≠ 0 ∧ a0_kind.toInt ≠ 2 ∧ a0_kind.toInt = 4))) → gB x3 0 1 → tr_RReader_isLetter2 x2 x3 → x3.toInt = 0 → gB x4 0 1 → tr_RReader_isDigit2 x2 x4 → x4.toInt ≠ 0 → gB x6 0 8192 → gB x7 4 6 → tr_RReader_number (0 : Int32) a0_n x1 a0_t_v x6 x7 x8 x5 → R x6 x7 x1 x8 x5) →
  (∀ (x1 : Int32) (x2 : Int32) (x3 : Int32) (x4 : Int32) (x5 : gTx) (x6 : Int32) (x7 : Int32), tl_RReader_next_8 a0_n a0_t_v a0_at 110 x1 → x1.toInt ≠ a0_n.toInt → x2 = a0_t_v x1.toNatClampNeg → gB x2 (-128) 127 → (((x2.toInt ≠ 45) ∨ (∃ (y1 : Int32), x2.toInt = 45 ∧ y1.toInt = x1.toInt + 1 ∧ a0_n.toInt ≤ y1.toInt) ∨ (∃ (y1 : Int32) (y2 : Int32) (y3 : Int32), x2.toInt = 45 ∧ y1.toInt = x1.toInt + 1 ∧ y1.toInt < a0_n.toInt ∧ y2 = a0_t_v y1.toNatClampNeg ∧ gB y2 (-128) 127 ∧ gB y3 0 1 ∧ tr_RReader_isDigit2 y2 y3 ∧ y3.toInt = 0) ∨ (∃ (y1 : Int32) (y2 : Int32) (y3 : Int32), x2.toInt = 45 ∧ y1.toInt = x1.toInt + 1 ∧ y1.toInt < a0_n.toInt ∧ y2 = a0_t_v y1.toNatClampNeg ∧ gB y2 (-128) 127 ∧ gB y3 0 1 ∧ tr_RReader_isDigit2 y2 y3 ∧ y3.toInt ≠ 0 ∧ a0_kind.toInt = 2) ∨ (∃ (y1 : Int32) (y2 : Int32) (y3 : Int32), x2.toInt = 45 ∧ y1.toInt = x1.toInt + 1 ∧ y1.toInt < a0_n.toInt ∧ y2 = a0_t_v y1.toNatClampNeg ∧ gB y2 (-128) 127 ∧ gB y3 0 1 ∧ tr_RReader_isDigit2 y2 y3 ∧ y3.toInt ≠ 0 ∧ a0_kind.toInt ≠ 2 ∧ a0_kind.toInt = 4))) → gB x3 0 1 → tr_RReader_isLetter2 x2 x3 → x3.toInt = 0 → gB x4 0 1 → tr_RReader_isDigit2 x2 x4 → x4.toInt = 0 → gB x6 1 8192 → gB x7 5 6 → tr_RReader_symbol x2 a0_n x1 a0_t_v x6 x7 x5 → R x6 x7 x1 a0_value x5) →
  (∀ (x1 : Int32) (x2 : Int32) (x3 : Int32) (x4 : gTx) (x5 : Int32) (x6 : Int32) (x7 : Int32), tl_RReader_next_8 a0_n a0_t_v a0_at 110 x1 → x1.toInt ≠ a0_n.toInt → x2 = a0_t_v x1.toNatClampNeg → gB x2 (-128) 127 → (((x2.toInt ≠ 45) ∨ (∃ (y1 : Int32), x2.toInt = 45 ∧ y1.toInt = x1.toInt + 1 ∧ a0_n.toInt ≤ y1.toInt) ∨ (∃ (y1 : Int32) (y2 : Int32) (y3 : Int32), x2.toInt = 45 ∧ y1.toInt = x1.toInt + 1 ∧ y1.toInt < a0_n.toInt ∧ y2 = a0_t_v y1.toNatClampNeg ∧ gB y2 (-128) 127 ∧ gB y3 0 1 ∧ tr_RReader_isDigit2 y2 y3 ∧ y3.toInt = 0) ∨ (∃ (y1 : Int32) (y2 : Int32) (y3 : Int32), x2.toInt = 45 ∧ y1.toInt = x1.toInt + 1 ∧ y1.toInt < a0_n.toInt ∧ y2 = a0_t_v y1.toNatClampNeg ∧ gB y2 (-128) 127 ∧ gB y3 0 1 ∧ tr_RReader_isDigit2 y2 y3 ∧ y3.toInt ≠ 0 ∧ a0_kind.toInt = 2) ∨ (∃ (y1 : Int32) (y2 : Int32) (y3 : Int32), x2.toInt = 45 ∧ y1.toInt = x1.toInt + 1 ∧ y1.toInt < a0_n.toInt ∧ y2 = a0_t_v y1.toNatClampNeg ∧ gB y2 (-128) 127 ∧ gB y3 0 1 ∧ tr_RReader_isDigit2 y2 y3 ∧ y3.toInt ≠ 0 ∧ a0_kind.toInt ≠ 2 ∧ a0_kind.toInt = 4))) → gB x3 0 1 → tr_RReader_isLetter2 x2 x3 → x3.toInt ≠ 0 → gB x5 0 8192 → gB x6 1 6 → tr_RReader_word a0_n x1 a0_value a0_t_v x5 x6 x7 x4 → R x5 x6 x1 x7 x4) →
  (∀ (x1 : Int32) (x2 : Int32) (x3 : Int32) (x4 : Int32) (x5 : Int32) (x6 : Int32) (x7 : Int32) (x8 : gTx) (x9 : Int32) (x10 : Int32) (x11 : Int32), tl_RReader_next_8 a0_n a0_t_v a0_at 110 x1 → x1.toInt ≠ a0_n.toInt → x2 = a0_t_v x1.toNatClampNeg → gB x2 (-128) 127 → x2.toInt = 45 → x3.toInt = x1.toInt + 1 → x3.toInt < a0_n.toInt → x4 = a0_t_v x3.toNatClampNeg → gB x4 (-128) 127 → gB x5 0 1 → tr_RReader_isDigit2 x4 x5 → x5.toInt ≠ 0 → a0_kind.toInt ≠ 2 → a0_kind.toInt ≠ 4 → gB x6 0 1 → tr_RReader_isLetter2 x2 x6 → x6.toInt = 0 → gB x7 0 1 → tr_RReader_isDigit2 x2 x7 → x7.toInt ≠ 0 → gB x9 0 8192 → gB x10 4 6 → tr_RReader_number (1 : Int32) a0_n x1 a0_t_v x9 x10 x11 x8 → R x9 x10 x1 x11 x8) →
  (∀ (x1 : Int32) (x2 : Int32) (x3 : Int32) (x4 : Int32) (x5 : Int32) (x6 : Int32) (x7 : Int32) (x8 : gTx) (x9 : Int32) (x10 : Int32) (x11 : Int32), tl_RReader_next_8 a0_n a0_t_v a0_at 110 x1 → x1.toInt ≠ a0_n.toInt → x2 = a0_t_v x1.toNatClampNeg → gB x2 (-128) 127 → x2.toInt = 45 → x3.toInt = x1.toInt + 1 → x3.toInt < a0_n.toInt → x4 = a0_t_v x3.toNatClampNeg → gB x4 (-128) 127 → gB x5 0 1 → tr_RReader_isDigit2 x4 x5 → x5.toInt ≠ 0 → a0_kind.toInt ≠ 2 → a0_kind.toInt ≠ 4 → gB x6 0 1 → tr_RReader_isLetter2 x2 x6 → x6.toInt = 0 → gB x7 0 1 → tr_RReader_isDigit2 x2 x7 → x7.toInt = 0 → gB x9 0 8192 → gB x10 4 6 → tr_RReader_number (1 : Int32) a0_n x1 a0_t_v x9 x10 x11 x8 → R x9 x10 x1 x11 x8) →
  (∀ (x1 : Int32) (x2 : Int32) (x3 : Int32) (x4 : Int32) (x5 : Int32) (x6 : Int32) (x7 : gTx) (x8 : Int32) (x9 : Int32) (x10 : Int32), tl_RReader_next_8 a0_n a0_t_v a0_at 110 x1 → x1.toInt ≠ a0_n.toInt → x2 = a0_t_v x1.toNatClampNeg → gB x2 (-128) 127 → x2.toInt = 45 → x3.toInt = x1.toInt + 1 → x3.toInt < a0_n.toInt → x4 = a0_t_v x3.toNatClampNeg → gB x4 (-128) 127 → gB x5 0 1 → tr_RReader_isDigit2 x4 x5 → x5.toInt ≠ 0 → a0_kind.toInt ≠ 2 → a0_kind.toInt ≠ 4 → gB x6 0 1 → tr_RReader_isLetter2 x2 x6 → x6.toInt ≠ 0 → gB x8 0 8192 → gB x9 1 6 → tr_RReader_word a0_n x1 a0_value a0_t_v x8 x9 x10 x7 → R x8 x9 x1 x10 x7) →
  (∀ (x1 : Int32), tl_RReader_next_8 a0_n a0_t_v a0_at 110 x1 → x1.toInt = a0_n.toInt → R x1 (0 : Int32) x1 a0_value (0, fun _ => 0)) →
  (∀ (x1 : Int32) (x2 : Int32) (x3 : Int32) (x4 : Int32) (x5 : gTx) (x6 : Int32) (x7 : Int32) (x8 : Int32), tl_RReader_next_8 a0_n a0_t_v a0_at 110 x1 → x1.toInt ≠ a0_n.toInt → x2 = a0_t_v x1.toNatClampNeg → (((x2.toInt ≠ 45) ∨ (∃ (y1 : Int32), x2.toInt = 45 ∧ y1.toInt = x1.toInt + 1 ∧ a0_n.toInt ≤ y1.toInt) ∨ (∃ (y1 : Int32) (y2 : Int32) (y3 : Int32), x2.toInt = 45 ∧ y1.toInt = x1.toInt + 1 ∧ y1.toInt < a0_n.toInt ∧ y2 = a0_t_v y1.toNatClampNeg ∧ gB y2 (-128) 127 ∧ gB y3 0 1 ∧ tr_RReader_isDigit2 y2 y3 ∧ y3.toInt = 0) ∨ (∃ (y1 : Int32) (y2 : Int32) (y3 : Int32), x2.toInt = 45 ∧ y1.toInt = x1.toInt + 1 ∧ y1.toInt < a0_n.toInt ∧ y2 = a0_t_v y1.toNatClampNeg ∧ gB y2 (-128) 127 ∧ gB y3 0 1 ∧ tr_RReader_isDigit2 y2 y3 ∧ y3.toInt ≠ 0 ∧ a0_kind.toInt = 2) ∨ (∃ (y1 : Int32) (y2 : Int32) (y3 : Int32), x2.toInt = 45 ∧ y1.toInt = x1.toInt + 1 ∧ y1.toInt < a0_n.toInt ∧ y2 = a0_t_v y1.toNatClampNeg ∧ gB y2 (-128) 127 ∧ gB y3 0 1 ∧ tr_RReader_isDigit2 y2 y3 ∧ y3.toInt ≠ 0 ∧ a0_kind.toInt ≠ 2 ∧ a0_kind.toInt = 4))) → gB x3 0 1 → tr_RReader_isLetter2 x2 x3 → x3.toInt = 0 → gB x4 0 1 → tr_RReader_isDigit2 x2 x4 → x4.toInt ≠ 0 → gB x6 0 8192 → gB x7 4 6 → tr_RReader_number (0 : Int32) a0_n x1 a0_t_v x6 x7 x8 x5 → R x6 x7 x1 x8 x5) →
  (∀ (x1 : Int32) (x2 : Int32) (x3 : Int32) (x4 : Int32) (x5 : gTx) (x6 : Int32) (x7 : Int32), tl_RReader_next_8 a0_n a0_t_v a0_at 110 x1 → x1.toInt ≠ a0_n.toInt → x2 = a0_t_v x1.toNatClampNeg → (((x2.toInt ≠ 45) ∨ (∃ (y1 : Int32), x2.toInt = 45 ∧ y1.toInt = x1.toInt + 1 ∧ a0_n.toInt ≤ y1.toInt) ∨ (∃ (y1 : Int32) (y2 : Int32) (y3 : Int32), x2.toInt = 45 ∧ y1.toInt = x1.toInt + 1 ∧ y1.toInt < a0_n.toInt ∧ y2 = a0_t_v y1.toNatClampNeg ∧ gB y2 (-128) 127 ∧ gB y3 0 1 ∧ tr_RReader_isDigit2 y2 y3 ∧ y3.toInt = 0) ∨ (∃ (y1 : Int32) (y2 : Int32) (y3 : Int32), x2.toInt = 45 ∧ y1.toInt = x1.toInt + 1 ∧ y1.toInt < a0_n.toInt ∧ y2 = a0_t_v y1.toNatClampNeg ∧ gB y2 (-128) 127 ∧ gB y3 0 1 ∧ tr_RReader_isDigit2 y2 y3 ∧ y3.toInt ≠ 0 ∧ a0_kind.toInt = 2) ∨ (∃ (y1 : Int32) (y2 : Int32) (y3 : Int32), x2.toInt = 45 ∧ y1.toInt = x1.toInt + 1 ∧ y1.toInt < a0_n.toInt ∧ y2 = a0_t_v y1.toNatClampNeg ∧ gB y2 (-128) 127 ∧ gB y3 0 1 ∧ tr_RReader_isDigit2 y2 y3 ∧ y3.toInt ≠ 0 ∧ a0_kind.toInt ≠ 2 ∧ a0_kind.toInt = 4))) → gB x3 0 1 → tr_RReader_isLetter2 x2 x3 → x3.toInt = 0 → gB x4 0 1 → tr_RReader_isDigit2 x2 x4 → x4.toInt = 0 → gB x6 1 8192 → gB x7 5 6 → tr_RReader_symbol x2 a0_n x1 a0_t_v x6 x7 x5 → R x6 x7 x1 a0_value x5) →
  (∀ (x1 : Int32) (x2 : Int32) (x3 : Int32) (x4 : gTx) (x5 : Int32) (x6 : Int32) (x7 : Int32), tl_RReader_next_8 a0_n a0_t_v a0_at 110 x1 → x1.toInt ≠ a0_n.toInt → x2 = a0_t_v x1.toNatClampNeg → (((x2.toInt ≠ 45) ∨ (∃ (y1 : Int32), x2.toInt = 45 ∧ y1.toInt = x1.toInt + 1 ∧ a0_n.toInt ≤ y1.toInt) ∨ (∃ (y1 : Int32) (y2 : Int32) (y3 : Int32), x2.toInt = 45 ∧ y1.toInt = x1.toInt + 1 ∧ y1.toInt < a0_n.toInt ∧ y2 = a0_t_v y1.toNatClampNeg ∧ gB y2 (-128) 127 ∧ gB y3 0 1 ∧ tr_RReader_isDigit2 y2 y3 ∧ y3.toInt = 0) ∨ (∃ (y1 : Int32) (y2 : Int32) (y3 : Int32), x2.toInt = 45 ∧ y1.toInt = x1.toInt + 1 ∧ y1.toInt < a0_n.toInt ∧ y2 = a0_t_v y1.toNatClampNeg ∧ gB y2 (-128) 127 ∧ gB y3 0 1 ∧ tr_RReader_isDigit2 y2 y3 ∧ y3.toInt ≠ 0 ∧ a0_kind.toInt = 2) ∨ (∃ (y1 : Int32) (y2 : Int32) (y3 : Int32), x2.toInt = 45 ∧ y1.toInt = x1.toInt + 1 ∧ y1.toInt < a0_n.toInt ∧ y2 = a0_t_v y1.toNatClampNeg ∧ gB y2 (-128) 127 ∧ gB y3 0 1 ∧ tr_RReader_isDigit2 y2 y3 ∧ y3.toInt ≠ 0 ∧ a0_kind.toInt ≠ 2 ∧ a0_kind.toInt = 4))) → gB x3 0 1 → tr_RReader_isLetter2 x2 x3 → x3.toInt ≠ 0 → gB x5 0 8192 → gB x6 1 6 → tr_RReader_word a0_n x1 a0_value a0_t_v x5 x6 x7 x4 → R x5 x6 x1 x7 x4) →
  (∀ (x1 : Int32) (x2 : Int32) (x3 : Int32) (x4 : Int32) (x5 : Int32) (x6 : Int32) (x7 : Int32) (x8 : gTx) (x9 : Int32) (x10 : Int32) (x11 : Int32), tl_RReader_next_8 a0_n a0_t_v a0_at 110 x1 → x1.toInt ≠ a0_n.toInt → x2 = a0_t_v x1.toNatClampNeg → x2.toInt = 45 → x3.toInt = x1.toInt + 1 → x3.toInt < a0_n.toInt → x4 = a0_t_v x3.toNatClampNeg → gB x4 (-128) 127 → gB x5 0 1 → tr_RReader_isDigit2 x4 x5 → x5.toInt ≠ 0 → a0_kind.toInt ≠ 2 → a0_kind.toInt ≠ 4 → gB x6 0 1 → tr_RReader_isLetter2 x2 x6 → x6.toInt = 0 → gB x7 0 1 → tr_RReader_isDigit2 x2 x7 → x7.toInt ≠ 0 → gB x9 0 8192 → gB x10 4 6 → tr_RReader_number (1 : Int32) a0_n x1 a0_t_v x9 x10 x11 x8 → R x9 x10 x1 x11 x8) →
  (∀ (x1 : Int32) (x2 : Int32) (x3 : Int32) (x4 : Int32) (x5 : Int32) (x6 : Int32) (x7 : Int32) (x8 : gTx) (x9 : Int32) (x10 : Int32) (x11 : Int32), tl_RReader_next_8 a0_n a0_t_v a0_at 110 x1 → x1.toInt ≠ a0_n.toInt → x2 = a0_t_v x1.toNatClampNeg → x2.toInt = 45 → x3.toInt = x1.toInt + 1 → x3.toInt < a0_n.toInt → x4 = a0_t_v x3.toNatClampNeg → gB x4 (-128) 127 → gB x5 0 1 → tr_RReader_isDigit2 x4 x5 → x5.toInt ≠ 0 → a0_kind.toInt ≠ 2 → a0_kind.toInt ≠ 4 → gB x6 0 1 → tr_RReader_isLetter2 x2 x6 → x6.toInt = 0 → gB x7 0 1 → tr_RReader_isDigit2 x2 x7 → x7.toInt = 0 → gB x9 0 8192 → gB x10 4 6 → tr_RReader_number (1 : Int32) a0_n x1 a0_t_v x9 x10 x11 x8 → R x9 x10 x1 x11 x8) →
  (∀ (x1 : Int32) (x2 : Int32) (x3 : Int32) (x4 : Int32) (x5 : Int32) (x6 : Int32) (x7 : gTx) (x8 : Int32) (x9 : Int32) (x10 : Int32), tl_RReader_next_8 a0_n a0_t_v a0_at 110 x1 → x1.toInt ≠ a0_n.toInt → x2 = a0_t_v x1.toNatClampNeg → x2.toInt = 45 → x3.toInt = x1.toInt + 1 → x3.toInt < a0_n.toInt → x4 = a0_t_v x3.toNatClampNeg → gB x4 (-128) 127 → gB x5 0 1 → tr_RReader_isDigit2 x4 x5 → x5.toInt ≠ 0 → a0_kind.toInt ≠ 2 → a0_kind.toInt ≠ 4 → gB x6 0 1 → tr_RReader_isLetter2 x2 x6 → x6.toInt ≠ 0 → gB x8 0 8192 → gB x9 1 6 → tr_RReader_word a0_n x1 a0_value a0_t_v x8 x9 x10 x7 → R x8 x9 x1 x10 x7) →
  R o1 o2 o3 o4 o5
