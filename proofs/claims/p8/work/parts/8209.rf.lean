theorem dr_cX14_word_0 : decode cX14_word 0 = .ok (.aload_n 0, 1) := by decide +kernel
theorem dr_cX14_word_1 : decode cX14_word 1 = .ok (.getfield 28, 3) := by decide +kernel
theorem dr_cX14_word_4 : decode cX14_word 4 = .ok (.aload_n 0, 1) := by decide +kernel
theorem dr_cX14_word_5 : decode cX14_word 5 = .ok (.getfield 44, 3) := by decide +kernel
theorem dr_cX14_word_8 : decode cX14_word 8 = .ok (.baload, 1) := by decide +kernel
theorem dr_cX14_word_9 : decode cX14_word 9 = .ok (.istore_n 1, 1) := by decide +kernel
theorem dr_cX14_word_10 : decode cX14_word 10 = .ok (.aload_n 0, 1) := by decide +kernel
theorem dr_cX14_word_11 : decode cX14_word 11 = .ok (.bipush 6, 2) := by decide +kernel
theorem dr_cX14_word_13 : decode cX14_word 13 = .ok (.putfield 38, 3) := by decide +kernel
theorem dr_cX14_word_178 : decode cX14_word 178 = .ok (.new 87, 3) := by decide +kernel
theorem dr_cX14_word_181 : decode cX14_word 181 = .ok (.dup, 1) := by decide +kernel
theorem dr_cX14_word_182 : decode cX14_word 182 = .ok (.invokespecial 89, 3) := by decide +kernel
theorem dr_cX14_word_185 : decode cX14_word 185 = .ok (.astore_n 2, 1) := by decide +kernel
theorem dr_cX14_word_186 : decode cX14_word 186 = .ok (.aload_n 0, 1) := by decide +kernel
theorem dr_cX14_word_187 : decode cX14_word 187 = .ok (.getfield 44, 3) := by decide +kernel
theorem dr_cX14_word_190 : decode cX14_word 190 = .ok (.aload_n 0, 1) := by decide +kernel
theorem dr_cX14_word_191 : decode cX14_word 191 = .ok (.getfield 32, 3) := by decide +kernel
theorem dr_cX14_word_194 : decode cX14_word 194 = .ok (.if_icmp .ge 46, 3) := by decide +kernel
theorem dr_cX14_word_240 : decode cX14_word 240 = .ok (.aload_n 0, 1) := by decide +kernel
theorem dr_cX14_word_241 : decode cX14_word 241 = .ok (.aload_n 2, 1) := by decide +kernel
theorem dr_cX14_word_242 : decode cX14_word 242 = .ok (.invokevirtual 94, 3) := by decide +kernel
theorem dr_cX14_word_245 : decode cX14_word 245 = .ok (.putfield 11, 3) := by decide +kernel
theorem dr_cX14_word_248 : decode cX14_word 248 = .ok (.ldc 98, 2) := by decide +kernel
theorem dr_cX14_word_250 : decode cX14_word 250 = .ok (.new 87, 3) := by decide +kernel
theorem dr_cX14_word_253 : decode cX14_word 253 = .ok (.dup, 1) := by decide +kernel
theorem dr_cX14_word_254 : decode cX14_word 254 = .ok (.invokespecial 89, 3) := by decide +kernel
theorem dr_cX14_word_257 : decode cX14_word 257 = .ok (.ldc 100, 2) := by decide +kernel
theorem dr_cX14_word_259 : decode cX14_word 259 = .ok (.invokevirtual 102, 3) := by decide +kernel
theorem dr_cX14_word_262 : decode cX14_word 262 = .ok (.aload_n 0, 1) := by decide +kernel
theorem dr_cX14_word_263 : decode cX14_word 263 = .ok (.getfield 11, 3) := by decide +kernel
theorem dr_cX14_word_266 : decode cX14_word 266 = .ok (.invokevirtual 102, 3) := by decide +kernel
theorem dr_cX14_word_269 : decode cX14_word 269 = .ok (.ldc 100, 2) := by decide +kernel
theorem dr_cX14_word_271 : decode cX14_word 271 = .ok (.invokevirtual 102, 3) := by decide +kernel
theorem dr_cX14_word_274 : decode cX14_word 274 = .ok (.invokevirtual 94, 3) := by decide +kernel
theorem dr_cX14_word_277 : decode cX14_word 277 = .ok (.invokevirtual 105, 3) := by decide +kernel
theorem dr_cX14_word_280 : decode cX14_word 280 = .ok (.ifCond .lt 8, 3) := by decide +kernel
theorem dr_cX14_word_288 : decode cX14_word 288 = .ok (.return_, 1) := by decide +kernel
theorem dr_cX14_word_283 : decode cX14_word 283 = .ok (.aload_n 0, 1) := by decide +kernel
theorem dr_cX14_word_284 : decode cX14_word 284 = .ok (.iconst 1, 1) := by decide +kernel
theorem dr_cX14_word_285 : decode cX14_word 285 = .ok (.putfield 38, 3) := by decide +kernel
theorem dr_cX14_word_197 : decode cX14_word 197 = .ok (.aload_n 0, 1) := by decide +kernel
theorem dr_cX14_word_198 : decode cX14_word 198 = .ok (.getfield 28, 3) := by decide +kernel
theorem dr_cX14_word_201 : decode cX14_word 201 = .ok (.aload_n 0, 1) := by decide +kernel
theorem dr_cX14_word_202 : decode cX14_word 202 = .ok (.getfield 44, 3) := by decide +kernel
theorem dr_cX14_word_205 : decode cX14_word 205 = .ok (.baload, 1) := by decide +kernel
theorem dr_cX14_word_206 : decode cX14_word 206 = .ok (.invokestatic 54, 3) := by decide +kernel
theorem wr_7_222 : (Jvm.Cond.methodLink "SpillForgeModel$Reader" (54 : Nat) ({ cls := "SpillForgeModel$Reader", name := "isLetter", desc := "(I)Z" } : Jvm.MethodName)) ∈ gw := gw_7 222 rfl rfl
theorem wr_7_224 : (Jvm.Cond.code ({ cls := "SpillForgeModel$Reader", name := "isLetter", desc := "(I)Z" } : Jvm.MethodName) prog_17_method_3_code (1 : Nat) (Option.some Jvm.ClassFile.FieldType.boolean)) ∈ gw := gw_7 224 rfl rfl
theorem wr_7_223 : (Jvm.Cond.static ({ cls := "SpillForgeModel$Reader", name := "isLetter", desc := "(I)Z" } : Jvm.MethodName)) ∈ gw := gw_7 223 rfl rfl
theorem dr_cX14_word_209 : decode cX14_word 209 = .ok (.ifCond .eq 31, 3) := by decide +kernel
theorem dr_cX14_word_212 : decode cX14_word 212 = .ok (.aload_n 2, 1) := by decide +kernel
theorem dr_cX14_word_213 : decode cX14_word 213 = .ok (.aload_n 0, 1) := by decide +kernel
theorem dr_cX14_word_214 : decode cX14_word 214 = .ok (.getfield 28, 3) := by decide +kernel
theorem dr_cX14_word_217 : decode cX14_word 217 = .ok (.aload_n 0, 1) := by decide +kernel
theorem dr_cX14_word_218 : decode cX14_word 218 = .ok (.getfield 44, 3) := by decide +kernel
theorem dr_cX14_word_221 : decode cX14_word 221 = .ok (.baload, 1) := by decide +kernel
theorem dr_cX14_word_222 : decode cX14_word 222 = .ok (.i2c, 1) := by decide +kernel
theorem dr_cX14_word_223 : decode cX14_word 223 = .ok (.invokevirtual 90, 3) := by decide +kernel
theorem dr_cX14_word_226 : decode cX14_word 226 = .ok (.pop, 1) := by decide +kernel
theorem dr_cX14_word_227 : decode cX14_word 227 = .ok (.aload_n 0, 1) := by decide +kernel
theorem dr_cX14_word_228 : decode cX14_word 228 = .ok (.dup, 1) := by decide +kernel
theorem dr_cX14_word_229 : decode cX14_word 229 = .ok (.getfield 44, 3) := by decide +kernel
theorem dr_cX14_word_232 : decode cX14_word 232 = .ok (.iconst 1, 1) := by decide +kernel
theorem dr_cX14_word_233 : decode cX14_word 233 = .ok (.iadd, 1) := by decide +kernel
theorem dr_cX14_word_234 : decode cX14_word 234 = .ok (.putfield 44, 3) := by decide +kernel
theorem dr_cX14_word_237 : decode cX14_word 237 = .ok (.goto (-51), 3) := by decide +kernel
theorem dr_cX14_word_16 : decode cX14_word 16 = .ok (.iload_n 1, 1) := by decide +kernel
theorem dr_cX14_word_17 : decode cX14_word 17 = .ok (.bipush 118, 2) := by decide +kernel
theorem dr_cX14_word_19 : decode cX14_word 19 = .ok (.if_icmp .eq 9, 3) := by decide +kernel
theorem dr_cX14_word_28 : decode cX14_word 28 = .ok (.aload_n 0, 1) := by decide +kernel
theorem dr_cX14_word_29 : decode cX14_word 29 = .ok (.getfield 44, 3) := by decide +kernel
theorem dr_cX14_word_32 : decode cX14_word 32 = .ok (.iconst 1, 1) := by decide +kernel
theorem dr_cX14_word_33 : decode cX14_word 33 = .ok (.iadd, 1) := by decide +kernel
theorem dr_cX14_word_34 : decode cX14_word 34 = .ok (.aload_n 0, 1) := by decide +kernel
theorem dr_cX14_word_35 : decode cX14_word 35 = .ok (.getfield 32, 3) := by decide +kernel
theorem dr_cX14_word_38 : decode cX14_word 38 = .ok (.if_icmp .ge 140, 3) := by decide +kernel
theorem dr_cX14_word_41 : decode cX14_word 41 = .ok (.aload_n 0, 1) := by decide +kernel
theorem dr_cX14_word_42 : decode cX14_word 42 = .ok (.getfield 28, 3) := by decide +kernel
theorem dr_cX14_word_45 : decode cX14_word 45 = .ok (.aload_n 0, 1) := by decide +kernel
theorem dr_cX14_word_46 : decode cX14_word 46 = .ok (.getfield 44, 3) := by decide +kernel
theorem dr_cX14_word_49 : decode cX14_word 49 = .ok (.iconst 1, 1) := by decide +kernel
theorem dr_cX14_word_50 : decode cX14_word 50 = .ok (.iadd, 1) := by decide +kernel
theorem dr_cX14_word_51 : decode cX14_word 51 = .ok (.baload, 1) := by decide +kernel
theorem dr_cX14_word_52 : decode cX14_word 52 = .ok (.invokestatic 50, 3) := by decide +kernel
theorem dr_cX14_word_55 : decode cX14_word 55 = .ok (.ifCond .eq 123, 3) := by decide +kernel
theorem dr_cX14_word_58 : decode cX14_word 58 = .ok (.lconst 0, 1) := by decide +kernel
theorem dr_cX14_word_59 : decode cX14_word 59 = .ok (.lstore_n 2, 1) := by decide +kernel
theorem dr_cX14_word_60 : decode cX14_word 60 = .ok (.aload_n 0, 1) := by decide +kernel
theorem dr_cX14_word_61 : decode cX14_word 61 = .ok (.dup, 1) := by decide +kernel
theorem dr_cX14_word_62 : decode cX14_word 62 = .ok (.getfield 44, 3) := by decide +kernel
theorem dr_cX14_word_65 : decode cX14_word 65 = .ok (.iconst 1, 1) := by decide +kernel
theorem dr_cX14_word_66 : decode cX14_word 66 = .ok (.iadd, 1) := by decide +kernel
theorem dr_cX14_word_67 : decode cX14_word 67 = .ok (.putfield 44, 3) := by decide +kernel
theorem dr_cX14_word_70 : decode cX14_word 70 = .ok (.aload_n 0, 1) := by decide +kernel
theorem dr_cX14_word_71 : decode cX14_word 71 = .ok (.getfield 44, 3) := by decide +kernel
theorem dr_cX14_word_74 : decode cX14_word 74 = .ok (.aload_n 0, 1) := by decide +kernel
theorem dr_cX14_word_75 : decode cX14_word 75 = .ok (.getfield 32, 3) := by decide +kernel
theorem dr_cX14_word_78 : decode cX14_word 78 = .ok (.if_icmp .ge 58, 3) := by decide +kernel
theorem dr_cX14_word_136 : decode cX14_word 136 = .ok (.aload_n 0, 1) := by decide +kernel
theorem dr_cX14_word_137 : decode cX14_word 137 = .ok (.lload_n 2, 1) := by decide +kernel
theorem dr_cX14_word_138 : decode cX14_word 138 = .ok (.l2i, 1) := by decide +kernel
theorem dr_cX14_word_139 : decode cX14_word 139 = .ok (.putfield 80, 3) := by decide +kernel
theorem dr_cX14_word_142 : decode cX14_word 142 = .ok (.lload_n 2, 1) := by decide +kernel
theorem dr_cX14_word_143 : decode cX14_word 143 = .ok (.iload_n 1, 1) := by decide +kernel
theorem dr_cX14_word_144 : decode cX14_word 144 = .ok (.bipush 118, 2) := by decide +kernel
theorem dr_cX14_word_146 : decode cX14_word 146 = .ok (.if_icmp .ne 9, 3) := by decide +kernel
theorem dr_cX14_word_149 : decode cX14_word 149 = .ok (.ldc2_w 83, 3) := by decide +kernel
theorem wr_7_233 : (Jvm.Cond.constantLong "SpillForgeModel$Reader" (83 : Nat) (99 : Int64)) ∈ gw := gw_7 233 rfl rfl
theorem dr_cX14_word_152 : decode cX14_word 152 = .ok (.goto 6, 3) := by decide +kernel
theorem dr_cX14_word_158 : decode cX14_word 158 = .ok (.lcmp, 1) := by decide +kernel
theorem dr_cX14_word_159 : decode cX14_word 159 = .ok (.ifCond .gt 18, 3) := by decide +kernel
theorem dr_cX14_word_177 : decode cX14_word 177 = .ok (.return_, 1) := by decide +kernel
theorem dr_cX14_word_162 : decode cX14_word 162 = .ok (.aload_n 0, 1) := by decide +kernel
theorem dr_cX14_word_163 : decode cX14_word 163 = .ok (.iload_n 1, 1) := by decide +kernel
theorem dr_cX14_word_164 : decode cX14_word 164 = .ok (.bipush 118, 2) := by decide +kernel
theorem dr_cX14_word_166 : decode cX14_word 166 = .ok (.if_icmp .ne 7, 3) := by decide +kernel
theorem dr_cX14_word_169 : decode cX14_word 169 = .ok (.iconst 2, 1) := by decide +kernel
theorem dr_cX14_word_170 : decode cX14_word 170 = .ok (.goto 4, 3) := by decide +kernel
theorem dr_cX14_word_174 : decode cX14_word 174 = .ok (.putfield 38, 3) := by decide +kernel
theorem dr_cX14_word_81 : decode cX14_word 81 = .ok (.aload_n 0, 1) := by decide +kernel
theorem dr_cX14_word_82 : decode cX14_word 82 = .ok (.getfield 28, 3) := by decide +kernel
theorem dr_cX14_word_85 : decode cX14_word 85 = .ok (.aload_n 0, 1) := by decide +kernel
theorem dr_cX14_word_86 : decode cX14_word 86 = .ok (.getfield 44, 3) := by decide +kernel
theorem dr_cX14_word_89 : decode cX14_word 89 = .ok (.baload, 1) := by decide +kernel
theorem dr_cX14_word_90 : decode cX14_word 90 = .ok (.invokestatic 50, 3) := by decide +kernel
theorem dr_cX14_word_93 : decode cX14_word 93 = .ok (.ifCond .eq 43, 3) := by decide +kernel
theorem dr_cX14_word_96 : decode cX14_word 96 = .ok (.lload_n 2, 1) := by decide +kernel
theorem dr_cX14_word_97 : decode cX14_word 97 = .ok (.ldc2_w 68, 3) := by decide +kernel
theorem dr_cX14_word_100 : decode cX14_word 100 = .ok (.lmul, 1) := by decide +kernel
theorem dr_cX14_word_101 : decode cX14_word 101 = .ok (.aload_n 0, 1) := by decide +kernel
theorem dr_cX14_word_102 : decode cX14_word 102 = .ok (.getfield 28, 3) := by decide +kernel
theorem dr_cX14_word_105 : decode cX14_word 105 = .ok (.aload_n 0, 1) := by decide +kernel
theorem dr_cX14_word_106 : decode cX14_word 106 = .ok (.getfield 44, 3) := by decide +kernel
theorem dr_cX14_word_109 : decode cX14_word 109 = .ok (.baload, 1) := by decide +kernel
theorem dr_cX14_word_110 : decode cX14_word 110 = .ok (.i2l, 1) := by decide +kernel
theorem dr_cX14_word_111 : decode cX14_word 111 = .ok (.ladd, 1) := by decide +kernel
theorem dr_cX14_word_112 : decode cX14_word 112 = .ok (.ldc2_w 70, 3) := by decide +kernel
theorem dr_cX14_word_115 : decode cX14_word 115 = .ok (.lsub, 1) := by decide +kernel
theorem dr_cX14_word_116 : decode cX14_word 116 = .ok (.ldc2_w 72, 3) := by decide +kernel
theorem wr_7_231 : (Jvm.Cond.constantLong "SpillForgeModel$Reader" (72 : Nat) (1000000 : Int64)) ∈ gw := gw_7 231 rfl rfl
theorem dr_cX14_word_119 : decode cX14_word 119 = .ok (.invokestatic 74, 3) := by decide +kernel
theorem dr_cX14_word_122 : decode cX14_word 122 = .ok (.lstore_n 2, 1) := by decide +kernel
theorem dr_cX14_word_123 : decode cX14_word 123 = .ok (.aload_n 0, 1) := by decide +kernel
theorem dr_cX14_word_124 : decode cX14_word 124 = .ok (.dup, 1) := by decide +kernel
theorem dr_cX14_word_125 : decode cX14_word 125 = .ok (.getfield 44, 3) := by decide +kernel
theorem dr_cX14_word_128 : decode cX14_word 128 = .ok (.iconst 1, 1) := by decide +kernel
theorem dr_cX14_word_129 : decode cX14_word 129 = .ok (.iadd, 1) := by decide +kernel
theorem dr_cX14_word_130 : decode cX14_word 130 = .ok (.putfield 44, 3) := by decide +kernel
theorem dr_cX14_word_133 : decode cX14_word 133 = .ok (.goto (-63), 3) := by decide +kernel
theorem dr_cX14_word_22 : decode cX14_word 22 = .ok (.iload_n 1, 1) := by decide +kernel
theorem dr_cX14_word_23 : decode cX14_word 23 = .ok (.bipush 98, 2) := by decide +kernel
theorem dr_cX14_word_25 : decode cX14_word 25 = .ok (.if_icmp .ne 153, 3) := by decide +kernel
theorem dr_cX14_word_155 : decode cX14_word 155 = .ok (.ldc2_w 85, 3) := by decide +kernel
theorem wr_7_234 : (Jvm.Cond.constantLong "SpillForgeModel$Reader" (85 : Nat) (39 : Int64)) ∈ gw := gw_7 234 rfl rfl
theorem dr_cX14_word_173 : decode cX14_word 173 = .ok (.iconst 3, 1) := by decide +kernel
abbrev ky_667320_Reader_isLetter : gKey := (cX14_isLetter, 1, "SpillForgeModel$Reader", (some FieldType.boolean), [], "isLetter", fun _ _ => True)
def pp_667320_Reader_isLetter (D : va_G) (I : FieldType → ClassId) (P667317 : List Nat) (F667318 : Nat → va_E) (p667319 : Int32) : Option Value → va_W → Nat → Nat → Prop := fun r w dc ds => ∃ (o667327 : Int32), r = some (.int o667327) ∧ w = va_pl P667317 F667318 ∧ dc ≤ 0 ∧ ds ≤ 0 ∧ gB o667327 0 1 ∧ isP p667319 97 122 o667327 ∧ tr_RReader_isLetter2 p667319 o667327
set_option maxRecDepth 100000 in
set_option maxHeartbeats 4000000 in
theorem cp_667320_Reader_isLetter (l : Launch) (hl0 : l.stackTraces = false) (D : va_G) (I : FieldType → ClassId) (P667317 : List Nat) (F667318 : Nat → va_E) (p667319 : Int32)  : CtA (gV D I) l yX14_isLetter cX14_isLetter 1 (some FieldType.boolean) 0 0 0 0 [.int p667319] (va_pl P667317 F667318) (pp_667320_Reader_isLetter D I P667317 F667318 p667319) gNA := by
  refine CtA_of hl0 (by decide) (Nat.le_of_ble_eq_true rfl) ?_
  have bp667319 := gB_any p667319
  refine G_iload_n 0 dr_cX14_isLetter_0 rfl ?_
  refine G_bipush 97 dr_cX14_isLetter_1 (by decide +kernel) ?_
  refine G_icmp_lt 16 dr_cX14_isLetter_3 (by decide +kernel) (fun hc667321 => ?_) (fun hc667321 => ?_)
  · have r667322 : p667319.toInt < 97 := gj_lt hc667321 (show Int32.toInt 97 = 97 by decide)
    have bp667319' : gB p667319 (-2147483648) 96 := ⟨by omega, by omega⟩
    refine G_iconst 0 dr_cX14_isLetter_16 (by decide +kernel) ?_
    exact G_zretA FieldType.boolean dr_cX14_isLetter_17 rfl rfl (Nat.le_of_ble_eq_true rfl) (Nat.le_of_ble_eq_true rfl) ⟨0, rfl, rfl, (Nat.le_of_ble_eq_true rfl), (Nat.le_of_ble_eq_true rfl), (gB_w (gBl (show Int32.toInt 0 = 0 by decide)) (by decide) (by decide)), (isP_n (by omega)), (fun R c1 c2 c3 => c1 r667322)⟩
  · have r667323 : 97 ≤ p667319.toInt := gj_nlt hc667321 (show Int32.toInt 97 = 97 by decide)
    have bp667319' : gB p667319 97 2147483647 := ⟨by omega, by omega⟩
    refine G_iload_n 0 dr_cX14_isLetter_6 rfl ?_
    refine G_bipush 122 dr_cX14_isLetter_7 (by decide +kernel) ?_
    refine G_icmp_gt 16 dr_cX14_isLetter_9 (by decide +kernel) (fun hc667324 => ?_) (fun hc667324 => ?_)
    · have r667325 : 122 < p667319.toInt := gj_ltL hc667324 (show Int32.toInt 122 = 122 by decide)
      have bp667319'' : gB p667319 123 2147483647 := ⟨by omega, by omega⟩
      refine G_iconst 0 dr_cX14_isLetter_16 (by decide +kernel) ?_
      exact G_zretA FieldType.boolean dr_cX14_isLetter_17 rfl rfl (Nat.le_of_ble_eq_true rfl) (Nat.le_of_ble_eq_true rfl) ⟨0, rfl, rfl, (Nat.le_of_ble_eq_true rfl), (Nat.le_of_ble_eq_true rfl), (gB_w (gBl (show Int32.toInt 0 = 0 by decide)) (by decide) (by decide)), (isP_n (by omega)), (fun R c1 c2 c3 => c2 r667323 r667325)⟩
    · have r667326 : p667319.toInt ≤ 122 := gj_nltL hc667324 (show Int32.toInt 122 = 122 by decide)
      have bp667319'' : gB p667319 97 122 := ⟨by omega, by omega⟩
      refine G_iconst 1 dr_cX14_isLetter_12 (by decide +kernel) ?_
      refine G_goto 17 dr_cX14_isLetter_13 (by decide +kernel) ?_
      exact G_zretA FieldType.boolean dr_cX14_isLetter_17 rfl rfl (Nat.le_of_ble_eq_true rfl) (Nat.le_of_ble_eq_true rfl) ⟨1, rfl, rfl, (Nat.le_of_ble_eq_true rfl), (Nat.le_of_ble_eq_true rfl), (gB_w (gBl (show Int32.toInt 1 = 1 by decide)) (by decide) (by decide)), (isP_y (by omega) (by omega)), (fun R c1 c2 c3 => c3 r667323 r667326)⟩
/- tr_RAbstractStringBuilder_append8: a.0...count, a.0.value.#, a.0.value.[] -/
def tr_RAbstractStringBuilder_append8 (a1 : Int32) (a0_count : Int32) (a0_value_v : Nat → Int32) (a0_value_n : Nat) (o1 : Int32) (o2 : Nat) (o3 : Nat → Int32) : Prop := ∀ R : (Int32) → (Nat) → (Nat → Int32) → Prop,
  (∀ (x1 : Int32) (x2 : Nat) (x3 : Nat → Int32) (x4 : Int32) (x5 : Int32) (x6 : Nat → Int32), x1.toInt = a0_count.toInt + 1 → tr_RAbstractStringBuilder_ensureCapacityInternal2 x1 a0_value_v a0_value_n x2 x3 → tr_RStringLatin1_canEncode a1 (1 : Int32) → x4.toInt = a0_count.toInt + 1 → x5 = a1.toInt8.toInt32 → x6 = upd x3 a0_count.toNatClampNeg (vp_nar .byte x5) → R x4 x2 x6) →
  R o1 o2 o3
abbrev ky_667658_AbstractStringBuilder_append : gKey := (cJ5_append_3fe6f, 2, "java/lang/AbstractStringBuilder", (some (FieldType.object "java/lang/AbstractStringBuilder")), [], "append", fun _ _ => True)
def pp_667658_AbstractStringBuilder_append (D : va_G) (I : FieldType → ClassId) (P667645 : List Nat) (F667646 : Nat → va_E) (q667647 : Nat) (q667648 : Nat) (p667649 : Int32) (p667650 : Int32) (p667651 : Int32) (f667652 : Nat → Int32) (n667653 : Nat) : Option Value → va_W → Nat → Nat → Prop := fun r w dc ds => ∃ (P667723 : List Nat) (F667724 : Nat → va_E) (o667719 : Int32) (q667720 : Nat) (n667721 : Nat) (f667722 : Nat → Int32), r = some (.ref q667647) ∧ w = va_pl P667723 F667724 ∧ rSub P667645 P667723 ∧ rFr [q667648, q667647] P667645 F667646 F667724 ∧ F667724 q667647 = .inr (1, [.ref q667720, .int 0, .int p667650, .int o667719]) ∧ F667724 q667720 = .inl (I .byte, n667721, .inl f667722) ∧ q667720 ∈ P667723 ∧ (q667720 = q667648 ∨ q667720 ∉ P667645) ∧ dc ≤ 1 ∧ ds ≤ 2 * (n667721 - n667653) ∧ gB o667719 1 16777216 ∧ gF f667722 (-128) 127 ∧ o667719.toInt = p667651.toInt + 1 ∧ o667719.toInt ≤ (n667721 : Int) ∧ (n667653 : Int) ≤ (n667721 : Int) ∧ (n667721 : Int) ≤ 2 * o667719.toInt + 16 ∧ (n667721 : Int) ≤ 2 * (n667653 : Int) + 2 ∧ tr_RAbstractStringBuilder_append8 p667649 p667651 f667652 n667653 o667719 n667721 f667722
set_option maxRecDepth 100000 in
set_option maxHeartbeats 4000000 in
theorem cp_667658_AbstractStringBuilder_append (l : Launch) (hl0 : l.stackTraces = false) (D : va_G) (I : FieldType → ClassId) (P667645 : List Nat) (F667646 : Nat → va_E) (q667647 : Nat) (q667648 : Nat) (p667649 : Int32) (p667650 : Int32) (p667651 : Int32) (f667652 : Nat → Int32) (n667653 : Nat) (hmq667647 : q667647 ∈ P667645) (hmq667648 : q667648 ∈ P667645) (heq667647 : F667646 q667647 = .inr (1, [.ref q667648, .int 0, .int p667650, .int p667651])) (heq667648 : F667646 q667648 = .inl (I .byte, n667653, .inl f667652)) (bp667649 : gB p667649 0 255) (bp667650 : gB p667650 0 1) (bp667651 : gB p667651 0 16777216) (bf667652 : gF f667652 (-128) 127) (x667654 : (n667653 : Int) ≤ 8388608 - 100000) (x667655 : p667651.toInt ≤ (n667653 : Int)) (x667656 : (n667653 : Int) ≤ 2 * p667651.toInt + 16) (x667657 : ((n667653 : Int) ≤ 16777216)) : CtA (gV D I) l yJ5_append_3fe6f cJ5_append_3fe6f 2 (some (FieldType.object "java/lang/AbstractStringBuilder")) 4 84 1 (4 * n667653 + 8) [.ref q667647, .int p667649] (va_pl P667645 F667646) (pp_667658_AbstractStringBuilder_append D I P667645 F667646 q667647 q667648 p667649 p667650 p667651 f667652 n667653) gNA := by
  refine CtA_ofF hl0 (by decide +kernel) (Nat.le_of_ble_eq_true rfl) ?_
  refine G_aload_n 0 dr_cJ5_append_3fe6f_0 rfl ?_
  refine G_aload_n 0 dr_cJ5_append_3fe6f_1 rfl ?_
  refine Gp_get 3 hmq667647 heq667647 dr_cJ5_append_3fe6f_2 (gk_J4 D I) (Nat.le_of_ble_eq_true rfl) wr_7_64 rfl ?_
  refine G_iconst 1 dr_cJ5_append_3fe6f_5 (by decide +kernel) ?_
  refine G_iadd dr_cJ5_append_3fe6f_6 (G_nam fun z667659 hz667659 => ?_)
  have ez667659 : z667659.toInt = p667651.toInt + 1 := by rw [gI_add hz667659 bp667651 (gBl (show Int32.toInt 1 = 1 by decide)) (by decide) (by decide), show Int32.toInt 1 = 1 from by decide]
  have bz667659 : gB z667659 1 16777217 := gB_add (gI_add hz667659 bp667651 (gBl (show Int32.toInt 1 = 1 by decide)) (by decide) (by decide)) bp667651 (gBl (show Int32.toInt 1 = 1 by decide)) (by decide) (by decide)
  refine Gw_callVB (As := [.int z667659]) (gV_ok D I) (cp_655917_AbstractStringBuilder_ensureCapacityInternal l hl0 D I P667645 F667646 q667647 q667648 z667659 p667650 p667651 f667652 n667653 hmq667647 hmq667648 heq667647 heq667648 ⟨by omega, by omega⟩ bp667650 bp667651 bf667652 (by have qa0 : Int32.toInt 0 = 0 := (by decide); omega) (by have qa0 : Int32.toInt 0 = 0 := (by decide); omega)) dr_cJ5_append_3fe6f_7 ⟨wr_8_4, wr_1_19, wr_8_7, by decide, rfl, (Nat.le_of_ble_eq_true rfl), (Nat.le_of_ble_eq_true rfl)⟩ wr_8_6 wr_s_0 hmq667647 heq667647 rfl (show 0 + 1 ≤ 1 by first | omega | decide) (show 0 + (2 * n667653 + 2 + z667659.toInt.toNat) ≤ (4 * n667653 + 8) by first | omega | decide) (Nat.le_of_ble_eq_true rfl) (fun r667663 w667664 dc667660 ds667661 hp667662 => ?_) (fun _ _ _ _ _ z => z.elim)
  obtain ⟨P667673, F667674, q667665, n667666, f667667, rfl, rfl, hsb667675, hfr667676, he667677, he667678, hm667679, hq667680, hdc, hds, bf667667, x667668, x667669, x667670, x667671, ht667672⟩ := hp667662
  have hm667681 : q667647 ∈ P667673 := hsb667675 q667647 hmq667647
  have hm667682 : q667648 ∈ P667673 := hsb667675 q667648 hmq667648
  have hor667683 : q667665 = q667648 ∨ q667665 ∉ P667645 := hq667680.elim Or.inl (fun n => Or.inr (fun z => n ((rSub_rf (P := P667645)) _ z)))
  have hsb667684 : rSub P667645 P667673 := rSub_tr (rSub_rf (P := P667645)) hsb667675
  have he667685 : F667674 q667648 = .inl (I .byte, n667653, .inl f667652) := (hfr667676 q667648 hmq667648 (nm_c (rn_ao heq667648 heq667647) nm_n)).trans heq667648
  have hfr667686 : rFr [q667647] P667645 F667646 F667674 := rFr_call (rSub_rf (P := P667645)) (rFr_rf (W := []) (P := P667645) (F := F667646)) hfr667676 (fun b hb hn => ⟨nm_n, (nm_c (fun e => hn (e ▸ List.mem_cons_self)) nm_n)⟩)
  change G _ _ _ _ _ _ _ _ _ _ _
  refine G_widen (cs' := 1) (sl' := 2 * (n667666 - n667653)) (by omega) (by omega) ?_
  refine G_aload_n 0 dr_cJ5_append_3fe6f_10 rfl ?_
  refine Gw_callVB (As := []) (gV_ok D I) (cp_655818_AbstractStringBuilder_isLatin1 l hl0 D I P667673 F667674 q667647 q667665 p667650 p667651 f667667 n667666 hm667681 hm667679 he667677 he667678 bp667650 bp667651 bf667667 (by have qa0 : Int32.toInt 0 = 0 := (by decide); omega)) dr_cJ5_append_3fe6f_11 ⟨wr_8_33, wr_1_19, wr_8_37, by decide, rfl, (Nat.le_of_ble_eq_true rfl), (Nat.le_of_ble_eq_true rfl)⟩ wr_8_34 wr_8_36 hm667681 he667677 rfl (show 1 + 0 ≤ 1 by first | omega | decide) (show 2 * (n667666 - n667653) + 0 ≤ (4 * n667653 + 8) by first | omega | decide) (Nat.le_of_ble_eq_true rfl) (fun r667690 w667691 dc667687 ds667688 hp667689 => ?_) (fun _ _ _ _ _ z => z.elim)
  obtain ⟨rfl, rfl, hdc, hds⟩ := hp667689
  change G _ _ _ _ _ _ _ (.int 1 :: _) _ _ _
  refine G_widen (cs' := 1) (sl' := 2 * (n667666 - n667653) + 0) (by omega) (by omega) ?_
  refine G_if_eq 45 dr_cJ5_append_3fe6f_14 (by decide +kernel) (fun hc => absurd hc (by decide)) (fun _ => ?_)
  refine G_iload_n 1 dr_cJ5_append_3fe6f_17 rfl ?_
  refine Gw_callS (As := [.int p667649]) (gV_ok D I) (cp_655827_StringLatin1_canEncode l hl0 D I P667673 F667674 p667649 (gB_w bp667649 (by decide) (by decide))) dr_cJ5_append_3fe6f_18 ⟨wr_8_38, wr_1_28, wr_8_40, by decide, rfl, (Nat.le_of_ble_eq_true rfl), (Nat.le_of_ble_eq_true rfl)⟩ wr_8_39 (show 1 + 0 ≤ 1 by first | omega | decide) (show 2 * (n667666 - n667653) + 0 + 0 ≤ (4 * n667653 + 8) by first | omega | decide) (Nat.le_of_ble_eq_true rfl) (fun r667695 w667696 dc667692 ds667693 hp667694 => ?_) (fun _ _ _ _ _ z => z.elim)
  rcases hp667694 with ⟨rfl, rfl, hdc, hds, r667697, r667698⟩ | ⟨rfl, rfl, hdc, hds, r667699, r667700⟩
  · exact absurd (show False by omega) not_false
  · change G _ _ _ _ _ _ _ (.int 1 :: _) _ _ _
    refine G_widen (cs' := 1) (sl' := 2 * (n667666 - n667653) + 0 + 0) (by omega) (by omega) ?_
    refine G_if_eq 45 dr_cJ5_append_3fe6f_21 (by decide +kernel) (fun hc => absurd hc (by decide)) (fun _ => ?_)
    refine G_aload_n 0 dr_cJ5_append_3fe6f_24 rfl ?_
    refine Gp_get 0 hm667681 he667677 dr_cJ5_append_3fe6f_25 (gk_J4 D I) (Nat.le_of_ble_eq_true rfl) wr_7_60 rfl ?_
    refine G_aload_n 0 dr_cJ5_append_3fe6f_28 rfl ?_
    refine G_dup dr_cJ5_append_3fe6f_29 rfl ?_
    refine Gp_get 3 hm667681 he667677 dr_cJ5_append_3fe6f_30 (gk_J4 D I) (Nat.le_of_ble_eq_true rfl) wr_7_64 rfl ?_
    refine G_dup_x1 dr_cJ5_append_3fe6f_33 rfl rfl ?_
    refine G_iconst 1 dr_cJ5_append_3fe6f_34 (by decide +kernel) ?_
    refine G_iadd dr_cJ5_append_3fe6f_35 (G_nam fun z667702 hz667702 => ?_)
    have ez667702 : z667702.toInt = p667651.toInt + 1 := by rw [gI_add hz667702 bp667651 (gBl (show Int32.toInt 1 = 1 by decide)) (by decide) (by decide), show Int32.toInt 1 = 1 from by decide]
    have bz667702 : gB z667702 1 16777217 := gB_add (gI_add hz667702 bp667651 (gBl (show Int32.toInt 1 = 1 by decide)) (by decide) (by decide)) bp667651 (gBl (show Int32.toInt 1 = 1 by decide)) (by decide) (by decide)
    refine Gp_put 3 hm667681 he667677 dr_cJ5_append_3fe6f_36 (gk_J4 D I) (Nat.le_of_ble_eq_true rfl) wr_7_64 rfl rfl rfl (Nat.le_of_ble_eq_true rfl) (fun F667703 e667704 n667705 => ?_)
    have he667706 : F667703 q667648 = .inl (I .byte, n667653, .inl f667652) := (n667705 q667648 (rn_ao he667685 he667677)).trans he667685
    have he667707 : F667703 q667665 = .inl (I .byte, n667666, .inl f667667) := (n667705 q667665 (rn_ao he667678 he667677)).trans he667678
    have he667708 : F667703 q667647 = .inr (1, [.ref q667665, .int 0, .int p667650, .int z667702]) := e667704
    have hfr667709 : rFr [q667647] P667645 F667646 F667703 := rFr_put' List.mem_cons_self hfr667686 n667705
    refine G_iload_n 1 dr_cJ5_append_3fe6f_39 rfl ?_
    refine G_i2b dr_cJ5_append_3fe6f_40 (G_nam fun z667710 hz667710 => ?_)
    have bz667710 : gB z667710 (-128) 127 := gB_i2b hz667710
    refine Gp_bast 1 hm667679 he667707 dr_cJ5_append_3fe6f_41 rfl (gB_inr (by omega) (by omega)) (fun F667711 e667712 n667713 => ?_)
    obtain ⟨f667714, hf667714⟩ : ∃ z, z = upd f667667 p667651.toNatClampNeg (vp_nar .byte z667710) := ⟨_, rfl⟩
    rw [← hf667714] at e667712
    have he667716 : F667711 q667647 = .inr (1, [.ref q667665, .int 0, .int p667650, .int z667702]) := (n667713 q667647 (rn_oa he667708 he667707)).trans he667708
    have he667717 : F667711 q667665 = .inl (I .byte, n667666, .inl f667714) := e667712
    have hfr667718 : rFr [q667648, q667647] P667645 F667646 F667711 := rFr_eit hor667683 hfr667709 n667713
    have bf667714 : gF f667714 (-128) 127 := gF_upd hf667714 bf667667 gB_byte
    refine G_goto 75 dr_cJ5_append_3fe6f_42 (by decide +kernel) ?_
    refine G_aload_n 0 dr_cJ5_append_3fe6f_75 rfl ?_
    exact G_aretA (FieldType.object "java/lang/AbstractStringBuilder") dr_cJ5_append_3fe6f_76 rfl (by first | exact Or.inl ⟨_, rfl⟩ | exact Or.inr ⟨_, rfl⟩) (Or.inr ⟨_, rfl⟩) (Nat.le_of_ble_eq_true rfl) (show 2 * (n667666 - n667653) + 0 + 0 ≤ (4 * n667653 + 8) by omega) ⟨P667673, F667711, z667702, q667665, n667666, f667714, rfl, rfl, hsb667684, hfr667718, he667716, he667717, hm667679, hor667683, (Nat.le_of_ble_eq_true rfl), (by omega), ⟨by omega, by omega⟩, bf667714, (by have qa0 : Int32.toInt 0 = 0 := (by decide); omega), (by have qa0 : Int32.toInt 0 = 0 := (by decide); omega), (by have qa0 : Int32.toInt 0 = 0 := (by decide); omega), (by have qa0 : Int32.toInt 0 = 0 := (by decide); omega), (by have qa0 : Int32.toInt 0 = 0 := (by decide); omega), (fun R c1 => c1 z667659 n667666 f667667 z667702 z667710 f667714 ez667659 ht667672 r667700 ez667702 hz667710 hf667714)⟩
/- tr_RStringBuilder_append8: a.0...count, a.0.value.#, a.0.value.[] -/
def tr_RStringBuilder_append8 (a1 : Int32) (a0_count : Int32) (a0_value_v : Nat → Int32) (a0_value_n : Nat) (o1 : Int32) (o2 : Nat) (o3 : Nat → Int32) : Prop := ∀ R : (Int32) → (Nat) → (Nat → Int32) → Prop,
  (∀ (x1 : Int32) (x2 : Nat) (x3 : Nat → Int32), gB x1 1 16777216 → tr_RAbstractStringBuilder_append8 a1 a0_count a0_value_v a0_value_n x1 x2 x3 → R x1 x2 x3) →
  R o1 o2 o3
abbrev ky_667644_StringBuilder_append : gKey := (cJ4_append_cf468, 2, "java/lang/StringBuilder", (some (FieldType.object "java/lang/StringBuilder")), [], "append", fun _ _ => True)
def pp_667644_StringBuilder_append (D : va_G) (I : FieldType → ClassId) (P667631 : List Nat) (F667632 : Nat → va_E) (q667633 : Nat) (q667634 : Nat) (p667635 : Int32) (p667636 : Int32) (p667637 : Int32) (f667638 : Nat → Int32) (n667639 : Nat) : Option Value → va_W → Nat → Nat → Prop := fun r w dc ds => ∃ (P667757 : List Nat) (F667758 : Nat → va_E) (o667753 : Int32) (q667754 : Nat) (n667755 : Nat) (f667756 : Nat → Int32), r = some (.ref q667633) ∧ w = va_pl P667757 F667758 ∧ rSub P667631 P667757 ∧ rFr [q667634, q667633] P667631 F667632 F667758 ∧ F667758 q667633 = .inr (1, [.ref q667754, .int 0, .int p667636, .int o667753]) ∧ F667758 q667754 = .inl (I .byte, n667755, .inl f667756) ∧ q667754 ∈ P667757 ∧ (q667754 = q667634 ∨ q667754 ∉ P667631) ∧ dc ≤ 1 ∧ ds ≤ 2 * (n667755 - n667639) ∧ gB o667753 1 16777216 ∧ gF f667756 (-128) 127 ∧ o667753.toInt = p667637.toInt + 1 ∧ o667753.toInt ≤ (n667755 : Int) ∧ (n667639 : Int) ≤ (n667755 : Int) ∧ (n667755 : Int) ≤ 2 * o667753.toInt + 16 ∧ (n667755 : Int) ≤ 2 * (n667639 : Int) + 2 ∧ tr_RStringBuilder_append8 p667635 p667637 f667638 n667639 o667753 n667755 f667756
set_option maxRecDepth 100000 in
set_option maxHeartbeats 4000000 in
theorem cp_667644_StringBuilder_append (l : Launch) (hl0 : l.stackTraces = false) (D : va_G) (I : FieldType → ClassId) (P667631 : List Nat) (F667632 : Nat → va_E) (q667633 : Nat) (q667634 : Nat) (p667635 : Int32) (p667636 : Int32) (p667637 : Int32) (f667638 : Nat → Int32) (n667639 : Nat) (hmq667633 : q667633 ∈ P667631) (hmq667634 : q667634 ∈ P667631) (heq667633 : F667632 q667633 = .inr (1, [.ref q667634, .int 0, .int p667636, .int p667637])) (heq667634 : F667632 q667634 = .inl (I .byte, n667639, .inl f667638)) (bp667635 : gB p667635 0 255) (bp667636 : gB p667636 0 1) (bp667637 : gB p667637 0 16777216) (bf667638 : gF f667638 (-128) 127) (x667640 : (n667639 : Int) ≤ 8388608 - 100000) (x667641 : p667637.toInt ≤ (n667639 : Int)) (x667642 : (n667639 : Int) ≤ 2 * p667637.toInt + 16) (x667643 : ((n667639 : Int) ≤ 16777216)) : CtA (gV D I) l yJ4_append_cf468 cJ4_append_cf468 2 (some (FieldType.object "java/lang/StringBuilder")) 5 105 1 (4 * n667639 + 8) [.ref q667633, .int p667635] (va_pl P667631 F667632) (pp_667644_StringBuilder_append D I P667631 F667632 q667633 q667634 p667635 p667636 p667637 f667638 n667639) gNA := by
  refine CtA_ofF hl0 (by decide +kernel) (Nat.le_of_ble_eq_true rfl) ?_
  refine G_aload_n 0 dr_cJ4_append_cf468_0 rfl ?_
  refine G_iload_n 1 dr_cJ4_append_cf468_1 rfl ?_
  refine Gw_callSU (As := [.int p667635]) (gV_ok D I) (cp_667658_AbstractStringBuilder_append l hl0 D I P667631 F667632 q667633 q667634 p667635 p667636 p667637 f667638 n667639 hmq667633 hmq667634 heq667633 heq667634 bp667635 bp667636 bp667637 bf667638 (by have qa0 : Int32.toInt 0 = 0 := (by decide); omega) (by have qa0 : Int32.toInt 0 = 0 := (by decide); omega) (by have qa0 : Int32.toInt 0 = 0 := (by decide); omega) (by have qa0 : Int32.toInt 0 = 0 := (by decide); omega)) dr_cJ4_append_cf468_2 ⟨wr_8_1, wr_1_19, wr_8_3, by decide, rfl, (Nat.le_of_ble_eq_true rfl), (Nat.le_of_ble_eq_true rfl)⟩ wr_8_2 wr_11_224 wr_7_73 wr_7_44 (by decide) hmq667633 heq667633 rfl (show 0 + 1 ≤ 1 by first | omega | decide) (show 0 + (4 * n667639 + 8) ≤ (4 * n667639 + 8) by first | omega | decide) (Nat.le_of_ble_eq_true rfl) (fun r667728 w667729 dc667725 ds667726 hp667727 => ?_)
  obtain ⟨P667740, F667741, o667730, q667731, n667732, f667733, rfl, rfl, hsb667742, hfr667743, he667744, he667745, hm667746, hq667747, hdc, hds, bo667730, bf667733, x667734, x667735, x667736, x667737, x667738, ht667739⟩ := hp667727
  have hm667748 : q667633 ∈ P667740 := hsb667742 q667633 hmq667633
  have hm667749 : q667634 ∈ P667740 := hsb667742 q667634 hmq667634
  have hor667750 : q667731 = q667634 ∨ q667731 ∉ P667631 := hq667747.elim Or.inl (fun n => Or.inr (fun z => n ((rSub_rf (P := P667631)) _ z)))
  have hsb667751 : rSub P667631 P667740 := rSub_tr (rSub_rf (P := P667631)) hsb667742
  have hfr667752 : rFr [q667634, q667633] P667631 F667632 F667741 := rFr_call (rSub_rf (P := P667631)) (rFr_rf (W := []) (P := P667631) (F := F667632)) hfr667743 (fun b hb hn => ⟨nm_n, (nm_c (fun e => hn (e ▸ List.mem_cons_self)) (nm_c (fun e => hn (e ▸ (List.mem_cons_of_mem _ List.mem_cons_self))) nm_n))⟩)
  change G _ _ _ _ _ _ _ (.ref q667633 :: _) _ _ _
  refine G_widen (cs' := 1) (sl' := 2 * (n667732 - n667639)) (by omega) (by omega) ?_
  refine G_pop dr_cJ4_append_cf468_5 rfl ?_
  refine G_aload_n 0 dr_cJ4_append_cf468_6 rfl ?_
  exact G_aretA (FieldType.object "java/lang/StringBuilder") dr_cJ4_append_cf468_7 rfl (by first | exact Or.inl ⟨_, rfl⟩ | exact Or.inr ⟨_, rfl⟩) (Or.inr ⟨_, rfl⟩) (Nat.le_of_ble_eq_true rfl) (show 2 * (n667732 - n667639) ≤ (4 * n667639 + 8) by omega) ⟨P667740, F667741, o667730, q667731, n667732, f667733, rfl, rfl, hsb667751, hfr667752, he667744, he667745, hm667746, hor667750, (Nat.le_of_ble_eq_true rfl), (by omega), bo667730, bf667733, (by have qa0 : Int32.toInt 0 = 0 := (by decide); omega), (by have qa0 : Int32.toInt 0 = 0 := (by decide); omega), (by have qa0 : Int32.toInt 0 = 0 := (by decide); omega), (by have qa0 : Int32.toInt 0 = 0 := (by decide); omega), (by have qa0 : Int32.toInt 0 = 0 := (by decide); omega), (fun R c1 => c1 o667730 n667732 f667733 bo667730 ht667739)⟩
/- tl_RReader_word_186: a0_at, a3_count, a3_value_n, a3_value_v; out: a0_at, a3_count, a3_value_n, a3_value_v -/
def tl_RReader_word_186 (a0_n : Int32) (a0_t_v : Nat → Int32) (s1 : Int32) (s2 : Int32) (s3 : Nat) (s4 : Nat → Int32) (k : Nat) (e1 : Int32) (e2 : Int32) (e3 : Nat) (e4 : Nat → Int32) : Prop := ∀ R : (Int32) → (Int32) → (Nat) → (Nat → Int32) → Nat → (Int32) → (Int32) → (Nat) → (Nat → Int32) → Prop,
  (∀ (a0_at_1 : Int32) (a3_count_1 : Int32) (a3_value_n_1 : Nat) (a3_value_v_1 : Nat → Int32), gB a0_at_1 0 8192 → gB a3_count_1 0 16777216 → a0_n.toInt ≤ a0_at_1.toInt → R a0_at_1 a3_count_1 a3_value_n_1 a3_value_v_1 240 a0_at_1 a3_count_1 a3_value_n_1 a3_value_v_1) →
  (∀ (a0_at_1 : Int32) (a3_count_1 : Int32) (a3_value_n_1 : Nat) (a3_value_v_1 : Nat → Int32) (x1 : Int32) (x2 : Int32), gB a0_at_1 0 8192 → gB a3_count_1 0 16777216 → a0_at_1.toInt < a0_n.toInt → x1 = a0_t_v a0_at_1.toNatClampNeg → gB x1 (-128) 127 → gB x2 0 1 → tr_RReader_isLetter2 x1 x2 → x2.toInt = 0 → R a0_at_1 a3_count_1 a3_value_n_1 a3_value_v_1 240 a0_at_1 a3_count_1 a3_value_n_1 a3_value_v_1) →
  (∀ (a0_at_1 : Int32) (a3_count_1 : Int32) (a3_value_n_1 : Nat) (a3_value_v_1 : Nat → Int32) (x1 : Int32) (x2 : Int32) (x3 : Int32) (x4 : Int32) (x5 : Nat) (x6 : Nat → Int32) (x7 : Int32) (k : Nat) (e1 : Int32) (e2 : Int32) (e3 : Nat) (e4 : Nat → Int32), gB a0_at_1 0 8192 → gB a3_count_1 0 16777216 → a0_at_1.toInt < a0_n.toInt → x1 = a0_t_v a0_at_1.toNatClampNeg → gB x1 (-128) 127 → gB x2 0 1 → tr_RReader_isLetter2 x1 x2 → x2.toInt ≠ 0 → x3 = (x1.toUInt32 % 65536).toInt32 → gB x4 1 16777216 → tr_RStringBuilder_append8 x3 a3_count_1 a3_value_v_1 a3_value_n_1 x4 x5 x6 → x7.toInt = a0_at_1.toInt + 1 → R x7 x4 x5 x6 k e1 e2 e3 e4 → R a0_at_1 a3_count_1 a3_value_n_1 a3_value_v_1 k e1 e2 e3 e4) →
  R s1 s2 s3 s4 k e1 e2 e3 e4
/- tl_RReader_word_70: l2, a0_at; out: l2, a0_at -/
def tl_RReader_word_70 (a0_n : Int32) (a0_t_v : Nat → Int32) (s1 : Int64) (s2 : Int32) (k : Nat) (e1 : Int64) (e2 : Int32) : Prop := ∀ R : (Int64) → (Int32) → Nat → (Int64) → (Int32) → Prop,
  (∀ (l2_1 : Int64) (a0_at_1 : Int32), gB a0_at_1 0 8192 → a0_n.toInt ≤ a0_at_1.toInt → R l2_1 a0_at_1 136 l2_1 a0_at_1) →
  (∀ (l2_1 : Int64) (a0_at_1 : Int32) (x1 : Int32) (x2 : Int32), gB a0_at_1 0 8192 → a0_at_1.toInt < a0_n.toInt → x1 = a0_t_v a0_at_1.toNatClampNeg → gB x1 (-128) 127 → gB x2 0 1 → tr_RReader_isDigit2 x1 x2 → x2.toInt = 0 → R l2_1 a0_at_1 136 l2_1 a0_at_1) →
  (∀ (l2_1 : Int64) (a0_at_1 : Int32) (x1 : Int32) (x2 : Int32) (x3 : Int64) (x4 : Int64) (x5 : Int64) (x6 : Int64) (x7 : Int64) (x8 : Int32) (k : Nat) (e1 : Int64) (e2 : Int32), gB a0_at_1 0 8192 → a0_at_1.toInt < a0_n.toInt → x1 = a0_t_v a0_at_1.toNatClampNeg → gB x1 (-128) 127 → gB x2 0 1 → tr_RReader_isDigit2 x1 x2 → x2.toInt ≠ 0 → x3 = l2_1 * (10 : Int64) → x4 = x1.toInt64 → x5 = x3 + x4 → x6 = x5 - (48 : Int64) → tr_RMath_min x6 (1000000 : Int64) x7 → x8.toInt = a0_at_1.toInt + 1 → R x7 x8 k e1 e2 → R l2_1 a0_at_1 k e1 e2) →
  R s1 s2 k e1 e2
/- tl_RReader_word_70_2: l2, a0_at; out: l2, a0_at -/
def tl_RReader_word_70_2 (a0_n : Int32) (a0_t_v : Nat → Int32) (s1 : Int64) (s2 : Int32) (k : Nat) (e1 : Int64) (e2 : Int32) : Prop := ∀ R : (Int64) → (Int32) → Nat → (Int64) → (Int32) → Prop,
  (∀ (l2_1 : Int64) (a0_at_1 : Int32), gB a0_at_1 0 8192 → a0_n.toInt ≤ a0_at_1.toInt → R l2_1 a0_at_1 136 l2_1 a0_at_1) →
  (∀ (l2_1 : Int64) (a0_at_1 : Int32) (x1 : Int32) (x2 : Int32), gB a0_at_1 0 8192 → a0_at_1.toInt < a0_n.toInt → x1 = a0_t_v a0_at_1.toNatClampNeg → gB x1 (-128) 127 → gB x2 0 1 → tr_RReader_isDigit2 x1 x2 → x2.toInt = 0 → R l2_1 a0_at_1 136 l2_1 a0_at_1) →
  (∀ (l2_1 : Int64) (a0_at_1 : Int32) (x1 : Int32) (x2 : Int32) (x3 : Int64) (x4 : Int64) (x5 : Int64) (x6 : Int64) (x7 : Int64) (x8 : Int32) (k : Nat) (e1 : Int64) (e2 : Int32), gB a0_at_1 0 8192 → a0_at_1.toInt < a0_n.toInt → x1 = a0_t_v a0_at_1.toNatClampNeg → gB x1 (-128) 127 → gB x2 0 1 → tr_RReader_isDigit2 x1 x2 → x2.toInt ≠ 0 → x3 = l2_1 * (10 : Int64) → x4 = x1.toInt64 → x5 = x3 + x4 → x6 = x5 - (48 : Int64) → tr_RMath_min x6 (1000000 : Int64) x7 → x8.toInt = a0_at_1.toInt + 1 → R x7 x8 k e1 e2 → R l2_1 a0_at_1 k e1 e2) →
  R s1 s2 k e1 e2
/- tr_RReader_word: a.0...at, a.0...kind, a.0...value -/
def tr_RReader_word (a0_n : Int32) (a0_at : Int32) (a0_value : Int32) (a0_t_v : Nat → Int32) (o1 : Int32) (o2 : Int32) (o3 : Int32) (o4 : gTx) : Prop := ∀ R : (Int32) → (Int32) → (Int32) → (gTx) → Prop,
  (∀ (x1 : Int32) (x2 : Int32) (x3 : Int32) (x4 : Nat) (x5 : Nat → Int32) (x6 : Nat) (x7 : Nat → Int32) (x8 : Int32) (x9 : Nat → Int32) (x10 : Int32) (x11 : Nat) (x12 : Nat → Int32) (x13 : Int32) (x14 : Nat) (x15 : Nat → Int32) (x16 : Nat) (x17 : Nat → Int32) (x18 : Int32), x1 = a0_t_v a0_at.toNatClampNeg → gB x1 (-128) 127 → (((∃ (y1 : Int32), x1.toInt = 118 ∧ y1.toInt = a0_at.toInt + 1 ∧ a0_n.toInt ≤ y1.toInt) ∨ (∃ (y1 : Int32) (y2 : Int32) (y3 : Int32), x1.toInt = 118 ∧ y1.toInt = a0_at.toInt + 1 ∧ y1.toInt < a0_n.toInt ∧ y2 = a0_t_v y1.toNatClampNeg ∧ gB y2 (-128) 127 ∧ gB y3 0 1 ∧ tr_RReader_isDigit2 y2 y3 ∧ y3.toInt = 0) ∨ (x1.toInt ≠ 118 ∧ x1.toInt ≠ 98) ∨ (∃ (y1 : Int32), x1.toInt ≠ 118 ∧ x1.toInt = 98 ∧ y1.toInt = a0_at.toInt + 1 ∧ a0_n.toInt ≤ y1.toInt) ∨ (∃ (y1 : Int32) (y2 : Int32) (y3 : Int32), x1.toInt ≠ 118 ∧ x1.toInt = 98 ∧ y1.toInt = a0_at.toInt + 1 ∧ y1.toInt < a0_n.toInt ∧ y2 = a0_t_v y1.toNatClampNeg ∧ gB y2 (-128) 127 ∧ gB y3 0 1 ∧ tr_RReader_isDigit2 y2 y3 ∧ y3.toInt = 0))) → (tl_RReader_word_186 a0_n a0_t_v a0_at (0 : Int32) 16 (fun _ => 0 : Nat → Int32) 240 x2 x3 x4 x5) → tr_RStringBuilder_toString x3 x5 x4 x6 x7 → gB x8 0 16777216 → (tr_RStringBuilder_append4 sb_35 (0 : Int32) (fun _ => 0) 16 x8 x9) → gB x10 0 16777216 → tr_RStringBuilder_append5 x8 x9 16 x7 x6 x10 x11 x12 → gB x13 0 16777216 → tr_RStringBuilder_append6 sb_35 x10 x12 x11 x13 x14 x15 → tr_RStringBuilder_toString x13 x15 x14 x16 x17 → gB x18 (-2147483646) 16777215 → tr_RString_indexOf sb_34 x17 x16 x18 → x18.toInt < 0 → R x2 (6 : Int32) a0_value (0, fun _ => 0)) →
  (∀ (x1 : Int32) (x2 : Int32) (x3 : Int32) (x4 : Nat) (x5 : Nat → Int32) (x6 : Nat) (x7 : Nat → Int32) (x8 : Int32) (x9 : Nat → Int32) (x10 : Int32) (x11 : Nat) (x12 : Nat → Int32) (x13 : Int32) (x14 : Nat) (x15 : Nat → Int32) (x16 : Nat) (x17 : Nat → Int32) (x18 : Int32), x1 = a0_t_v a0_at.toNatClampNeg → gB x1 (-128) 127 → (((∃ (y1 : Int32), x1.toInt = 118 ∧ y1.toInt = a0_at.toInt + 1 ∧ a0_n.toInt ≤ y1.toInt) ∨ (∃ (y1 : Int32) (y2 : Int32) (y3 : Int32), x1.toInt = 118 ∧ y1.toInt = a0_at.toInt + 1 ∧ y1.toInt < a0_n.toInt ∧ y2 = a0_t_v y1.toNatClampNeg ∧ gB y2 (-128) 127 ∧ gB y3 0 1 ∧ tr_RReader_isDigit2 y2 y3 ∧ y3.toInt = 0) ∨ (x1.toInt ≠ 118 ∧ x1.toInt ≠ 98) ∨ (∃ (y1 : Int32), x1.toInt ≠ 118 ∧ x1.toInt = 98 ∧ y1.toInt = a0_at.toInt + 1 ∧ a0_n.toInt ≤ y1.toInt) ∨ (∃ (y1 : Int32) (y2 : Int32) (y3 : Int32), x1.toInt ≠ 118 ∧ x1.toInt = 98 ∧ y1.toInt = a0_at.toInt + 1 ∧ y1.toInt < a0_n.toInt ∧ y2 = a0_t_v y1.toNatClampNeg ∧ gB y2 (-128) 127 ∧ gB y3 0 1 ∧ tr_RReader_isDigit2 y2 y3 ∧ y3.toInt = 0))) → (tl_RReader_word_186 a0_n a0_t_v a0_at (0 : Int32) 16 (fun _ => 0 : Nat → Int32) 240 x2 x3 x4 x5) → tr_RStringBuilder_toString x3 x5 x4 x6 x7 → gB x8 0 16777216 → (tr_RStringBuilder_append4 sb_35 (0 : Int32) (fun _ => 0) 16 x8 x9) → gB x10 0 16777216 → tr_RStringBuilder_append5 x8 x9 16 x7 x6 x10 x11 x12 → gB x13 0 16777216 → tr_RStringBuilder_append6 sb_35 x10 x12 x11 x13 x14 x15 → tr_RStringBuilder_toString x13 x15 x14 x16 x17 → gB x18 (-2147483646) 16777215 → tr_RString_indexOf sb_34 x17 x16 x18 → 0 ≤ x18.toInt → R x2 (1 : Int32) a0_value (x6, x7)) →
  (∀ (x1 : Int32) (x2 : Int32) (x3 : Int32) (x4 : Int32) (x5 : Int64) (x6 : Int32) (x7 : Int32) (x8 : Int32), x1 = a0_t_v a0_at.toNatClampNeg → gB x1 (-128) 127 → x1.toInt = 118 → x2.toInt = a0_at.toInt + 1 → x2.toInt < a0_n.toInt → x3 = a0_t_v x2.toNatClampNeg → gB x3 (-128) 127 → gB x4 0 1 → tr_RReader_isDigit2 x3 x4 → x4.toInt ≠ 0 → tl_RReader_word_70 a0_n a0_t_v (0 : Int64) x2 136 x5 x6 → x7 = x5.toInt32 → x8 = lg_cmp x5 (99 : Int64) → 0 < x8.toInt → R x6 (6 : Int32) x7 (0, fun _ => 0)) →
  (∀ (x1 : Int32) (x2 : Int32) (x3 : Int32) (x4 : Int32) (x5 : Int64) (x6 : Int32) (x7 : Int32) (x8 : Int32), x1 = a0_t_v a0_at.toNatClampNeg → gB x1 (-128) 127 → x1.toInt = 118 → x2.toInt = a0_at.toInt + 1 → x2.toInt < a0_n.toInt → x3 = a0_t_v x2.toNatClampNeg → gB x3 (-128) 127 → gB x4 0 1 → tr_RReader_isDigit2 x3 x4 → x4.toInt ≠ 0 → tl_RReader_word_70 a0_n a0_t_v (0 : Int64) x2 136 x5 x6 → x7 = x5.toInt32 → x8 = lg_cmp x5 (99 : Int64) → x8.toInt ≤ 0 → R x6 (2 : Int32) x7 (0, fun _ => 0)) →
  (∀ (x1 : Int32) (x2 : Int32) (x3 : Int32) (x4 : Int32) (x5 : Int64) (x6 : Int32) (x7 : Int32) (x8 : Int32), x1 = a0_t_v a0_at.toNatClampNeg → gB x1 (-128) 127 → x1.toInt ≠ 118 → x1.toInt = 98 → x2.toInt = a0_at.toInt + 1 → x2.toInt < a0_n.toInt → x3 = a0_t_v x2.toNatClampNeg → gB x3 (-128) 127 → gB x4 0 1 → tr_RReader_isDigit2 x3 x4 → x4.toInt ≠ 0 → tl_RReader_word_70_2 a0_n a0_t_v (0 : Int64) x2 136 x5 x6 → x7 = x5.toInt32 → x8 = lg_cmp x5 (39 : Int64) → 0 < x8.toInt → R x6 (6 : Int32) x7 (0, fun _ => 0)) →
  (∀ (x1 : Int32) (x2 : Int32) (x3 : Int32) (x4 : Int32) (x5 : Int64) (x6 : Int32) (x7 : Int32) (x8 : Int32), x1 = a0_t_v a0_at.toNatClampNeg → gB x1 (-128) 127 → x1.toInt ≠ 118 → x1.toInt = 98 → x2.toInt = a0_at.toInt + 1 → x2.toInt < a0_n.toInt → x3 = a0_t_v x2.toNatClampNeg → gB x3 (-128) 127 → gB x4 0 1 → tr_RReader_isDigit2 x3 x4 → x4.toInt ≠ 0 → tl_RReader_word_70_2 a0_n a0_t_v (0 : Int64) x2 136 x5 x6 → x7 = x5.toInt32 → x8 = lg_cmp x5 (39 : Int64) → x8.toInt ≤ 0 → R x6 (3 : Int32) x7 (0, fun _ => 0)) →
  R o1 o2 o3 o4
abbrev ky_666976_Reader_word : gKey := (cX14_word, 4, "SpillForgeModel$Reader", none, [], "word", fun _ _ => True)
def pp_666976_Reader_word (D : va_G) (I : FieldType → ClassId) (P666953 : List Nat) (F666954 : Nat → va_E) (q666955 : Nat) (q666956 : Nat) (p666957 : Int32) (p666958 : Int32) (p666959 : Int32) (p666960 : Int32) (p666961 : Int32) (p666962 : Int32) (qo666963 : Nat) (p666964 : Int32) (p666965 : Int32) (p666966 : Int32) (qo666967 : Nat) (qo666968 : Nat) (p666969 : Int32) (f666970 : Nat → Int32) : Option Value → va_W → Nat → Nat → Prop := fun r w dc ds => ∃ (P669601 : List Nat) (F669602 : Nat → va_E) (o669597 : Int32) (o669598 : Int32) (o669599 : Int32) (q669600 : Nat) (xt669603 : gTx), r = none ∧ w = va_pl P669601 F669602 ∧ rSub P666953 P669601 ∧ rFr [q666955] P666953 F666954 F669602 ∧ F669602 q666955 = .inr (19, [.ref q666956, .int p666957, .int o669597, .int o669598, .int p666960, .int o669599, .int p666962, .ref q669600, .int p666964, .int p666965, .int p666966, .ref qo666967, .ref qo666968, .int p666969]) ∧ F669602 q666956 = .inl (I .byte, 8192, .inl f666970) ∧ dc ≤ (16 * (o669597.toInt - p666958.toInt)).toNat ∧ ds ≤ (160 * (o669597.toInt - p666958.toInt)).toNat ∧ gB o669597 0 8192 ∧ gB o669598 1 6 ∧ p666958.toInt < o669597.toInt ∧ o669597.toInt ≤ p666957.toInt ∧ tP I P669601 F669602 o669598 q669600 qo666968 qo666967 xt669603 ∧ vP o669598 o669599 ∧ tr_RReader_word p666957 p666958 p666961 f666970 o669597 o669598 o669599 xt669603
set_option maxRecDepth 100000 in
set_option maxHeartbeats 4000000 in
theorem cp_666976_Reader_word (l : Launch) (hl0 : l.stackTraces = false) (D : va_G) (I : FieldType → ClassId) (P666953 : List Nat) (F666954 : Nat → va_E) (q666955 : Nat) (q666956 : Nat) (p666957 : Int32) (p666958 : Int32) (p666959 : Int32) (p666960 : Int32) (p666961 : Int32) (p666962 : Int32) (qo666963 : Nat) (p666964 : Int32) (p666965 : Int32) (p666966 : Int32) (qo666967 : Nat) (qo666968 : Nat) (p666969 : Int32) (f666970 : Nat → Int32) (hmq666955 : q666955 ∈ P666953) (hmq666956 : q666956 ∈ P666953) (heq666955 : F666954 q666955 = .inr (19, [.ref q666956, .int p666957, .int p666958, .int p666959, .int p666960, .int p666961, .int p666962, .ref qo666963, .int p666964, .int p666965, .int p666966, .ref qo666967, .ref qo666968, .int p666969])) (heq666956 : F666954 q666956 = .inl (I .byte, 8192, .inl f666970)) (bp666957 : gB p666957 0 8192) (bp666958 : gB p666958 0 8192) (bp666959 : gB p666959 0 6) (bp666960 : gB p666960 0 8192) (bp666962 : gB p666962 0 6) (bp666964 : gB p666964 (-1) 8192) (bp666965 : gB p666965 0 4) (bp666966 : gB p666966 0 1000000) (bp666969 : gB p666969 0 1000000) (bf666970 : gF f666970 (-128) 127) (x666971 : p666958.toInt ≤ p666957.toInt) (x666972 : p666958.toInt < p666957.toInt) (x666973 : cLt f666970 p666958) (x666974 : qo666968 ∈ P666953) (x666975 : qo666967 ∈ P666953) : CtA (gV D I) l yX14_word cX14_word 4 none 6 132 ((16 * (p666957.toInt - p666958.toInt)).toNat) ((160 * (p666957.toInt - p666958.toInt)).toNat) [.ref q666955] (va_pl P666953 F666954) (pp_666976_Reader_word D I P666953 F666954 q666955 q666956 p666957 p666958 p666959 p666960 p666961 p666962 qo666963 p666964 p666965 p666966 qo666967 qo666968 p666969 f666970) gNA := by
  refine CtA_of hl0 (by decide) (Nat.le_of_ble_eq_true rfl) ?_
  have bp666961 := gB_any p666961
  refine G_aload_n 0 dr_cX14_word_0 rfl ?_
  refine Gp_get 0 hmq666955 heq666955 dr_cX14_word_1 (gk_X14 D I) (Nat.le_of_ble_eq_true rfl) wr_9_36 rfl ?_
  refine G_aload_n 0 dr_cX14_word_4 rfl ?_
  refine Gp_get 2 hmq666955 heq666955 dr_cX14_word_5 (gk_X14 D I) (Nat.le_of_ble_eq_true rfl) wr_9_38 rfl ?_
  refine Gp_bald 1 hmq666956 heq666956 dr_cX14_word_8 rfl (gB_inr (by omega) (by omega)) (G_nam fun z666977 hz666977 => ?_)
  have bz666977 : gB z666977 (-128) 127 := by rw [hz666977]; exact bf666970 _
  refine G_istore_n (L' := [(1, .int z666977), (0, .ref q666955)]) dr_cX14_word_9 (Nat.le_of_ble_eq_true rfl) rfl ?_
  refine G_aload_n 1 dr_cX14_word_10 rfl ?_
  refine G_bipush 6 dr_cX14_word_11 (by decide +kernel) ?_
  refine Gp_put 3 hmq666955 heq666955 dr_cX14_word_13 (gk_X14 D I) (Nat.le_of_ble_eq_true rfl) wr_9_39 rfl rfl rfl (Nat.le_of_ble_eq_true rfl) (fun F666978 e666979 n666980 => ?_)
  have he666981 : F666978 q666956 = .inl (I .byte, 8192, .inl f666970) := (n666980 q666956 (rn_ao heq666956 heq666955)).trans heq666956
  have he666982 : F666978 q666955 = .inr (19, [.ref q666956, .int p666957, .int p666958, .int 6, .int p666960, .int p666961, .int p666962, .ref qo666963, .int p666964, .int p666965, .int p666966, .ref qo666967, .ref qo666968, .int p666969]) := e666979
  have hfr666983 : rFr [q666955] P666953 F666954 F666978 := rFr_put (rFr_rf (W := []) (P := P666953) (F := F666954)) n666980
  have jn666984 : ((∃ (y1 : Int32), z666977.toInt = 118 ∧ y1.toInt = p666958.toInt + 1 ∧ p666957.toInt ≤ y1.toInt) ∨ (∃ (y1 : Int32) (y2 : Int32) (y3 : Int32), z666977.toInt = 118 ∧ y1.toInt = p666958.toInt + 1 ∧ y1.toInt < p666957.toInt ∧ y2 = f666970 y1.toNatClampNeg ∧ gB y2 (-128) 127 ∧ gB y3 0 1 ∧ tr_RReader_isDigit2 y2 y3 ∧ y3.toInt = 0) ∨ (z666977.toInt ≠ 118 ∧ z666977.toInt ≠ 98) ∨ (∃ (y1 : Int32), z666977.toInt ≠ 118 ∧ z666977.toInt = 98 ∧ y1.toInt = p666958.toInt + 1 ∧ p666957.toInt ≤ y1.toInt) ∨ (∃ (y1 : Int32) (y2 : Int32) (y3 : Int32), z666977.toInt ≠ 118 ∧ z666977.toInt = 98 ∧ y1.toInt = p666958.toInt + 1 ∧ y1.toInt < p666957.toInt ∧ y2 = f666970 y1.toNatClampNeg ∧ gB y2 (-128) 127 ∧ gB y3 0 1 ∧ tr_RReader_isDigit2 y2 y3 ∧ y3.toInt = 0)) → G (gV D I) l (gRm 6 132 ((16 * (p666957.toInt - p666958.toInt)).toNat) ((160 * (p666957.toInt - p666958.toInt)).toNat)) (gMA (gV D I) (pp_666976_Reader_word D I P666953 F666954 q666955 q666956 p666957 p666958 p666959 p666960 p666961 p666962 qo666963 p666964 p666965 p666966 qo666967 qo666968 p666969 f666970) gNA ((16 * (p666957.toInt - p666958.toInt)).toNat) ((160 * (p666957.toInt - p666958.toInt)).toNat)) ky_666976_Reader_word 178 [(1, .int z666977), (0, .ref q666955)] [] (va_pl P666953 F666978) 0 0 := by
    intro hJ666985
    refine G_new [.null, .int 0, .int 0, .int 0] dr_cX14_word_178 (gk_J4 D I) wr_7_235 wr_7_44 wr_1_20 (gfs_J4) (show 0 + 1 ≤ ((16 * (p666957.toInt - p666958.toInt)).toNat) by first | omega | decide) (show 0 + 4 ≤ ((160 * (p666957.toInt - p666958.toInt)).toNat) by first | omega | decide) (fun q666986 => Gp_in (fun P666987 F666988 hq666989 hP666990 e666991 n666992 => ?_))
    refine G_widen (cs' := 1) (sl' := 4) (by omega) (by omega) ?_
    have he666993 : F666988 q666955 = .inr (19, [.ref q666956, .int p666957, .int p666958, .int 6, .int p666960, .int p666961, .int p666962, .ref qo666963, .int p666964, .int p666965, .int p666966, .ref qo666967, .ref qo666968, .int p666969]) := (n666992 q666955 (fun h => hq666989 (h ▸ hmq666955))).trans he666982
    have he666994 : F666988 q666956 = .inl (I .byte, 8192, .inl f666970) := (n666992 q666956 (fun h => hq666989 (h ▸ hmq666956))).trans he666981
    have he666995 : F666988 q666986 = .inr (1, [.null, .int 0, .int 0, .int 0]) := e666991
    have hm666996 : q666955 ∈ P666987 := (hP666990 q666955).mpr (Or.inl hmq666955)
    have hm666997 : q666956 ∈ P666987 := (hP666990 q666956).mpr (Or.inl hmq666956)
    have hm666998 : q666986 ∈ P666987 := (hP666990 q666986).mpr (Or.inr rfl)
    have hq666999 : q666986 ∉ P666953 := fun z => hq666989 ((rSub_rf (P := P666953)) q666986 z)
    have hfr667000 : rFr [q666955] P666953 F666954 F666988 := rFr_new (rSub_rf (P := P666953)) hq666989 hfr666983 n666992
    have hsb667001 : rSub P666953 P666987 := rSub_new (rSub_rf (P := P666953)) hP666990
    refine G_dup dr_cX14_word_181 rfl ?_
    refine Gw_callI (As := []) (gV_ok D I) (cp_656210_StringBuilder_init l hl0 D I P666987 F666988 q666986 0 0 hm666998 he666995 (gB_w (gBl (show Int32.toInt 0 = 0 by decide)) (by decide) (by decide)) (gB_w (gBl (show Int32.toInt 0 = 0 by decide)) (by decide) (by decide))) dr_cX14_word_182 ⟨wr_7_236, wr_1_20, wr_7_47, by decide, rfl, (Nat.le_of_ble_eq_true rfl), (Nat.le_of_ble_eq_true rfl)⟩ wr_7_46 rfl (show 1 + 1 ≤ ((16 * (p666957.toInt - p666958.toInt)).toNat) by first | omega | decide) (show 4 + 16 ≤ ((160 * (p666957.toInt - p666958.toInt)).toNat) by first | omega | decide) (Nat.le_of_ble_eq_true rfl) (fun r667005 w667006 dc667002 ds667003 hp667004 => ?_)
    obtain ⟨P667008, F667009, q667007, rfl, rfl, hsb667010, hfr667011, he667012, he667013, hm667014, hq667015, hdc, hds⟩ := hp667004
    have hm667016 : q666955 ∈ P667008 := hsb667010 q666955 hm666996
    have hm667017 : q666956 ∈ P667008 := hsb667010 q666956 hm666997
    have hm667018 : q666986 ∈ P667008 := hsb667010 q666986 hm666998
    have hq667019 : q667007 ∉ P666953 := fun z => hq667015 (hsb667001 q667007 z)
    have hsb667020 : rSub P666953 P667008 := rSub_tr hsb667001 hsb667010
    have he667021 : F667009 q666955 = .inr (19, [.ref q666956, .int p666957, .int p666958, .int 6, .int p666960, .int p666961, .int p666962, .ref qo666963, .int p666964, .int p666965, .int p666966, .ref qo666967, .ref qo666968, .int p666969]) := (hfr667011 q666955 hm666996 (nm_c (fun h => hq666999 (h ▸ hmq666955)) nm_n)).trans he666993
    have he667022 : F667009 q666956 = .inl (I .byte, 8192, .inl f666970) := (hfr667011 q666956 hm666997 (nm_c (fun h => hq666999 (h ▸ hmq666956)) nm_n)).trans he666994
    have hfr667023 : rFr [q666955] P666953 F666954 F667009 := rFr_call hsb667001 hfr667000 hfr667011 (fun b hb hn => ⟨(nm_c (fun e => hn (e ▸ List.mem_cons_self)) nm_n), (nm_c (fun e => hq666999 (e ▸ hb)) nm_n)⟩)
    change G _ _ _ _ _ _ _ _ _ _ _
    refine G_widen (cs' := 2) (sl' := 20) (by omega) (by omega) ?_
    refine G_astore_n (L' := [(2, .ref q666986), (1, .int z666977), (0, .ref q666955)]) dr_cX14_word_185 (Nat.le_of_ble_eq_true rfl) rfl ?_
    refine G_widen (cs' := 2 + (0 : Int).toNat) (sl' := 4 + 2 * 16) (by omega) (by omega) ?_
    have hlp186_668476 : ∀ (n186_668476 : Nat) (P668466 : List Nat) (F668460 : Nat → va_E) (g668454 : Int32) (g668455 : Int32) (q668456 : Nat) (n668457 : Nat) (f668458 : Nat → Int32), gB g668454 0 8192 → gB g668455 0 16777216 → gF f668458 (-128) 127 → rSub P666953 P668466 → rFr [q666955] P666953 F666954 F668460 → q666955 ∈ P668466 → F668460 q666955 = .inr (19, [.ref q666956, .int p666957, .int g668454, .int 6, .int p666960, .int p666961, .int p666962, .ref qo666963, .int p666964, .int p666965, .int p666966, .ref qo666967, .ref qo666968, .int p666969]) → q666956 ∈ P668466 → F668460 q666956 = .inl (I .byte, 8192, .inl f666970) → q666986 ∈ P668466 → F668460 q666986 = .inr (1, [.ref q668456, .int 0, .int 0, .int g668455]) → q668456 ∈ P668466 → F668460 q668456 = .inl (I .byte, n668457, .inl f668458) → q668456 ∉ P666953 → p666958.toInt ≤ g668454.toInt → g668454.toInt ≤ p666957.toInt → g668455.toInt = g668454.toInt - p666958.toInt → g668455.toInt ≤ (n668457 : Int) → (n668457 : Int) ≤ 2 * g668455.toInt + 16 → (∀ (k : Nat) (e1 : Int32) (e2 : Int32) (e3 : Nat) (e4 : Nat → Int32), tl_RReader_word_186 p666957 f666970 g668454 g668455 n668457 f668458 k e1 e2 e3 e4 → tl_RReader_word_186 p666957 f666970 p666958 (0 : Int32) 16 (fun _ => 0 : Nat → Int32) k e1 e2 e3 e4) → ((8193 : Int) - g668454.toInt).toNat < n186_668476 → G (gV D I) l (gRm 6 132 ((16 * (p666957.toInt - p666958.toInt)).toNat) ((160 * (p666957.toInt - p666958.toInt)).toNat)) (gMA (gV D I) (pp_666976_Reader_word D I P666953 F666954 q666955 q666956 p666957 p666958 p666959 p666960 p666961 p666962 qo666963 p666964 p666965 p666966 qo666967 qo666968 p666969 f666970) gNA ((16 * (p666957.toInt - p666958.toInt)).toNat) ((160 * (p666957.toInt - p666958.toInt)).toNat)) ky_666976_Reader_word 186 [(2, .ref q666986), (1, .int z666977), (0, .ref q666955)] [] (va_pl P668466 F668460) (2 + (g668455.toInt : Int).toNat) (4 + 2 * n668457) := by
      intro n186_668476
      induction n186_668476 with
      | zero => intro P668466 F668460 g668454 g668455 q668456 n668457 f668458 bg668454 bg668455 bf668458 hsb668471 hfr668465 hm668467 he668461 hm668468 he668462 hm668469 he668463 hm668470 he668464 hq668459 x668472 x668473 x668474 x668475 x668476 kt186_668476 hm186_668476; exact absurd hm186_668476 (Nat.not_lt_zero _)
      | succ n186_668476 ih186_668476 =>
        intro P668466 F668460 g668454 g668455 q668456 n668457 f668458 bg668454 bg668455 bf668458 hsb668471 hfr668465 hm668467 he668461 hm668468 he668462 hm668469 he668463 hm668470 he668464 hq668459 x668472 x668473 x668474 x668475 x668476 kt186_668476 hm186_668476
        refine G_aload_n 2 dr_cX14_word_186 rfl ?_
        refine Gp_get 2 hm668467 he668461 dr_cX14_word_187 (gk_X14 D I) (Nat.le_of_ble_eq_true rfl) wr_9_38 rfl ?_
        refine G_aload_n 2 dr_cX14_word_190 rfl ?_
        refine Gp_get 1 hm668467 he668461 dr_cX14_word_191 (gk_X14 D I) (Nat.le_of_ble_eq_true rfl) wr_9_37 rfl ?_
        refine G_icmp_ge 240 dr_cX14_word_194 (by decide +kernel) (fun hc668477 => ?_) (fun hc668477 => ?_)
        · have r668478 : p666957.toInt ≤ g668454.toInt := gC_le hc668477
          have hx668479 : tl_RReader_word_186 p666957 f666970 p666958 (0 : Int32) 16 (fun _ => 0 : Nat → Int32) 240 g668454 g668455 n668457 f668458 := kt186_668476 240 g668454 g668455 n668457 f668458 (fun R c1 c2 c3 => c1 g668454 g668455 n668457 f668458 bg668454 bg668455 r668478)
          have x668480 : p666958.toInt < g668454.toInt := by first | omega | exact cLt_lt x666973 (by assumption) (isP_0 (by assumption) (by omega)) (by omega)
          refine G_aload_n 2 dr_cX14_word_240 rfl ?_
          refine G_aload_n 0 dr_cX14_word_241 rfl ?_
          refine Gw_callV (As := []) (gV_ok D I) (cp_656985_StringBuilder_toString l hl0 D I P668466 F668460 q666986 q668456 0 g668455 f668458 n668457 hm668469 hm668470 he668463 he668464 (gB_w (gBl (show Int32.toInt 0 = 0 by decide)) (by decide) (by decide)) bg668455 bf668458 (by have qa0 : Int32.toInt 0 = 0 := (by decide); have qa1 : Int32.toInt 6 = 6 := (by decide); omega) (by have qa0 : Int32.toInt 0 = 0 := (by decide); have qa1 : Int32.toInt 6 = 6 := (by decide); omega)) dr_cX14_word_242 ⟨wr_8_66, wr_1_20, wr_8_69, by decide, rfl, (Nat.le_of_ble_eq_true rfl), (Nat.le_of_ble_eq_true rfl)⟩ wr_8_67 wr_8_68 hm668469 he668463 rfl (show 2 + (g668455.toInt : Int).toNat + 2 ≤ ((16 * (p666957.toInt - p666958.toInt)).toNat) by first | omega | decide) (show 4 + 2 * n668457 + (g668455.toInt.toNat + 4) ≤ ((160 * (p666957.toInt - p666958.toInt)).toNat) by first | omega | decide) (Nat.le_of_ble_eq_true rfl) (fun r668484 w668485 dc668481 ds668482 hp668483 => ?_) (fun _ _ _ _ _ z => z.elim)
          obtain ⟨P668493, F668494, q668486, q668487, n668488, f668489, rfl, rfl, hsb668495, hfr668496, he668497, he668498, he668499, he668500, hm668501, hq668502, hm668503, hq668504, hdc, hds, bf668489, x668490, x668491, ht668492⟩ := hp668483
          have hm668505 : q666955 ∈ P668493 := hsb668495 q666955 hm668467
          have hm668506 : q666956 ∈ P668493 := hsb668495 q666956 hm668468
          have hm668507 : q666986 ∈ P668493 := hsb668495 q666986 hm668469
          have hm668508 : q668456 ∈ P668493 := hsb668495 q668456 hm668470
          have hq668509 : q668486 ∉ P666953 := fun z => hq668502 (hsb668471 q668486 z)
          have hq668510 : q668487 ∉ P666953 := fun z => hq668504 (hsb668471 q668487 z)
          have hsb668511 : rSub P666953 P668493 := rSub_tr hsb668471 hsb668495
          have he668512 : F668494 q666955 = .inr (19, [.ref q666956, .int p666957, .int g668454, .int 6, .int p666960, .int p666961, .int p666962, .ref qo666963, .int p666964, .int p666965, .int p666966, .ref qo666967, .ref qo666968, .int p666969]) := (hfr668496 q666955 hm668467 nm_n).trans he668461
          have he668513 : F668494 q666956 = .inl (I .byte, 8192, .inl f666970) := (hfr668496 q666956 hm668468 nm_n).trans he668462
          have hfr668514 : rFr [q666955] P666953 F666954 F668494 := rFr_call hsb668471 hfr668465 hfr668496 (fun b hb hn => ⟨(nm_c (fun e => hn (e ▸ List.mem_cons_self)) nm_n), nm_n⟩)
          have hne668515 : q668456 ≠ q668487 := fun h => hq668504 (h ▸ hm668470)
          change G _ _ _ _ _ _ _ (.ref q668486 :: _) _ _ _
          refine G_widen (cs' := 2 + (g668455.toInt : Int).toNat + 2) (sl' := 4 + 2 * n668457 + (g668455.toInt.toNat + 4)) (by omega) (by omega) ?_
          have x668516 : (n668488 : Int) = g668454.toInt - p666958.toInt := by omega
          clear he666981 he666982 hfr666983 he666993 he666994 he666995 hm666996 hm666997 hm666998 hfr667000 hsb667001 hsb667010 hfr667011 he667012 he667013 hm667014 hq667015 hm667016 hm667017 hm667018 hq667019 hsb667020 he667021 he667022 hfr667023 hsb668495 hfr668496 hq668502 hq668504; try clear r667005; try clear w667006; try clear dc667002; try clear ds667003; try clear hp667004; try clear r668484; try clear w668485; try clear dc668481; try clear ds668482; try clear hp668483
          refine Gp_put 7 hm668505 he668512 dr_cX14_word_245 (gk_X14 D I) (Nat.le_of_ble_eq_true rfl) wr_9_43 rfl rfl rfl (Nat.le_of_ble_eq_true rfl) (fun F668517 e668518 n668519 => ?_)
          have he668520 : F668517 q666956 = .inl (I .byte, 8192, .inl f666970) := (n668519 q666956 (rn_ao he668513 he668512)).trans he668513
          have he668521 : F668517 q668486 = .inr (0, [.ref q668487, .int 0, .int 0, .int 0]) := (n668519 q668486 (fun h => hq668509 (h ▸ hmq666955))).trans he668497
          have he668522 : F668517 q666986 = .inr (1, [.ref q668456, .int 0, .int 0, .int g668455]) := (n668519 q666986 (fun h => hq666999 (h ▸ hmq666955))).trans he668498
          have he668523 : F668517 q668456 = .inl (I .byte, n668457, .inl f668458) := (n668519 q668456 (fun h => hq668459 (h ▸ hmq666955))).trans he668499
          have he668524 : F668517 q668487 = .inl (I .byte, n668488, .inl f668489) := (n668519 q668487 (fun h => hq668510 (h ▸ hmq666955))).trans he668500
          have he668525 : F668517 q666955 = .inr (19, [.ref q666956, .int p666957, .int g668454, .int 6, .int p666960, .int p666961, .int p666962, .ref q668486, .int p666964, .int p666965, .int p666966, .ref qo666967, .ref qo666968, .int p666969]) := e668518
          have hfr668526 : rFr [q666955] P666953 F666954 F668517 := rFr_put' List.mem_cons_self hfr668514 n668519
          refine G_widen (cs' := (4 + (g668454.toInt - p666958.toInt) : Int).toNat) (sl' := (40 + 5 * (g668454.toInt - p666958.toInt) : Int).toNat) (by omega) (by omega) ?_
          clear he668497 he668498 he668499 he668500 he668512 he668513 hfr668514
          refine G_ldcK (a := D.2 1000 34) dr_cX14_word_248 (fun _ _ _ h => gx_vk 34 rfl rfl h) ?_
          have hl34_668526 : (sb_34.length : Int) = 25 := rfl
          refine G_new [.null, .int 0, .int 0, .int 0] dr_cX14_word_250 (gk_J4 D I) wr_7_235 wr_7_44 wr_1_20 (gfs_J4) (show (4 + (g668454.toInt - p666958.toInt) : Int).toNat + 1 ≤ ((16 * (p666957.toInt - p666958.toInt)).toNat) by first | omega | decide) (show (40 + 5 * (g668454.toInt - p666958.toInt) : Int).toNat + 4 ≤ ((160 * (p666957.toInt - p666958.toInt)).toNat) by first | omega | decide) (fun q668528 => Gp_in (fun P668529 F668530 hq668531 hP668532 e668533 n668534 => ?_))
          refine G_widen (cs' := (4 + (g668454.toInt - p666958.toInt) : Int).toNat + 1) (sl' := (40 + 5 * (g668454.toInt - p666958.toInt) : Int).toNat + 4) (by omega) (by omega) ?_
          have he668535 : F668530 q666955 = .inr (19, [.ref q666956, .int p666957, .int g668454, .int 6, .int p666960, .int p666961, .int p666962, .ref q668486, .int p666964, .int p666965, .int p666966, .ref qo666967, .ref qo666968, .int p666969]) := (n668534 q666955 (fun h => hq668531 (h ▸ hm668505))).trans he668525
          have he668536 : F668530 q666956 = .inl (I .byte, 8192, .inl f666970) := (n668534 q666956 (fun h => hq668531 (h ▸ hm668506))).trans he668520
          have he668537 : F668530 q668486 = .inr (0, [.ref q668487, .int 0, .int 0, .int 0]) := (n668534 q668486 (fun h => hq668531 (h ▸ hm668501))).trans he668521
          have he668538 : F668530 q666986 = .inr (1, [.ref q668456, .int 0, .int 0, .int g668455]) := (n668534 q666986 (fun h => hq668531 (h ▸ hm668507))).trans he668522
          have he668539 : F668530 q668456 = .inl (I .byte, n668457, .inl f668458) := (n668534 q668456 (fun h => hq668531 (h ▸ hm668508))).trans he668523
          have he668540 : F668530 q668487 = .inl (I .byte, n668488, .inl f668489) := (n668534 q668487 (fun h => hq668531 (h ▸ hm668503))).trans he668524
          have he668541 : F668530 q668528 = .inr (1, [.null, .int 0, .int 0, .int 0]) := e668533
          have hm668542 : q666955 ∈ P668529 := (hP668532 q666955).mpr (Or.inl hm668505)
          have hm668543 : q666956 ∈ P668529 := (hP668532 q666956).mpr (Or.inl hm668506)
          have hm668544 : q666986 ∈ P668529 := (hP668532 q666986).mpr (Or.inl hm668507)
          have hm668545 : q668456 ∈ P668529 := (hP668532 q668456).mpr (Or.inl hm668508)
          have hm668546 : q668486 ∈ P668529 := (hP668532 q668486).mpr (Or.inl hm668501)
          have hm668547 : q668487 ∈ P668529 := (hP668532 q668487).mpr (Or.inl hm668503)
          have hm668548 : q668528 ∈ P668529 := (hP668532 q668528).mpr (Or.inr rfl)
          have hq668549 : q668528 ∉ P666953 := fun z => hq668531 (hsb668511 q668528 z)
          have hfr668550 : rFr [q666955] P666953 F666954 F668530 := rFr_new hsb668511 hq668531 hfr668526 n668534
          have hsb668551 : rSub P666953 P668529 := rSub_new hsb668511 hP668532
          have hne668552 : q666986 ≠ q668528 := fun h => hq668531 (h ▸ hm668507)
          refine G_dup dr_cX14_word_253 rfl ?_
          refine Gw_callI (As := []) (gV_ok D I) (cp_656210_StringBuilder_init l hl0 D I P668529 F668530 q668528 0 0 hm668548 he668541 (gB_w (gBl (show Int32.toInt 0 = 0 by decide)) (by decide) (by decide)) (gB_w (gBl (show Int32.toInt 0 = 0 by decide)) (by decide) (by decide))) dr_cX14_word_254 ⟨wr_7_236, wr_1_20, wr_7_47, by decide, rfl, (Nat.le_of_ble_eq_true rfl), (Nat.le_of_ble_eq_true rfl)⟩ wr_7_46 rfl (show (4 + (g668454.toInt - p666958.toInt) : Int).toNat + 1 + 1 ≤ ((16 * (p666957.toInt - p666958.toInt)).toNat) by first | omega | decide) (show (40 + 5 * (g668454.toInt - p666958.toInt) : Int).toNat + 4 + 16 ≤ ((160 * (p666957.toInt - p666958.toInt)).toNat) by first | omega | decide) (Nat.le_of_ble_eq_true rfl) (fun r668556 w668557 dc668553 ds668554 hp668555 => ?_)
          obtain ⟨P668559, F668560, q668558, rfl, rfl, hsb668561, hfr668562, he668563, he668564, hm668565, hq668566, hdc, hds⟩ := hp668555
          have hm668567 : q666955 ∈ P668559 := hsb668561 q666955 hm668542
          have hm668568 : q666956 ∈ P668559 := hsb668561 q666956 hm668543
          have hm668569 : q666986 ∈ P668559 := hsb668561 q666986 hm668544
          have hm668570 : q668456 ∈ P668559 := hsb668561 q668456 hm668545
          have hm668571 : q668486 ∈ P668559 := hsb668561 q668486 hm668546
          have hm668572 : q668487 ∈ P668559 := hsb668561 q668487 hm668547
          have hm668573 : q668528 ∈ P668559 := hsb668561 q668528 hm668548
          have hq668574 : q668558 ∉ P666953 := fun z => hq668566 (hsb668551 q668558 z)
          have hsb668575 : rSub P666953 P668559 := rSub_tr hsb668551 hsb668561
          have he668576 : F668560 q666955 = .inr (19, [.ref q666956, .int p666957, .int g668454, .int 6, .int p666960, .int p666961, .int p666962, .ref q668486, .int p666964, .int p666965, .int p666966, .ref qo666967, .ref qo666968, .int p666969]) := (hfr668562 q666955 hm668542 (nm_c (fun h => hq668549 (h ▸ hmq666955)) nm_n)).trans he668535
          have he668577 : F668560 q666956 = .inl (I .byte, 8192, .inl f666970) := (hfr668562 q666956 hm668543 (nm_c (fun h => hq668549 (h ▸ hmq666956)) nm_n)).trans he668536
          have he668578 : F668560 q668486 = .inr (0, [.ref q668487, .int 0, .int 0, .int 0]) := (hfr668562 q668486 hm668546 (nm_c (rn_oo he668537 he668541 (by decide)) nm_n)).trans he668537
          have he668579 : F668560 q666986 = .inr (1, [.ref q668456, .int 0, .int 0, .int g668455]) := (hfr668562 q666986 hm668544 (nm_c hne668552 nm_n)).trans he668538
          have he668580 : F668560 q668456 = .inl (I .byte, n668457, .inl f668458) := (hfr668562 q668456 hm668545 (nm_c (rn_ao he668539 he668541) nm_n)).trans he668539
          have he668581 : F668560 q668487 = .inl (I .byte, n668488, .inl f668489) := (hfr668562 q668487 hm668547 (nm_c (rn_ao he668540 he668541) nm_n)).trans he668540
          have hfr668582 : rFr [q666955] P666953 F666954 F668560 := rFr_call hsb668551 hfr668550 hfr668562 (fun b hb hn => ⟨(nm_c (fun e => hn (e ▸ List.mem_cons_self)) nm_n), (nm_c (fun e => hq668549 (e ▸ hb)) nm_n)⟩)
          have hne668583 : q668456 ≠ q668558 := fun h => hq668566 (h ▸ hm668545)
          have hne668584 : q668487 ≠ q668558 := fun h => hq668566 (h ▸ hm668547)
          change G _ _ _ _ _ _ _ _ _ _ _
          refine G_widen (cs' := (4 + (g668454.toInt - p666958.toInt) : Int).toNat + 1 + 1) (sl' := (40 + 5 * (g668454.toInt - p666958.toInt) : Int).toNat + 4 + 16) (by omega) (by omega) ?_
          refine G_ldcK (a := D.2 1000 35) dr_cX14_word_257 (fun _ _ _ h => gx_vk 35 rfl rfl h) ?_
          have hl35_668584 : (sb_35.length : Int) = 1 := rfl
          refine Gw_callV (As := [.ref (D.2 1000 35)]) (gV_ok D I) (cp_656512_StringBuilder_append l hl0 D I P668559 F668560 q668528 q668558 (D.2 1000 35) (D.2 1001 35) sb_35 0 0 (fun _ => 0) 16 hm668573 hm668565 he668563 he668564 (gx_sc 35 rfl rfl) (by omega) (by decide +kernel) (gB_w (gBl (show Int32.toInt 0 = 0 by decide)) (by decide) (by decide)) (gB_w (gBl (show Int32.toInt 0 = 0 by decide)) (by decide) (by decide)) (gF_w gF_0 (by decide) (by decide)) (by have qa0 : Int32.toInt 0 = 0 := (by decide); have qa1 : Int32.toInt 6 = 6 := (by decide); omega) (by have qa0 : Int32.toInt 0 = 0 := (by decide); have qa1 : Int32.toInt 6 = 6 := (by decide); omega)) dr_cX14_word_259 ⟨wr_8_195, wr_1_20, wr_8_143, by decide, rfl, (Nat.le_of_ble_eq_true rfl), (Nat.le_of_ble_eq_true rfl)⟩ wr_8_141 wr_8_142 hm668573 he668563 rfl (show (4 + (g668454.toInt - p666958.toInt) : Int).toNat + 1 + 1 + 0 ≤ ((16 * (p666957.toInt - p666958.toInt)).toNat) by first | omega | decide) (show (40 + 5 * (g668454.toInt - p666958.toInt) : Int).toNat + 4 + 16 + 0 ≤ ((160 * (p666957.toInt - p666958.toInt)).toNat) by first | omega | decide) (Nat.le_of_ble_eq_true rfl) (fun r668589 w668590 dc668586 ds668587 hp668588 => ?_) (fun _ _ _ _ _ z => z.elim)
          obtain ⟨F668597, o668591, f668592, rfl, rfl, hfr668599, he668600, he668601, hdc, hds, bo668591, bf668592, x668593, x668594, x668595, ht668596⟩ := hp668588
          have he668602 : F668597 q666955 = .inr (19, [.ref q666956, .int p666957, .int g668454, .int 6, .int p666960, .int p666961, .int p666962, .ref q668486, .int p666964, .int p666965, .int p666966, .ref qo666967, .ref qo666968, .int p666969]) := (hfr668599 q666955 hm668567 (nm_c (fun h => hq668549 (h ▸ hmq666955)) (nm_c (fun h => hq668574 (h ▸ hmq666955)) nm_n))).trans he668576
          have he668603 : F668597 q666956 = .inl (I .byte, 8192, .inl f666970) := (hfr668599 q666956 hm668568 (nm_c (fun h => hq668549 (h ▸ hmq666956)) (nm_c (fun h => hq668574 (h ▸ hmq666956)) nm_n))).trans he668577
          have he668604 : F668597 q668486 = .inr (0, [.ref q668487, .int 0, .int 0, .int 0]) := (hfr668599 q668486 hm668571 (nm_c (rn_oo he668578 he668563 (by decide)) (nm_c (rn_oa he668578 he668564) nm_n))).trans he668578
          have he668605 : F668597 q666986 = .inr (1, [.ref q668456, .int 0, .int 0, .int g668455]) := (hfr668599 q666986 hm668569 (nm_c hne668552 (nm_c (rn_oa he668579 he668564) nm_n))).trans he668579
          have he668606 : F668597 q668456 = .inl (I .byte, n668457, .inl f668458) := (hfr668599 q668456 hm668570 (nm_c (rn_ao he668580 he668563) (nm_c hne668583 nm_n))).trans he668580
          have he668607 : F668597 q668487 = .inl (I .byte, n668488, .inl f668489) := (hfr668599 q668487 hm668572 (nm_c (rn_ao he668581 he668563) (nm_c hne668584 nm_n))).trans he668581
          have hfr668608 : rFr [q666955] P666953 F666954 F668597 := rFr_call hsb668575 hfr668582 hfr668599 (fun b hb hn => ⟨(nm_c (fun e => hn (e ▸ List.mem_cons_self)) nm_n), (nm_c (fun e => hq668549 (e ▸ hb)) (nm_c (fun e => hq668574 (e ▸ hb)) nm_n))⟩)
          rw [show Int32.toInt 0 = 0 from by decide] at x668593
          have bo668591' : gB o668591 1 1 := ⟨by omega, by omega⟩
          rw [show Int32.toInt 0 = 0 from by decide] at x668594
          rw [show Int32.toInt 0 = 0 from by decide] at x668595
          change G _ _ _ _ _ _ _ (.ref q668528 :: _) _ _ _
          refine G_widen (cs' := (4 + (g668454.toInt - p666958.toInt) : Int).toNat + 1 + 1 + 0) (sl' := (40 + 5 * (g668454.toInt - p666958.toInt) : Int).toNat + 4 + 16 + 0) (by omega) (by omega) ?_
          refine G_aload_n 2 dr_cX14_word_262 rfl ?_
          clear hm668501 hm668503 hm668505 hm668506 hm668507 hm668508 hsb668511 he668520 he668521 he668522 he668523 he668524 he668525 hfr668526 he668535 he668536 he668537 he668538 he668539 he668540 he668541 hm668542 hm668543 hm668544 hm668545 hm668546 hm668547 hm668548 hfr668550 hsb668551 hsb668561 hfr668562 he668563 he668564 hq668566 he668576 he668577 he668578 he668579 he668580 he668581 hfr668582 hfr668599; try clear r668556; try clear w668557; try clear dc668553; try clear ds668554; try clear hp668555; try clear r668589; try clear w668590; try clear dc668586; try clear ds668587; try clear hp668588
          refine Gp_get 7 hm668567 he668602 dr_cX14_word_263 (gk_X14 D I) (Nat.le_of_ble_eq_true rfl) wr_9_43 rfl ?_
          refine Gw_callV (As := [.ref q668486]) (gV_ok D I) (cp_656712_StringBuilder_append l hl0 D I P668559 F668597 q668528 q668486 q668558 q668487 0 o668591 0 0 f668592 16 f668489 n668488 hm668573 hm668571 hm668565 hm668572 he668600 he668604 he668601 he668607 (Ne.symm hne668584) (gB_w (gBl (show Int32.toInt 0 = 0 by decide)) (by decide) (by decide)) (gB_w bo668591' (by decide) (by decide)) (gB_w (gBl (show Int32.toInt 0 = 0 by decide)) (by decide) (by decide)) bf668592 bf668489 (by have qa0 : Int32.toInt 0 = 0 := (by decide); have qa1 : Int32.toInt 6 = 6 := (by decide); omega) (by have qa0 : Int32.toInt 0 = 0 := (by decide); have qa1 : Int32.toInt 6 = 6 := (by decide); omega) (by have qa0 : Int32.toInt 0 = 0 := (by decide); have qa1 : Int32.toInt 6 = 6 := (by decide); omega) (by have qa0 : Int32.toInt 0 = 0 := (by decide); have qa1 : Int32.toInt 6 = 6 := (by decide); omega) (by have qa0 : Int32.toInt 0 = 0 := (by decide); have qa1 : Int32.toInt 6 = 6 := (by decide); omega)) dr_cX14_word_266 ⟨wr_8_195, wr_1_20, wr_8_143, by decide, rfl, (Nat.le_of_ble_eq_true rfl), (Nat.le_of_ble_eq_true rfl)⟩ wr_8_141 wr_8_142 hm668573 he668600 rfl (show (4 + (g668454.toInt - p666958.toInt) : Int).toNat + 1 + 1 + 0 + 1 ≤ ((16 * (p666957.toInt - p666958.toInt)).toNat) by first | omega | decide) (show (40 + 5 * (g668454.toInt - p666958.toInt) : Int).toNat + 4 + 16 + 0 + (4 * 16 + 4 + 2 * n668488) ≤ ((160 * (p666957.toInt - p666958.toInt)).toNat) by first | omega | decide) (Nat.le_of_ble_eq_true rfl) (fun r668612 w668613 dc668609 ds668610 hp668611 => ?_) (fun _ _ _ _ _ z => z.elim)
          obtain ⟨P668624, F668625, o668614, q668615, n668616, f668617, rfl, rfl, hsb668626, hfr668627, he668628, he668629, he668630, he668631, hm668632, hq668633, hdc, hds, bo668614, bf668617, x668618, x668619, x668620, x668621, x668622, ht668623⟩ := hp668611
          have hm668634 : q666955 ∈ P668624 := hsb668626 q666955 hm668567
          have hm668635 : q666956 ∈ P668624 := hsb668626 q666956 hm668568
          have hm668636 : q666986 ∈ P668624 := hsb668626 q666986 hm668569
          have hm668637 : q668456 ∈ P668624 := hsb668626 q668456 hm668570
          have hm668638 : q668486 ∈ P668624 := hsb668626 q668486 hm668571
          have hm668639 : q668487 ∈ P668624 := hsb668626 q668487 hm668572
          have hm668640 : q668528 ∈ P668624 := hsb668626 q668528 hm668573
          have hm668641 : q668558 ∈ P668624 := hsb668626 q668558 hm668565
          have hq668642 : q668615 ∉ P666953 := fun z => hq668633.elim (fun e => hq668574 (e ▸ z)) (fun n => n (hsb668575 _ z))
          have hsb668643 : rSub P666953 P668624 := rSub_tr hsb668575 hsb668626
          have he668644 : F668625 q666955 = .inr (19, [.ref q666956, .int p666957, .int g668454, .int 6, .int p666960, .int p666961, .int p666962, .ref q668486, .int p666964, .int p666965, .int p666966, .ref qo666967, .ref qo666968, .int p666969]) := (hfr668627 q666955 hm668567 (nm_c (fun h => hq668549 (h ▸ hmq666955)) (nm_c (fun h => hq668574 (h ▸ hmq666955)) nm_n))).trans he668602
          have he668645 : F668625 q666956 = .inl (I .byte, 8192, .inl f666970) := (hfr668627 q666956 hm668568 (nm_c (fun h => hq668549 (h ▸ hmq666956)) (nm_c (fun h => hq668574 (h ▸ hmq666956)) nm_n))).trans he668603
          have he668646 : F668625 q666986 = .inr (1, [.ref q668456, .int 0, .int 0, .int g668455]) := (hfr668627 q666986 hm668569 (nm_c hne668552 (nm_c (rn_oa he668605 he668601) nm_n))).trans he668605
          have he668647 : F668625 q668456 = .inl (I .byte, n668457, .inl f668458) := (hfr668627 q668456 hm668570 (nm_c (rn_ao he668606 he668600) (nm_c hne668583 nm_n))).trans he668606
          have hfr668648 : rFr [q666955] P666953 F666954 F668625 := rFr_call hsb668575 hfr668608 hfr668627 (fun b hb hn => ⟨(nm_c (fun e => hn (e ▸ List.mem_cons_self)) nm_n), (nm_c (fun e => hq668549 (e ▸ hb)) (nm_c (fun e => hq668574 (e ▸ hb)) nm_n))⟩)
          have hne668649 : q668456 ≠ q668615 := fun e => hq668633.elim (fun e2 => hne668583 (e.trans e2)) (fun n => n (e ▸ hm668570))
          have hne668650 : q668487 ≠ q668615 := fun e => hq668633.elim (fun e2 => hne668584 (e.trans e2)) (fun n => n (e ▸ hm668572))
          have bo668614' : gB o668614 1 16777216 := ⟨by omega, by omega⟩
          change G _ _ _ _ _ _ _ (.ref q668528 :: _) _ _ _
          refine G_widen (cs' := (4 + (g668454.toInt - p666958.toInt) : Int).toNat + 1 + 1 + 0 + 1) (sl' := (40 + 5 * (g668454.toInt - p666958.toInt) : Int).toNat + 4 + 16 + 0 + (2 * (n668616 - 16))) (by omega) (by omega) ?_
          refine G_widen (cs' := (7 + (g668454.toInt - p666958.toInt) : Int).toNat) (sl' := (60 + 10 * (g668454.toInt - p666958.toInt) : Int).toNat) (by omega) (by omega) ?_
          clear hm668565 hm668567 hm668568 hm668569 hm668570 hm668571 hm668572 hm668573 hq668574 hsb668575 hne668583 hne668584 he668600 he668601 bf668592 he668602 he668603 he668604 he668605 he668606 he668607 hfr668608 hsb668626 hfr668627 hq668633 hm668641; try clear x668594; try clear x668595; try clear r668612; try clear w668613; try clear dc668609; try clear ds668610; try clear hp668611
          refine G_ldcK (a := D.2 1000 35) dr_cX14_word_269 (fun _ _ _ h => gx_vk 35 rfl rfl h) ?_
          have hl35_668650 : (sb_35.length : Int) = 1 := rfl
          refine Gw_callV (As := [.ref (D.2 1000 35)]) (gV_ok D I) (cp_656860_StringBuilder_append l hl0 D I P668624 F668625 q668528 q668615 (D.2 1000 35) (D.2 1001 35) sb_35 0 o668614 f668617 n668616 hm668640 hm668632 he668628 he668630 (gx_sc 35 rfl rfl) (by omega) (by decide +kernel) (gB_w (gBl (show Int32.toInt 0 = 0 by decide)) (by decide) (by decide)) (gB_w bo668614' (by decide) (by decide)) bf668617 (by have qa0 : Int32.toInt 0 = 0 := (by decide); have qa1 : Int32.toInt 6 = 6 := (by decide); omega) (by have qa0 : Int32.toInt 0 = 0 := (by decide); have qa1 : Int32.toInt 6 = 6 := (by decide); omega) (by have qa0 : Int32.toInt 0 = 0 := (by decide); have qa1 : Int32.toInt 6 = 6 := (by decide); omega) (by have qa0 : Int32.toInt 0 = 0 := (by decide); have qa1 : Int32.toInt 6 = 6 := (by decide); omega)) dr_cX14_word_271 ⟨wr_8_195, wr_1_20, wr_8_143, by decide, rfl, (Nat.le_of_ble_eq_true rfl), (Nat.le_of_ble_eq_true rfl)⟩ wr_8_141 wr_8_142 hm668640 he668628 rfl (show (7 + (g668454.toInt - p666958.toInt) : Int).toNat + 1 ≤ ((16 * (p666957.toInt - p666958.toInt)).toNat) by first | omega | decide) (show (60 + 10 * (g668454.toInt - p666958.toInt) : Int).toNat + (4 * n668616 + 4 + 2 * sb_35.length) ≤ ((160 * (p666957.toInt - p666958.toInt)).toNat) by first | omega | decide) (Nat.le_of_ble_eq_true rfl) (fun r668655 w668656 dc668652 ds668653 hp668654 => ?_) (fun _ _ _ _ _ z => z.elim)
          obtain ⟨P668667, F668668, o668657, q668658, n668659, f668660, rfl, rfl, hsb668669, hfr668670, he668671, he668672, hm668673, hq668674, hdc, hds, bo668657, bf668660, x668661, x668662, x668663, x668664, x668665, ht668666⟩ := hp668654
          have hm668675 : q666955 ∈ P668667 := hsb668669 q666955 hm668634
          have hm668676 : q666956 ∈ P668667 := hsb668669 q666956 hm668635
          have hm668677 : q666986 ∈ P668667 := hsb668669 q666986 hm668636
          have hm668678 : q668456 ∈ P668667 := hsb668669 q668456 hm668637
          have hm668679 : q668486 ∈ P668667 := hsb668669 q668486 hm668638
          have hm668680 : q668487 ∈ P668667 := hsb668669 q668487 hm668639
          have hm668681 : q668528 ∈ P668667 := hsb668669 q668528 hm668640
          have hm668682 : q668615 ∈ P668667 := hsb668669 q668615 hm668632
          have hq668683 : q668658 ∉ P666953 := fun z => hq668674.elim (fun e => hq668642 (e ▸ z)) (fun n => n (hsb668643 _ z))
          have hsb668684 : rSub P666953 P668667 := rSub_tr hsb668643 hsb668669
          have he668685 : F668668 q666955 = .inr (19, [.ref q666956, .int p666957, .int g668454, .int 6, .int p666960, .int p666961, .int p666962, .ref q668486, .int p666964, .int p666965, .int p666966, .ref qo666967, .ref qo666968, .int p666969]) := (hfr668670 q666955 hm668634 (nm_c (fun h => hq668549 (h ▸ hmq666955)) (nm_c (fun h => hq668642 (h ▸ hmq666955)) nm_n))).trans he668644
          have he668686 : F668668 q666956 = .inl (I .byte, 8192, .inl f666970) := (hfr668670 q666956 hm668635 (nm_c (fun h => hq668549 (h ▸ hmq666956)) (nm_c (fun h => hq668642 (h ▸ hmq666956)) nm_n))).trans he668645
          have he668687 : F668668 q666986 = .inr (1, [.ref q668456, .int 0, .int 0, .int g668455]) := (hfr668670 q666986 hm668636 (nm_c hne668552 (nm_c (rn_oa he668646 he668630) nm_n))).trans he668646
          have he668688 : F668668 q668456 = .inl (I .byte, n668457, .inl f668458) := (hfr668670 q668456 hm668637 (nm_c (rn_ao he668647 he668628) (nm_c hne668649 nm_n))).trans he668647
          have he668689 : F668668 q668486 = .inr (0, [.ref q668487, .int 0, .int 0, .int 0]) := (hfr668670 q668486 hm668638 (nm_c (rn_oo he668629 he668628 (by decide)) (nm_c (rn_oa he668629 he668630) nm_n))).trans he668629
          have he668690 : F668668 q668487 = .inl (I .byte, n668488, .inl f668489) := (hfr668670 q668487 hm668639 (nm_c (rn_ao he668631 he668628) (nm_c hne668650 nm_n))).trans he668631
          have hfr668691 : rFr [q666955] P666953 F666954 F668668 := rFr_call hsb668643 hfr668648 hfr668670 (fun b hb hn => ⟨(nm_c (fun e => hn (e ▸ List.mem_cons_self)) nm_n), (nm_c (fun e => hq668549 (e ▸ hb)) (nm_c (fun e => hq668642 (e ▸ hb)) nm_n))⟩)
          have hne668692 : q668456 ≠ q668658 := fun e => hq668674.elim (fun e2 => hne668649 (e.trans e2)) (fun n => n (e ▸ hm668637))
          have hne668693 : q668487 ≠ q668658 := fun e => hq668674.elim (fun e2 => hne668650 (e.trans e2)) (fun n => n (e ▸ hm668639))
          have bo668657' : gB o668657 2 16777216 := ⟨by omega, by omega⟩
          change G _ _ _ _ _ _ _ (.ref q668528 :: _) _ _ _
          refine G_widen (cs' := (7 + (g668454.toInt - p666958.toInt) : Int).toNat + 1) (sl' := (60 + 10 * (g668454.toInt - p666958.toInt) : Int).toNat + (2 * (n668659 - n668616))) (by omega) (by omega) ?_
          refine G_widen (cs' := (8 + (g668454.toInt - p666958.toInt) : Int).toNat) (sl' := (60 + 15 * (g668454.toInt - p666958.toInt) : Int).toNat) (by omega) (by omega) ?_
          clear he668628 he668629 he668630 he668631 hm668632 bf668617 hm668634 hm668635 hm668636 hm668637 hm668638 hm668639 hm668640 hq668642 hsb668643 he668644 he668645 he668646 he668647 hfr668648 hne668649 hne668650 hsb668669 hfr668670 hq668674 hm668682; try clear r668655; try clear w668656; try clear dc668652; try clear ds668653; try clear hp668654
          refine Gw_callV (As := []) (gV_ok D I) (cp_656985_StringBuilder_toString l hl0 D I P668667 F668668 q668528 q668658 0 o668657 f668660 n668659 hm668681 hm668673 he668671 he668672 (gB_w (gBl (show Int32.toInt 0 = 0 by decide)) (by decide) (by decide)) (gB_w bo668657' (by decide) (by decide)) bf668660 (by have qa0 : Int32.toInt 0 = 0 := (by decide); have qa1 : Int32.toInt 6 = 6 := (by decide); omega) (by have qa0 : Int32.toInt 0 = 0 := (by decide); have qa1 : Int32.toInt 6 = 6 := (by decide); omega)) dr_cX14_word_274 ⟨wr_8_66, wr_1_20, wr_8_69, by decide, rfl, (Nat.le_of_ble_eq_true rfl), (Nat.le_of_ble_eq_true rfl)⟩ wr_8_67 wr_8_68 hm668681 he668671 rfl (show (8 + (g668454.toInt - p666958.toInt) : Int).toNat + 2 ≤ ((16 * (p666957.toInt - p666958.toInt)).toNat) by first | omega | decide) (show (60 + 15 * (g668454.toInt - p666958.toInt) : Int).toNat + (o668657.toInt.toNat + 4) ≤ ((160 * (p666957.toInt - p666958.toInt)).toNat) by first | omega | decide) (Nat.le_of_ble_eq_true rfl) (fun r668697 w668698 dc668694 ds668695 hp668696 => ?_) (fun _ _ _ _ _ z => z.elim)
          obtain ⟨P668706, F668707, q668699, q668700, n668701, f668702, rfl, rfl, hsb668708, hfr668709, he668710, he668711, he668712, he668713, hm668714, hq668715, hm668716, hq668717, hdc, hds, bf668702, x668703, x668704, ht668705⟩ := hp668696
          have hm668718 : q666955 ∈ P668706 := hsb668708 q666955 hm668675
          have hm668719 : q666956 ∈ P668706 := hsb668708 q666956 hm668676
          have hm668720 : q666986 ∈ P668706 := hsb668708 q666986 hm668677
          have hm668721 : q668456 ∈ P668706 := hsb668708 q668456 hm668678
          have hm668722 : q668486 ∈ P668706 := hsb668708 q668486 hm668679
          have hm668723 : q668487 ∈ P668706 := hsb668708 q668487 hm668680
          have hm668724 : q668528 ∈ P668706 := hsb668708 q668528 hm668681
          have hm668725 : q668658 ∈ P668706 := hsb668708 q668658 hm668673
          have hq668726 : q668699 ∉ P666953 := fun z => hq668715 (hsb668684 q668699 z)
          have hq668727 : q668700 ∉ P666953 := fun z => hq668717 (hsb668684 q668700 z)
          have hsb668728 : rSub P666953 P668706 := rSub_tr hsb668684 hsb668708
          have he668729 : F668707 q666955 = .inr (19, [.ref q666956, .int p666957, .int g668454, .int 6, .int p666960, .int p666961, .int p666962, .ref q668486, .int p666964, .int p666965, .int p666966, .ref qo666967, .ref qo666968, .int p666969]) := (hfr668709 q666955 hm668675 nm_n).trans he668685
          have he668730 : F668707 q666956 = .inl (I .byte, 8192, .inl f666970) := (hfr668709 q666956 hm668676 nm_n).trans he668686
          have he668731 : F668707 q666986 = .inr (1, [.ref q668456, .int 0, .int 0, .int g668455]) := (hfr668709 q666986 hm668677 nm_n).trans he668687
          have he668732 : F668707 q668456 = .inl (I .byte, n668457, .inl f668458) := (hfr668709 q668456 hm668678 nm_n).trans he668688
          have he668733 : F668707 q668486 = .inr (0, [.ref q668487, .int 0, .int 0, .int 0]) := (hfr668709 q668486 hm668679 nm_n).trans he668689
          have he668734 : F668707 q668487 = .inl (I .byte, n668488, .inl f668489) := (hfr668709 q668487 hm668680 nm_n).trans he668690
          have hfr668735 : rFr [q666955] P666953 F666954 F668707 := rFr_call hsb668684 hfr668691 hfr668709 (fun b hb hn => ⟨(nm_c (fun e => hn (e ▸ List.mem_cons_self)) nm_n), nm_n⟩)
          have hne668736 : q668486 ≠ q668699 := fun h => hq668715 (h ▸ hm668679)
          have hne668737 : q668456 ≠ q668700 := fun h => hq668717 (h ▸ hm668678)
          have hne668738 : q668487 ≠ q668700 := fun h => hq668717 (h ▸ hm668680)
          have hne668739 : q668658 ≠ q668700 := fun h => hq668717 (h ▸ hm668673)
          change G _ _ _ _ _ _ _ (.ref q668699 :: _) _ _ _
          refine G_widen (cs' := (8 + (g668454.toInt - p666958.toInt) : Int).toNat + 2) (sl' := (60 + 15 * (g668454.toInt - p666958.toInt) : Int).toNat + (o668657.toInt.toNat + 4)) (by omega) (by omega) ?_
          refine G_widen (cs' := (10 + (g668454.toInt - p666958.toInt) : Int).toNat) (sl' := (66 + 16 * (g668454.toInt - p666958.toInt) : Int).toNat) (by omega) (by omega) ?_
          clear hq668549 hne668552 he668671 he668672 hm668673 bf668660 hm668675 hm668676 hm668677 hm668678 hm668679 hm668680 hm668681 hq668683 hsb668684 he668685 he668686 he668687 he668688 he668689 he668690 hfr668691 hne668692 hne668693 hsb668708 hfr668709 he668711 he668712 hq668715 hq668717 hm668724 hm668725 hne668739; try clear r668697; try clear w668698; try clear dc668694; try clear ds668695; try clear hp668696; try clear x668704
          refine Gw_callVk (As := [.ref q668699]) (gV_ok D I) (cp_657444_String_indexOf l hl0 D I P668706 F668707 q668699 q668700 (D.2 1000 34) (D.2 1001 34) sb_34 0 0 f668702 n668701 hm668714 hm668716 he668710 he668713 (gx_sc 34 rfl rfl) (by omega) (by decide +kernel) (gB_w (gBl (show Int32.toInt 0 = 0 by decide)) (by decide) (by decide)) bf668702 (by have qa0 : Int32.toInt 0 = 0 := (by decide); have qa1 : Int32.toInt 6 = 6 := (by decide); omega) (by have qa0 : Int32.toInt 0 = 0 := (by decide); have qa1 : Int32.toInt 6 = 6 := (by decide); omega)) dr_cX14_word_277 ⟨wr_8_196, wr_1_21, wr_8_199, by decide, rfl, (Nat.le_of_ble_eq_true rfl), (Nat.le_of_ble_eq_true rfl)⟩ wr_8_197 wr_8_198 (fun _ _ _ h => ((gx_sc 34 rfl rfl) _ _ _ h).1) (show (10 + (g668454.toInt - p666958.toInt) : Int).toNat + 0 ≤ ((16 * (p666957.toInt - p666958.toInt)).toNat) by first | omega | decide) (show (66 + 16 * (g668454.toInt - p666958.toInt) : Int).toNat + 0 ≤ ((160 * (p666957.toInt - p666958.toInt)).toNat) by first | omega | decide) (Nat.le_of_ble_eq_true rfl) (fun r668743 w668744 dc668740 ds668741 hp668742 => ?_) (fun _ _ _ _ _ z => z.elim)
          obtain ⟨o668745, rfl, rfl, hdc, hds, bo668745, x668746, x668747, ht668748⟩ := hp668742
          change G _ _ _ _ _ _ _ (.int o668745 :: _) _ _ _
          refine G_widen (cs' := (10 + (g668454.toInt - p666958.toInt) : Int).toNat + 0) (sl' := (66 + 16 * (g668454.toInt - p666958.toInt) : Int).toNat + 0) (by omega) (by omega) ?_
          clear he668710 he668713 hm668714 hm668716 bf668702 hq668726 hq668727 hne668736 hne668737 hne668738; try clear r668743; try clear w668744; try clear dc668740; try clear ds668741; try clear hp668742; try clear x668747
          refine G_if_lt 288 dr_cX14_word_280 (by decide +kernel) (fun hc668749 => ?_) (fun hc668749 => ?_)
          · have r668750 : o668745.toInt < 0 := gj_lt hc668749 (show Int32.toInt 0 = 0 by decide)
            have bo668745' : gB o668745 (-2147483646) (-1) := ⟨by omega, by omega⟩
            exact G_vretA dr_cX14_word_288 rfl (show (10 + (g668454.toInt - p666958.toInt) : Int).toNat + 0 ≤ ((16 * (p666957.toInt - p666958.toInt)).toNat) by omega) (show (66 + 16 * (g668454.toInt - p666958.toInt) : Int).toNat + 0 ≤ ((160 * (p666957.toInt - p666958.toInt)).toNat) by omega) ⟨P668706, F668707, g668454, 6, p666961, q668486, (0, fun _ => 0), rfl, rfl, hsb668728, hfr668735, he668729, he668730, (by omega), (by omega), bg668454, (gB_w (gBl (show Int32.toInt 6 = 6 by decide)) (by decide) (by decide)), (by have qa0 : Int32.toInt 0 = 0 := (by decide); have qa1 : Int32.toInt 6 = 6 := (by decide); omega), (by have qa0 : Int32.toInt 0 = 0 := (by decide); have qa1 : Int32.toInt 6 = 6 := (by decide); omega), (tP_no (by decide) (by decide)), (vP_no (by decide) (by decide)), (fun R c1 c2 c3 c4 c5 c6 => c1 z666977 g668454 g668455 n668457 f668458 n668488 f668489 o668591 f668592 o668614 n668616 f668617 o668657 n668659 f668660 n668701 f668702 o668745 hz666977 bz666977 hJ666985 hx668479 ht668492 bo668591 ht668596 bo668614 ht668623 bo668657 ht668666 ht668705 bo668745 ht668748 r668750)⟩
          · have r668751 : 0 ≤ o668745.toInt := gj_nlt hc668749 (show Int32.toInt 0 = 0 by decide)
            have bo668745' : gB o668745 0 16777215 := ⟨by omega, by omega⟩
            refine G_aload_n 2 dr_cX14_word_283 rfl ?_
            refine G_iconst 1 dr_cX14_word_284 (by decide +kernel) ?_
            refine Gp_put 3 hm668718 he668729 dr_cX14_word_285 (gk_X14 D I) (Nat.le_of_ble_eq_true rfl) wr_9_39 rfl rfl rfl (Nat.le_of_ble_eq_true rfl) (fun F668752 e668753 n668754 => ?_)
            have he668755 : F668752 q666956 = .inl (I .byte, 8192, .inl f666970) := (n668754 q666956 (rn_ao he668730 he668729)).trans he668730
            have he668756 : F668752 q666986 = .inr (1, [.ref q668456, .int 0, .int 0, .int g668455]) := (n668754 q666986 (fun h => hq666999 (h ▸ hmq666955))).trans he668731
            have he668757 : F668752 q668456 = .inl (I .byte, n668457, .inl f668458) := (n668754 q668456 (fun h => hq668459 (h ▸ hmq666955))).trans he668732
            have he668758 : F668752 q668486 = .inr (0, [.ref q668487, .int 0, .int 0, .int 0]) := (n668754 q668486 (fun h => hq668509 (h ▸ hmq666955))).trans he668733
            have he668759 : F668752 q668487 = .inl (I .byte, n668488, .inl f668489) := (n668754 q668487 (fun h => hq668510 (h ▸ hmq666955))).trans he668734
            have he668760 : F668752 q666955 = .inr (19, [.ref q666956, .int p666957, .int g668454, .int 1, .int p666960, .int p666961, .int p666962, .ref q668486, .int p666964, .int p666965, .int p666966, .ref qo666967, .ref qo666968, .int p666969]) := e668753
            have hfr668761 : rFr [q666955] P666953 F666954 F668752 := rFr_put' List.mem_cons_self hfr668735 n668754
            exact G_vretA dr_cX14_word_288 rfl (show (10 + (g668454.toInt - p666958.toInt) : Int).toNat + 0 ≤ ((16 * (p666957.toInt - p666958.toInt)).toNat) by omega) (show (66 + 16 * (g668454.toInt - p666958.toInt) : Int).toNat + 0 ≤ ((160 * (p666957.toInt - p666958.toInt)).toNat) by omega) ⟨P668706, F668752, g668454, 1, p666961, q668486, (n668488, f668489), rfl, rfl, hsb668728, hfr668761, he668760, he668755, (by omega), (by omega), bg668454, (gB_w (gBl (show Int32.toInt 1 = 1 by decide)) (by decide) (by decide)), (by have qa0 : Int32.toInt 0 = 0 := (by decide); have qa1 : Int32.toInt 1 = 1 := (by decide); omega), (by have qa0 : Int32.toInt 0 = 0 := (by decide); have qa1 : Int32.toInt 1 = 1 := (by decide); omega), (tP_1 hm668722 he668758 hm668723 he668759 bf668489 (by omega) (gB_w (gBl (show Int32.toInt 0 = 0 by decide)) (by decide) (by decide)) (fun e => hq668510 (e ▸ x666974)) (fun e => hq668510 (e ▸ x666975))), (vP_no (by decide) (by decide)), (fun R c1 c2 c3 c4 c5 c6 => c2 z666977 g668454 g668455 n668457 f668458 n668488 f668489 o668591 f668592 o668614 n668616 f668617 o668657 n668659 f668660 n668701 f668702 o668745 hz666977 bz666977 hJ666985 hx668479 ht668492 bo668591 ht668596 bo668614 ht668623 bo668657 ht668666 ht668705 bo668745 ht668748 r668751)⟩
        · have r668762 : g668454.toInt < p666957.toInt := gC_nle hc668477
          have bg668454' : gB g668454 0 8191 := ⟨by omega, by omega⟩
          have bp666957' : gB p666957 1 8192 := ⟨by omega, by omega⟩
          refine G_aload_n 2 dr_cX14_word_197 rfl ?_
          refine Gp_get 0 hm668467 he668461 dr_cX14_word_198 (gk_X14 D I) (Nat.le_of_ble_eq_true rfl) wr_9_36 rfl ?_
          refine G_aload_n 2 dr_cX14_word_201 rfl ?_
          refine Gp_get 2 hm668467 he668461 dr_cX14_word_202 (gk_X14 D I) (Nat.le_of_ble_eq_true rfl) wr_9_38 rfl ?_
          refine Gp_bald 1 hm668468 he668462 dr_cX14_word_205 rfl (gB_in bg668454' (by decide) (by decide)) (G_nam fun z668763 hz668763 => ?_)
          have bz668763 : gB z668763 (-128) 127 := by rw [hz668763]; exact bf666970 _
          refine Gw_callS (As := [.int z668763]) (gV_ok D I) (cp_667320_Reader_isLetter l hl0 D I P668466 F668460 z668763 ) dr_cX14_word_206 ⟨wr_7_222, wr_1_32, wr_7_224, by decide, rfl, (Nat.le_of_ble_eq_true rfl), (Nat.le_of_ble_eq_true rfl)⟩ wr_7_223 (show 2 + (g668455.toInt : Int).toNat + 0 ≤ ((16 * (p666957.toInt - p666958.toInt)).toNat) by first | omega | decide) (show 4 + 2 * n668457 + 0 ≤ ((160 * (p666957.toInt - p666958.toInt)).toNat) by first | omega | decide) (Nat.le_of_ble_eq_true rfl) (fun r668767 w668768 dc668764 ds668765 hp668766 => ?_) (fun _ _ _ _ _ z => z.elim)
          obtain ⟨o668769, rfl, rfl, hdc, hds, bo668769, x668770, ht668771⟩ := hp668766
          change G _ _ _ _ _ _ _ (.int o668769 :: _) _ _ _
          refine G_widen (cs' := 2 + (g668455.toInt : Int).toNat + 0) (sl' := 4 + 2 * n668457 + 0) (by omega) (by omega) ?_
          refine G_if_eq 240 dr_cX14_word_209 (by decide +kernel) (fun hc668772 => ?_) (fun hc668772 => ?_)
          · have r668773 : o668769.toInt = 0 := gj_eq hc668772 (show Int32.toInt 0 = 0 by decide)
            have bo668769' : gB o668769 0 0 := ⟨by omega, by omega⟩
            have hx668774 : tl_RReader_word_186 p666957 f666970 p666958 (0 : Int32) 16 (fun _ => 0 : Nat → Int32) 240 g668454 g668455 n668457 f668458 := kt186_668476 240 g668454 g668455 n668457 f668458 (fun R c1 c2 c3 => c2 g668454 g668455 n668457 f668458 z668763 o668769 bg668454 bg668455 r668762 hz668763 bz668763 bo668769 ht668771 r668773)
            have x668775 : p666958.toInt < g668454.toInt := by first | omega | exact cLt_lt x666973 (by assumption) (isP_0 (by assumption) (by omega)) (by omega)
            refine G_aload_n 2 dr_cX14_word_240 rfl ?_
            refine G_aload_n 0 dr_cX14_word_241 rfl ?_
            refine Gw_callV (As := []) (gV_ok D I) (cp_656985_StringBuilder_toString l hl0 D I P668466 F668460 q666986 q668456 0 g668455 f668458 n668457 hm668469 hm668470 he668463 he668464 (gB_w (gBl (show Int32.toInt 0 = 0 by decide)) (by decide) (by decide)) bg668455 bf668458 (by have qa0 : Int32.toInt 0 = 0 := (by decide); have qa1 : Int32.toInt 6 = 6 := (by decide); omega) (by have qa0 : Int32.toInt 0 = 0 := (by decide); have qa1 : Int32.toInt 6 = 6 := (by decide); omega)) dr_cX14_word_242 ⟨wr_8_66, wr_1_20, wr_8_69, by decide, rfl, (Nat.le_of_ble_eq_true rfl), (Nat.le_of_ble_eq_true rfl)⟩ wr_8_67 wr_8_68 hm668469 he668463 rfl (show 2 + (g668455.toInt : Int).toNat + 0 + 2 ≤ ((16 * (p666957.toInt - p666958.toInt)).toNat) by first | omega | decide) (show 4 + 2 * n668457 + 0 + (g668455.toInt.toNat + 4) ≤ ((160 * (p666957.toInt - p666958.toInt)).toNat) by first | omega | decide) (Nat.le_of_ble_eq_true rfl) (fun r668779 w668780 dc668776 ds668777 hp668778 => ?_) (fun _ _ _ _ _ z => z.elim)
            obtain ⟨P668788, F668789, q668781, q668782, n668783, f668784, rfl, rfl, hsb668790, hfr668791, he668792, he668793, he668794, he668795, hm668796, hq668797, hm668798, hq668799, hdc, hds, bf668784, x668785, x668786, ht668787⟩ := hp668778
            have hm668800 : q666955 ∈ P668788 := hsb668790 q666955 hm668467
            have hm668801 : q666956 ∈ P668788 := hsb668790 q666956 hm668468
            have hm668802 : q666986 ∈ P668788 := hsb668790 q666986 hm668469
            have hm668803 : q668456 ∈ P668788 := hsb668790 q668456 hm668470
            have hq668804 : q668781 ∉ P666953 := fun z => hq668797 (hsb668471 q668781 z)
            have hq668805 : q668782 ∉ P666953 := fun z => hq668799 (hsb668471 q668782 z)
            have hsb668806 : rSub P666953 P668788 := rSub_tr hsb668471 hsb668790
            have he668807 : F668789 q666955 = .inr (19, [.ref q666956, .int p666957, .int g668454, .int 6, .int p666960, .int p666961, .int p666962, .ref qo666963, .int p666964, .int p666965, .int p666966, .ref qo666967, .ref qo666968, .int p666969]) := (hfr668791 q666955 hm668467 nm_n).trans he668461
            have he668808 : F668789 q666956 = .inl (I .byte, 8192, .inl f666970) := (hfr668791 q666956 hm668468 nm_n).trans he668462
            have hfr668809 : rFr [q666955] P666953 F666954 F668789 := rFr_call hsb668471 hfr668465 hfr668791 (fun b hb hn => ⟨(nm_c (fun e => hn (e ▸ List.mem_cons_self)) nm_n), nm_n⟩)
            have hne668810 : q668456 ≠ q668782 := fun h => hq668799 (h ▸ hm668470)
            change G _ _ _ _ _ _ _ (.ref q668781 :: _) _ _ _
            refine G_widen (cs' := 2 + (g668455.toInt : Int).toNat + 0 + 2) (sl' := 4 + 2 * n668457 + 0 + (g668455.toInt.toNat + 4)) (by omega) (by omega) ?_
            have x668811 : (n668783 : Int) = g668454.toInt - p666958.toInt := by omega
            clear he666981 he666982 hfr666983 he666993 he666994 he666995 hm666996 hm666997 hm666998 hfr667000 hsb667001 hsb667010 hfr667011 he667012 he667013 hm667014 hq667015 hm667016 hm667017 hm667018 hq667019 hsb667020 he667021 he667022 hfr667023 bo668769 ht668771 bo668769' hsb668790 hfr668791 hq668797 hq668799; try clear r667005; try clear w667006; try clear dc667002; try clear ds667003; try clear hp667004; try clear r668767; try clear w668768; try clear dc668764; try clear ds668765; try clear hp668766; try clear x668770; try clear r668773; try clear r668779; try clear w668780; try clear dc668776; try clear ds668777; try clear hp668778
            refine Gp_put 7 hm668800 he668807 dr_cX14_word_245 (gk_X14 D I) (Nat.le_of_ble_eq_true rfl) wr_9_43 rfl rfl rfl (Nat.le_of_ble_eq_true rfl) (fun F668812 e668813 n668814 => ?_)
            have he668815 : F668812 q666956 = .inl (I .byte, 8192, .inl f666970) := (n668814 q666956 (rn_ao he668808 he668807)).trans he668808
            have he668816 : F668812 q668781 = .inr (0, [.ref q668782, .int 0, .int 0, .int 0]) := (n668814 q668781 (fun h => hq668804 (h ▸ hmq666955))).trans he668792
            have he668817 : F668812 q666986 = .inr (1, [.ref q668456, .int 0, .int 0, .int g668455]) := (n668814 q666986 (fun h => hq666999 (h ▸ hmq666955))).trans he668793
            have he668818 : F668812 q668456 = .inl (I .byte, n668457, .inl f668458) := (n668814 q668456 (fun h => hq668459 (h ▸ hmq666955))).trans he668794
            have he668819 : F668812 q668782 = .inl (I .byte, n668783, .inl f668784) := (n668814 q668782 (fun h => hq668805 (h ▸ hmq666955))).trans he668795
            have he668820 : F668812 q666955 = .inr (19, [.ref q666956, .int p666957, .int g668454, .int 6, .int p666960, .int p666961, .int p666962, .ref q668781, .int p666964, .int p666965, .int p666966, .ref qo666967, .ref qo666968, .int p666969]) := e668813
            have hfr668821 : rFr [q666955] P666953 F666954 F668812 := rFr_put' List.mem_cons_self hfr668809 n668814
            refine G_widen (cs' := (4 + (g668454.toInt - p666958.toInt) : Int).toNat) (sl' := (40 + 5 * (g668454.toInt - p666958.toInt) : Int).toNat) (by omega) (by omega) ?_
            clear he668792 he668793 he668794 he668795 he668807 he668808 hfr668809
            refine G_ldcK (a := D.2 1000 34) dr_cX14_word_248 (fun _ _ _ h => gx_vk 34 rfl rfl h) ?_
            have hl34_668821 : (sb_34.length : Int) = 25 := rfl
            refine G_new [.null, .int 0, .int 0, .int 0] dr_cX14_word_250 (gk_J4 D I) wr_7_235 wr_7_44 wr_1_20 (gfs_J4) (show (4 + (g668454.toInt - p666958.toInt) : Int).toNat + 1 ≤ ((16 * (p666957.toInt - p666958.toInt)).toNat) by first | omega | decide) (show (40 + 5 * (g668454.toInt - p666958.toInt) : Int).toNat + 4 ≤ ((160 * (p666957.toInt - p666958.toInt)).toNat) by first | omega | decide) (fun q668823 => Gp_in (fun P668824 F668825 hq668826 hP668827 e668828 n668829 => ?_))
            refine G_widen (cs' := (4 + (g668454.toInt - p666958.toInt) : Int).toNat + 1) (sl' := (40 + 5 * (g668454.toInt - p666958.toInt) : Int).toNat + 4) (by omega) (by omega) ?_
            have he668830 : F668825 q666955 = .inr (19, [.ref q666956, .int p666957, .int g668454, .int 6, .int p666960, .int p666961, .int p666962, .ref q668781, .int p666964, .int p666965, .int p666966, .ref qo666967, .ref qo666968, .int p666969]) := (n668829 q666955 (fun h => hq668826 (h ▸ hm668800))).trans he668820
            have he668831 : F668825 q666956 = .inl (I .byte, 8192, .inl f666970) := (n668829 q666956 (fun h => hq668826 (h ▸ hm668801))).trans he668815
            have he668832 : F668825 q668781 = .inr (0, [.ref q668782, .int 0, .int 0, .int 0]) := (n668829 q668781 (fun h => hq668826 (h ▸ hm668796))).trans he668816
            have he668833 : F668825 q666986 = .inr (1, [.ref q668456, .int 0, .int 0, .int g668455]) := (n668829 q666986 (fun h => hq668826 (h ▸ hm668802))).trans he668817
            have he668834 : F668825 q668456 = .inl (I .byte, n668457, .inl f668458) := (n668829 q668456 (fun h => hq668826 (h ▸ hm668803))).trans he668818
            have he668835 : F668825 q668782 = .inl (I .byte, n668783, .inl f668784) := (n668829 q668782 (fun h => hq668826 (h ▸ hm668798))).trans he668819
            have he668836 : F668825 q668823 = .inr (1, [.null, .int 0, .int 0, .int 0]) := e668828
            have hm668837 : q666955 ∈ P668824 := (hP668827 q666955).mpr (Or.inl hm668800)
            have hm668838 : q666956 ∈ P668824 := (hP668827 q666956).mpr (Or.inl hm668801)
            have hm668839 : q666986 ∈ P668824 := (hP668827 q666986).mpr (Or.inl hm668802)
            have hm668840 : q668456 ∈ P668824 := (hP668827 q668456).mpr (Or.inl hm668803)
            have hm668841 : q668781 ∈ P668824 := (hP668827 q668781).mpr (Or.inl hm668796)
            have hm668842 : q668782 ∈ P668824 := (hP668827 q668782).mpr (Or.inl hm668798)
            have hm668843 : q668823 ∈ P668824 := (hP668827 q668823).mpr (Or.inr rfl)
            have hq668844 : q668823 ∉ P666953 := fun z => hq668826 (hsb668806 q668823 z)
            have hfr668845 : rFr [q666955] P666953 F666954 F668825 := rFr_new hsb668806 hq668826 hfr668821 n668829
            have hsb668846 : rSub P666953 P668824 := rSub_new hsb668806 hP668827
            have hne668847 : q666986 ≠ q668823 := fun h => hq668826 (h ▸ hm668802)
            refine G_dup dr_cX14_word_253 rfl ?_
            refine Gw_callI (As := []) (gV_ok D I) (cp_656210_StringBuilder_init l hl0 D I P668824 F668825 q668823 0 0 hm668843 he668836 (gB_w (gBl (show Int32.toInt 0 = 0 by decide)) (by decide) (by decide)) (gB_w (gBl (show Int32.toInt 0 = 0 by decide)) (by decide) (by decide))) dr_cX14_word_254 ⟨wr_7_236, wr_1_20, wr_7_47, by decide, rfl, (Nat.le_of_ble_eq_true rfl), (Nat.le_of_ble_eq_true rfl)⟩ wr_7_46 rfl (show (4 + (g668454.toInt - p666958.toInt) : Int).toNat + 1 + 1 ≤ ((16 * (p666957.toInt - p666958.toInt)).toNat) by first | omega | decide) (show (40 + 5 * (g668454.toInt - p666958.toInt) : Int).toNat + 4 + 16 ≤ ((160 * (p666957.toInt - p666958.toInt)).toNat) by first | omega | decide) (Nat.le_of_ble_eq_true rfl) (fun r668851 w668852 dc668848 ds668849 hp668850 => ?_)
            obtain ⟨P668854, F668855, q668853, rfl, rfl, hsb668856, hfr668857, he668858, he668859, hm668860, hq668861, hdc, hds⟩ := hp668850
            have hm668862 : q666955 ∈ P668854 := hsb668856 q666955 hm668837
            have hm668863 : q666956 ∈ P668854 := hsb668856 q666956 hm668838
            have hm668864 : q666986 ∈ P668854 := hsb668856 q666986 hm668839
            have hm668865 : q668456 ∈ P668854 := hsb668856 q668456 hm668840
            have hm668866 : q668781 ∈ P668854 := hsb668856 q668781 hm668841
            have hm668867 : q668782 ∈ P668854 := hsb668856 q668782 hm668842
            have hm668868 : q668823 ∈ P668854 := hsb668856 q668823 hm668843
            have hq668869 : q668853 ∉ P666953 := fun z => hq668861 (hsb668846 q668853 z)
            have hsb668870 : rSub P666953 P668854 := rSub_tr hsb668846 hsb668856
            have he668871 : F668855 q666955 = .inr (19, [.ref q666956, .int p666957, .int g668454, .int 6, .int p666960, .int p666961, .int p666962, .ref q668781, .int p666964, .int p666965, .int p666966, .ref qo666967, .ref qo666968, .int p666969]) := (hfr668857 q666955 hm668837 (nm_c (fun h => hq668844 (h ▸ hmq666955)) nm_n)).trans he668830
            have he668872 : F668855 q666956 = .inl (I .byte, 8192, .inl f666970) := (hfr668857 q666956 hm668838 (nm_c (fun h => hq668844 (h ▸ hmq666956)) nm_n)).trans he668831
            have he668873 : F668855 q668781 = .inr (0, [.ref q668782, .int 0, .int 0, .int 0]) := (hfr668857 q668781 hm668841 (nm_c (rn_oo he668832 he668836 (by decide)) nm_n)).trans he668832
            have he668874 : F668855 q666986 = .inr (1, [.ref q668456, .int 0, .int 0, .int g668455]) := (hfr668857 q666986 hm668839 (nm_c hne668847 nm_n)).trans he668833
            have he668875 : F668855 q668456 = .inl (I .byte, n668457, .inl f668458) := (hfr668857 q668456 hm668840 (nm_c (rn_ao he668834 he668836) nm_n)).trans he668834
            have he668876 : F668855 q668782 = .inl (I .byte, n668783, .inl f668784) := (hfr668857 q668782 hm668842 (nm_c (rn_ao he668835 he668836) nm_n)).trans he668835
            have hfr668877 : rFr [q666955] P666953 F666954 F668855 := rFr_call hsb668846 hfr668845 hfr668857 (fun b hb hn => ⟨(nm_c (fun e => hn (e ▸ List.mem_cons_self)) nm_n), (nm_c (fun e => hq668844 (e ▸ hb)) nm_n)⟩)
            have hne668878 : q668456 ≠ q668853 := fun h => hq668861 (h ▸ hm668840)
            have hne668879 : q668782 ≠ q668853 := fun h => hq668861 (h ▸ hm668842)
            change G _ _ _ _ _ _ _ _ _ _ _
            refine G_widen (cs' := (4 + (g668454.toInt - p666958.toInt) : Int).toNat + 1 + 1) (sl' := (40 + 5 * (g668454.toInt - p666958.toInt) : Int).toNat + 4 + 16) (by omega) (by omega) ?_
            refine G_ldcK (a := D.2 1000 35) dr_cX14_word_257 (fun _ _ _ h => gx_vk 35 rfl rfl h) ?_
            have hl35_668879 : (sb_35.length : Int) = 1 := rfl
            refine Gw_callV (As := [.ref (D.2 1000 35)]) (gV_ok D I) (cp_656512_StringBuilder_append l hl0 D I P668854 F668855 q668823 q668853 (D.2 1000 35) (D.2 1001 35) sb_35 0 0 (fun _ => 0) 16 hm668868 hm668860 he668858 he668859 (gx_sc 35 rfl rfl) (by omega) (by decide +kernel) (gB_w (gBl (show Int32.toInt 0 = 0 by decide)) (by decide) (by decide)) (gB_w (gBl (show Int32.toInt 0 = 0 by decide)) (by decide) (by decide)) (gF_w gF_0 (by decide) (by decide)) (by have qa0 : Int32.toInt 0 = 0 := (by decide); have qa1 : Int32.toInt 6 = 6 := (by decide); omega) (by have qa0 : Int32.toInt 0 = 0 := (by decide); have qa1 : Int32.toInt 6 = 6 := (by decide); omega)) dr_cX14_word_259 ⟨wr_8_195, wr_1_20, wr_8_143, by decide, rfl, (Nat.le_of_ble_eq_true rfl), (Nat.le_of_ble_eq_true rfl)⟩ wr_8_141 wr_8_142 hm668868 he668858 rfl (show (4 + (g668454.toInt - p666958.toInt) : Int).toNat + 1 + 1 + 0 ≤ ((16 * (p666957.toInt - p666958.toInt)).toNat) by first | omega | decide) (show (40 + 5 * (g668454.toInt - p666958.toInt) : Int).toNat + 4 + 16 + 0 ≤ ((160 * (p666957.toInt - p666958.toInt)).toNat) by first | omega | decide) (Nat.le_of_ble_eq_true rfl) (fun r668884 w668885 dc668881 ds668882 hp668883 => ?_) (fun _ _ _ _ _ z => z.elim)
            obtain ⟨F668892, o668886, f668887, rfl, rfl, hfr668894, he668895, he668896, hdc, hds, bo668886, bf668887, x668888, x668889, x668890, ht668891⟩ := hp668883
            have he668897 : F668892 q666955 = .inr (19, [.ref q666956, .int p666957, .int g668454, .int 6, .int p666960, .int p666961, .int p666962, .ref q668781, .int p666964, .int p666965, .int p666966, .ref qo666967, .ref qo666968, .int p666969]) := (hfr668894 q666955 hm668862 (nm_c (fun h => hq668844 (h ▸ hmq666955)) (nm_c (fun h => hq668869 (h ▸ hmq666955)) nm_n))).trans he668871
            have he668898 : F668892 q666956 = .inl (I .byte, 8192, .inl f666970) := (hfr668894 q666956 hm668863 (nm_c (fun h => hq668844 (h ▸ hmq666956)) (nm_c (fun h => hq668869 (h ▸ hmq666956)) nm_n))).trans he668872
            have he668899 : F668892 q668781 = .inr (0, [.ref q668782, .int 0, .int 0, .int 0]) := (hfr668894 q668781 hm668866 (nm_c (rn_oo he668873 he668858 (by decide)) (nm_c (rn_oa he668873 he668859) nm_n))).trans he668873
            have he668900 : F668892 q666986 = .inr (1, [.ref q668456, .int 0, .int 0, .int g668455]) := (hfr668894 q666986 hm668864 (nm_c hne668847 (nm_c (rn_oa he668874 he668859) nm_n))).trans he668874
            have he668901 : F668892 q668456 = .inl (I .byte, n668457, .inl f668458) := (hfr668894 q668456 hm668865 (nm_c (rn_ao he668875 he668858) (nm_c hne668878 nm_n))).trans he668875
            have he668902 : F668892 q668782 = .inl (I .byte, n668783, .inl f668784) := (hfr668894 q668782 hm668867 (nm_c (rn_ao he668876 he668858) (nm_c hne668879 nm_n))).trans he668876
            have hfr668903 : rFr [q666955] P666953 F666954 F668892 := rFr_call hsb668870 hfr668877 hfr668894 (fun b hb hn => ⟨(nm_c (fun e => hn (e ▸ List.mem_cons_self)) nm_n), (nm_c (fun e => hq668844 (e ▸ hb)) (nm_c (fun e => hq668869 (e ▸ hb)) nm_n))⟩)
            rw [show Int32.toInt 0 = 0 from by decide] at x668888
            have bo668886' : gB o668886 1 1 := ⟨by omega, by omega⟩
            rw [show Int32.toInt 0 = 0 from by decide] at x668889
            rw [show Int32.toInt 0 = 0 from by decide] at x668890
            change G _ _ _ _ _ _ _ (.ref q668823 :: _) _ _ _
            refine G_widen (cs' := (4 + (g668454.toInt - p666958.toInt) : Int).toNat + 1 + 1 + 0) (sl' := (40 + 5 * (g668454.toInt - p666958.toInt) : Int).toNat + 4 + 16 + 0) (by omega) (by omega) ?_
            refine G_aload_n 2 dr_cX14_word_262 rfl ?_
            clear hm668796 hm668798 hm668800 hm668801 hm668802 hm668803 hsb668806 he668815 he668816 he668817 he668818 he668819 he668820 hfr668821 he668830 he668831 he668832 he668833 he668834 he668835 he668836 hm668837 hm668838 hm668839 hm668840 hm668841 hm668842 hm668843 hfr668845 hsb668846 hsb668856 hfr668857 he668858 he668859 hq668861 he668871 he668872 he668873 he668874 he668875 he668876 hfr668877 hfr668894; try clear r668851; try clear w668852; try clear dc668848; try clear ds668849; try clear hp668850; try clear r668884; try clear w668885; try clear dc668881; try clear ds668882; try clear hp668883
            refine Gp_get 7 hm668862 he668897 dr_cX14_word_263 (gk_X14 D I) (Nat.le_of_ble_eq_true rfl) wr_9_43 rfl ?_
            refine Gw_callV (As := [.ref q668781]) (gV_ok D I) (cp_656712_StringBuilder_append l hl0 D I P668854 F668892 q668823 q668781 q668853 q668782 0 o668886 0 0 f668887 16 f668784 n668783 hm668868 hm668866 hm668860 hm668867 he668895 he668899 he668896 he668902 (Ne.symm hne668879) (gB_w (gBl (show Int32.toInt 0 = 0 by decide)) (by decide) (by decide)) (gB_w bo668886' (by decide) (by decide)) (gB_w (gBl (show Int32.toInt 0 = 0 by decide)) (by decide) (by decide)) bf668887 bf668784 (by have qa0 : Int32.toInt 0 = 0 := (by decide); have qa1 : Int32.toInt 6 = 6 := (by decide); omega) (by have qa0 : Int32.toInt 0 = 0 := (by decide); have qa1 : Int32.toInt 6 = 6 := (by decide); omega) (by have qa0 : Int32.toInt 0 = 0 := (by decide); have qa1 : Int32.toInt 6 = 6 := (by decide); omega) (by have qa0 : Int32.toInt 0 = 0 := (by decide); have qa1 : Int32.toInt 6 = 6 := (by decide); omega) (by have qa0 : Int32.toInt 0 = 0 := (by decide); have qa1 : Int32.toInt 6 = 6 := (by decide); omega)) dr_cX14_word_266 ⟨wr_8_195, wr_1_20, wr_8_143, by decide, rfl, (Nat.le_of_ble_eq_true rfl), (Nat.le_of_ble_eq_true rfl)⟩ wr_8_141 wr_8_142 hm668868 he668895 rfl (show (4 + (g668454.toInt - p666958.toInt) : Int).toNat + 1 + 1 + 0 + 1 ≤ ((16 * (p666957.toInt - p666958.toInt)).toNat) by first | omega | decide) (show (40 + 5 * (g668454.toInt - p666958.toInt) : Int).toNat + 4 + 16 + 0 + (4 * 16 + 4 + 2 * n668783) ≤ ((160 * (p666957.toInt - p666958.toInt)).toNat) by first | omega | decide) (Nat.le_of_ble_eq_true rfl) (fun r668907 w668908 dc668904 ds668905 hp668906 => ?_) (fun _ _ _ _ _ z => z.elim)
            obtain ⟨P668919, F668920, o668909, q668910, n668911, f668912, rfl, rfl, hsb668921, hfr668922, he668923, he668924, he668925, he668926, hm668927, hq668928, hdc, hds, bo668909, bf668912, x668913, x668914, x668915, x668916, x668917, ht668918⟩ := hp668906
            have hm668929 : q666955 ∈ P668919 := hsb668921 q666955 hm668862
            have hm668930 : q666956 ∈ P668919 := hsb668921 q666956 hm668863
            have hm668931 : q666986 ∈ P668919 := hsb668921 q666986 hm668864
            have hm668932 : q668456 ∈ P668919 := hsb668921 q668456 hm668865
            have hm668933 : q668781 ∈ P668919 := hsb668921 q668781 hm668866
            have hm668934 : q668782 ∈ P668919 := hsb668921 q668782 hm668867
            have hm668935 : q668823 ∈ P668919 := hsb668921 q668823 hm668868
            have hm668936 : q668853 ∈ P668919 := hsb668921 q668853 hm668860
            have hq668937 : q668910 ∉ P666953 := fun z => hq668928.elim (fun e => hq668869 (e ▸ z)) (fun n => n (hsb668870 _ z))
            have hsb668938 : rSub P666953 P668919 := rSub_tr hsb668870 hsb668921
            have he668939 : F668920 q666955 = .inr (19, [.ref q666956, .int p666957, .int g668454, .int 6, .int p666960, .int p666961, .int p666962, .ref q668781, .int p666964, .int p666965, .int p666966, .ref qo666967, .ref qo666968, .int p666969]) := (hfr668922 q666955 hm668862 (nm_c (fun h => hq668844 (h ▸ hmq666955)) (nm_c (fun h => hq668869 (h ▸ hmq666955)) nm_n))).trans he668897
            have he668940 : F668920 q666956 = .inl (I .byte, 8192, .inl f666970) := (hfr668922 q666956 hm668863 (nm_c (fun h => hq668844 (h ▸ hmq666956)) (nm_c (fun h => hq668869 (h ▸ hmq666956)) nm_n))).trans he668898
            have he668941 : F668920 q666986 = .inr (1, [.ref q668456, .int 0, .int 0, .int g668455]) := (hfr668922 q666986 hm668864 (nm_c hne668847 (nm_c (rn_oa he668900 he668896) nm_n))).trans he668900
            have he668942 : F668920 q668456 = .inl (I .byte, n668457, .inl f668458) := (hfr668922 q668456 hm668865 (nm_c (rn_ao he668901 he668895) (nm_c hne668878 nm_n))).trans he668901
            have hfr668943 : rFr [q666955] P666953 F666954 F668920 := rFr_call hsb668870 hfr668903 hfr668922 (fun b hb hn => ⟨(nm_c (fun e => hn (e ▸ List.mem_cons_self)) nm_n), (nm_c (fun e => hq668844 (e ▸ hb)) (nm_c (fun e => hq668869 (e ▸ hb)) nm_n))⟩)
            have hne668944 : q668456 ≠ q668910 := fun e => hq668928.elim (fun e2 => hne668878 (e.trans e2)) (fun n => n (e ▸ hm668865))
            have hne668945 : q668782 ≠ q668910 := fun e => hq668928.elim (fun e2 => hne668879 (e.trans e2)) (fun n => n (e ▸ hm668867))
            have bo668909' : gB o668909 1 16777216 := ⟨by omega, by omega⟩
            change G _ _ _ _ _ _ _ (.ref q668823 :: _) _ _ _
            refine G_widen (cs' := (4 + (g668454.toInt - p666958.toInt) : Int).toNat + 1 + 1 + 0 + 1) (sl' := (40 + 5 * (g668454.toInt - p666958.toInt) : Int).toNat + 4 + 16 + 0 + (2 * (n668911 - 16))) (by omega) (by omega) ?_
            refine G_widen (cs' := (7 + (g668454.toInt - p666958.toInt) : Int).toNat) (sl' := (60 + 10 * (g668454.toInt - p666958.toInt) : Int).toNat) (by omega) (by omega) ?_
            clear hm668860 hm668862 hm668863 hm668864 hm668865 hm668866 hm668867 hm668868 hq668869 hsb668870 hne668878 hne668879 he668895 he668896 bf668887 he668897 he668898 he668899 he668900 he668901 he668902 hfr668903 hsb668921 hfr668922 hq668928 hm668936; try clear x668889; try clear x668890; try clear r668907; try clear w668908; try clear dc668904; try clear ds668905; try clear hp668906
            refine G_ldcK (a := D.2 1000 35) dr_cX14_word_269 (fun _ _ _ h => gx_vk 35 rfl rfl h) ?_
            have hl35_668945 : (sb_35.length : Int) = 1 := rfl
            refine Gw_callV (As := [.ref (D.2 1000 35)]) (gV_ok D I) (cp_656860_StringBuilder_append l hl0 D I P668919 F668920 q668823 q668910 (D.2 1000 35) (D.2 1001 35) sb_35 0 o668909 f668912 n668911 hm668935 hm668927 he668923 he668925 (gx_sc 35 rfl rfl) (by omega) (by decide +kernel) (gB_w (gBl (show Int32.toInt 0 = 0 by decide)) (by decide) (by decide)) (gB_w bo668909' (by decide) (by decide)) bf668912 (by have qa0 : Int32.toInt 0 = 0 := (by decide); have qa1 : Int32.toInt 6 = 6 := (by decide); omega) (by have qa0 : Int32.toInt 0 = 0 := (by decide); have qa1 : Int32.toInt 6 = 6 := (by decide); omega) (by have qa0 : Int32.toInt 0 = 0 := (by decide); have qa1 : Int32.toInt 6 = 6 := (by decide); omega) (by have qa0 : Int32.toInt 0 = 0 := (by decide); have qa1 : Int32.toInt 6 = 6 := (by decide); omega)) dr_cX14_word_271 ⟨wr_8_195, wr_1_20, wr_8_143, by decide, rfl, (Nat.le_of_ble_eq_true rfl), (Nat.le_of_ble_eq_true rfl)⟩ wr_8_141 wr_8_142 hm668935 he668923 rfl (show (7 + (g668454.toInt - p666958.toInt) : Int).toNat + 1 ≤ ((16 * (p666957.toInt - p666958.toInt)).toNat) by first | omega | decide) (show (60 + 10 * (g668454.toInt - p666958.toInt) : Int).toNat + (4 * n668911 + 4 + 2 * sb_35.length) ≤ ((160 * (p666957.toInt - p666958.toInt)).toNat) by first | omega | decide) (Nat.le_of_ble_eq_true rfl) (fun r668950 w668951 dc668947 ds668948 hp668949 => ?_) (fun _ _ _ _ _ z => z.elim)
            obtain ⟨P668962, F668963, o668952, q668953, n668954, f668955, rfl, rfl, hsb668964, hfr668965, he668966, he668967, hm668968, hq668969, hdc, hds, bo668952, bf668955, x668956, x668957, x668958, x668959, x668960, ht668961⟩ := hp668949
            have hm668970 : q666955 ∈ P668962 := hsb668964 q666955 hm668929
            have hm668971 : q666956 ∈ P668962 := hsb668964 q666956 hm668930
            have hm668972 : q666986 ∈ P668962 := hsb668964 q666986 hm668931
            have hm668973 : q668456 ∈ P668962 := hsb668964 q668456 hm668932
            have hm668974 : q668781 ∈ P668962 := hsb668964 q668781 hm668933
            have hm668975 : q668782 ∈ P668962 := hsb668964 q668782 hm668934
            have hm668976 : q668823 ∈ P668962 := hsb668964 q668823 hm668935
            have hm668977 : q668910 ∈ P668962 := hsb668964 q668910 hm668927
            have hq668978 : q668953 ∉ P666953 := fun z => hq668969.elim (fun e => hq668937 (e ▸ z)) (fun n => n (hsb668938 _ z))
            have hsb668979 : rSub P666953 P668962 := rSub_tr hsb668938 hsb668964
            have he668980 : F668963 q666955 = .inr (19, [.ref q666956, .int p666957, .int g668454, .int 6, .int p666960, .int p666961, .int p666962, .ref q668781, .int p666964, .int p666965, .int p666966, .ref qo666967, .ref qo666968, .int p666969]) := (hfr668965 q666955 hm668929 (nm_c (fun h => hq668844 (h ▸ hmq666955)) (nm_c (fun h => hq668937 (h ▸ hmq666955)) nm_n))).trans he668939
            have he668981 : F668963 q666956 = .inl (I .byte, 8192, .inl f666970) := (hfr668965 q666956 hm668930 (nm_c (fun h => hq668844 (h ▸ hmq666956)) (nm_c (fun h => hq668937 (h ▸ hmq666956)) nm_n))).trans he668940
            have he668982 : F668963 q666986 = .inr (1, [.ref q668456, .int 0, .int 0, .int g668455]) := (hfr668965 q666986 hm668931 (nm_c hne668847 (nm_c (rn_oa he668941 he668925) nm_n))).trans he668941
            have he668983 : F668963 q668456 = .inl (I .byte, n668457, .inl f668458) := (hfr668965 q668456 hm668932 (nm_c (rn_ao he668942 he668923) (nm_c hne668944 nm_n))).trans he668942
            have he668984 : F668963 q668781 = .inr (0, [.ref q668782, .int 0, .int 0, .int 0]) := (hfr668965 q668781 hm668933 (nm_c (rn_oo he668924 he668923 (by decide)) (nm_c (rn_oa he668924 he668925) nm_n))).trans he668924
            have he668985 : F668963 q668782 = .inl (I .byte, n668783, .inl f668784) := (hfr668965 q668782 hm668934 (nm_c (rn_ao he668926 he668923) (nm_c hne668945 nm_n))).trans he668926
            have hfr668986 : rFr [q666955] P666953 F666954 F668963 := rFr_call hsb668938 hfr668943 hfr668965 (fun b hb hn => ⟨(nm_c (fun e => hn (e ▸ List.mem_cons_self)) nm_n), (nm_c (fun e => hq668844 (e ▸ hb)) (nm_c (fun e => hq668937 (e ▸ hb)) nm_n))⟩)
            have hne668987 : q668456 ≠ q668953 := fun e => hq668969.elim (fun e2 => hne668944 (e.trans e2)) (fun n => n (e ▸ hm668932))
            have hne668988 : q668782 ≠ q668953 := fun e => hq668969.elim (fun e2 => hne668945 (e.trans e2)) (fun n => n (e ▸ hm668934))
            have bo668952' : gB o668952 2 16777216 := ⟨by omega, by omega⟩
            change G _ _ _ _ _ _ _ (.ref q668823 :: _) _ _ _
            refine G_widen (cs' := (7 + (g668454.toInt - p666958.toInt) : Int).toNat + 1) (sl' := (60 + 10 * (g668454.toInt - p666958.toInt) : Int).toNat + (2 * (n668954 - n668911))) (by omega) (by omega) ?_
            refine G_widen (cs' := (8 + (g668454.toInt - p666958.toInt) : Int).toNat) (sl' := (60 + 15 * (g668454.toInt - p666958.toInt) : Int).toNat) (by omega) (by omega) ?_
            clear he668923 he668924 he668925 he668926 hm668927 bf668912 hm668929 hm668930 hm668931 hm668932 hm668933 hm668934 hm668935 hq668937 hsb668938 he668939 he668940 he668941 he668942 hfr668943 hne668944 hne668945 hsb668964 hfr668965 hq668969 hm668977; try clear r668950; try clear w668951; try clear dc668947; try clear ds668948; try clear hp668949
            refine Gw_callV (As := []) (gV_ok D I) (cp_656985_StringBuilder_toString l hl0 D I P668962 F668963 q668823 q668953 0 o668952 f668955 n668954 hm668976 hm668968 he668966 he668967 (gB_w (gBl (show Int32.toInt 0 = 0 by decide)) (by decide) (by decide)) (gB_w bo668952' (by decide) (by decide)) bf668955 (by have qa0 : Int32.toInt 0 = 0 := (by decide); have qa1 : Int32.toInt 6 = 6 := (by decide); omega) (by have qa0 : Int32.toInt 0 = 0 := (by decide); have qa1 : Int32.toInt 6 = 6 := (by decide); omega)) dr_cX14_word_274 ⟨wr_8_66, wr_1_20, wr_8_69, by decide, rfl, (Nat.le_of_ble_eq_true rfl), (Nat.le_of_ble_eq_true rfl)⟩ wr_8_67 wr_8_68 hm668976 he668966 rfl (show (8 + (g668454.toInt - p666958.toInt) : Int).toNat + 2 ≤ ((16 * (p666957.toInt - p666958.toInt)).toNat) by first | omega | decide) (show (60 + 15 * (g668454.toInt - p666958.toInt) : Int).toNat + (o668952.toInt.toNat + 4) ≤ ((160 * (p666957.toInt - p666958.toInt)).toNat) by first | omega | decide) (Nat.le_of_ble_eq_true rfl) (fun r668992 w668993 dc668989 ds668990 hp668991 => ?_) (fun _ _ _ _ _ z => z.elim)
            obtain ⟨P669001, F669002, q668994, q668995, n668996, f668997, rfl, rfl, hsb669003, hfr669004, he669005, he669006, he669007, he669008, hm669009, hq669010, hm669011, hq669012, hdc, hds, bf668997, x668998, x668999, ht669000⟩ := hp668991
            have hm669013 : q666955 ∈ P669001 := hsb669003 q666955 hm668970
            have hm669014 : q666956 ∈ P669001 := hsb669003 q666956 hm668971
            have hm669015 : q666986 ∈ P669001 := hsb669003 q666986 hm668972
            have hm669016 : q668456 ∈ P669001 := hsb669003 q668456 hm668973
            have hm669017 : q668781 ∈ P669001 := hsb669003 q668781 hm668974
            have hm669018 : q668782 ∈ P669001 := hsb669003 q668782 hm668975
            have hm669019 : q668823 ∈ P669001 := hsb669003 q668823 hm668976
            have hm669020 : q668953 ∈ P669001 := hsb669003 q668953 hm668968
            have hq669021 : q668994 ∉ P666953 := fun z => hq669010 (hsb668979 q668994 z)
            have hq669022 : q668995 ∉ P666953 := fun z => hq669012 (hsb668979 q668995 z)
            have hsb669023 : rSub P666953 P669001 := rSub_tr hsb668979 hsb669003
            have he669024 : F669002 q666955 = .inr (19, [.ref q666956, .int p666957, .int g668454, .int 6, .int p666960, .int p666961, .int p666962, .ref q668781, .int p666964, .int p666965, .int p666966, .ref qo666967, .ref qo666968, .int p666969]) := (hfr669004 q666955 hm668970 nm_n).trans he668980
            have he669025 : F669002 q666956 = .inl (I .byte, 8192, .inl f666970) := (hfr669004 q666956 hm668971 nm_n).trans he668981
            have he669026 : F669002 q666986 = .inr (1, [.ref q668456, .int 0, .int 0, .int g668455]) := (hfr669004 q666986 hm668972 nm_n).trans he668982
            have he669027 : F669002 q668456 = .inl (I .byte, n668457, .inl f668458) := (hfr669004 q668456 hm668973 nm_n).trans he668983
            have he669028 : F669002 q668781 = .inr (0, [.ref q668782, .int 0, .int 0, .int 0]) := (hfr669004 q668781 hm668974 nm_n).trans he668984
            have he669029 : F669002 q668782 = .inl (I .byte, n668783, .inl f668784) := (hfr669004 q668782 hm668975 nm_n).trans he668985
            have hfr669030 : rFr [q666955] P666953 F666954 F669002 := rFr_call hsb668979 hfr668986 hfr669004 (fun b hb hn => ⟨(nm_c (fun e => hn (e ▸ List.mem_cons_self)) nm_n), nm_n⟩)
            have hne669031 : q668781 ≠ q668994 := fun h => hq669010 (h ▸ hm668974)
            have hne669032 : q668456 ≠ q668995 := fun h => hq669012 (h ▸ hm668973)
            have hne669033 : q668782 ≠ q668995 := fun h => hq669012 (h ▸ hm668975)
            have hne669034 : q668953 ≠ q668995 := fun h => hq669012 (h ▸ hm668968)
            change G _ _ _ _ _ _ _ (.ref q668994 :: _) _ _ _
            refine G_widen (cs' := (8 + (g668454.toInt - p666958.toInt) : Int).toNat + 2) (sl' := (60 + 15 * (g668454.toInt - p666958.toInt) : Int).toNat + (o668952.toInt.toNat + 4)) (by omega) (by omega) ?_
            refine G_widen (cs' := (10 + (g668454.toInt - p666958.toInt) : Int).toNat) (sl' := (66 + 16 * (g668454.toInt - p666958.toInt) : Int).toNat) (by omega) (by omega) ?_
            clear hq668844 hne668847 he668966 he668967 hm668968 bf668955 hm668970 hm668971 hm668972 hm668973 hm668974 hm668975 hm668976 hq668978 hsb668979 he668980 he668981 he668982 he668983 he668984 he668985 hfr668986 hne668987 hne668988 hsb669003 hfr669004 he669006 he669007 hq669010 hq669012 hm669019 hm669020 hne669034; try clear r668992; try clear w668993; try clear dc668989; try clear ds668990; try clear hp668991; try clear x668999
            refine Gw_callVk (As := [.ref q668994]) (gV_ok D I) (cp_657444_String_indexOf l hl0 D I P669001 F669002 q668994 q668995 (D.2 1000 34) (D.2 1001 34) sb_34 0 0 f668997 n668996 hm669009 hm669011 he669005 he669008 (gx_sc 34 rfl rfl) (by omega) (by decide +kernel) (gB_w (gBl (show Int32.toInt 0 = 0 by decide)) (by decide) (by decide)) bf668997 (by have qa0 : Int32.toInt 0 = 0 := (by decide); have qa1 : Int32.toInt 6 = 6 := (by decide); omega) (by have qa0 : Int32.toInt 0 = 0 := (by decide); have qa1 : Int32.toInt 6 = 6 := (by decide); omega)) dr_cX14_word_277 ⟨wr_8_196, wr_1_21, wr_8_199, by decide, rfl, (Nat.le_of_ble_eq_true rfl), (Nat.le_of_ble_eq_true rfl)⟩ wr_8_197 wr_8_198 (fun _ _ _ h => ((gx_sc 34 rfl rfl) _ _ _ h).1) (show (10 + (g668454.toInt - p666958.toInt) : Int).toNat + 0 ≤ ((16 * (p666957.toInt - p666958.toInt)).toNat) by first | omega | decide) (show (66 + 16 * (g668454.toInt - p666958.toInt) : Int).toNat + 0 ≤ ((160 * (p666957.toInt - p666958.toInt)).toNat) by first | omega | decide) (Nat.le_of_ble_eq_true rfl) (fun r669038 w669039 dc669035 ds669036 hp669037 => ?_) (fun _ _ _ _ _ z => z.elim)
            obtain ⟨o669040, rfl, rfl, hdc, hds, bo669040, x669041, x669042, ht669043⟩ := hp669037
            change G _ _ _ _ _ _ _ (.int o669040 :: _) _ _ _
            refine G_widen (cs' := (10 + (g668454.toInt - p666958.toInt) : Int).toNat + 0) (sl' := (66 + 16 * (g668454.toInt - p666958.toInt) : Int).toNat + 0) (by omega) (by omega) ?_
            clear he669005 he669008 hm669009 hm669011 bf668997 hq669021 hq669022 hne669031 hne669032 hne669033; try clear r669038; try clear w669039; try clear dc669035; try clear ds669036; try clear hp669037; try clear x669042
            refine G_if_lt 288 dr_cX14_word_280 (by decide +kernel) (fun hc669044 => ?_) (fun hc669044 => ?_)
            · have r669045 : o669040.toInt < 0 := gj_lt hc669044 (show Int32.toInt 0 = 0 by decide)
              have bo669040' : gB o669040 (-2147483646) (-1) := ⟨by omega, by omega⟩
              exact G_vretA dr_cX14_word_288 rfl (show (10 + (g668454.toInt - p666958.toInt) : Int).toNat + 0 ≤ ((16 * (p666957.toInt - p666958.toInt)).toNat) by omega) (show (66 + 16 * (g668454.toInt - p666958.toInt) : Int).toNat + 0 ≤ ((160 * (p666957.toInt - p666958.toInt)).toNat) by omega) ⟨P669001, F669002, g668454, 6, p666961, q668781, (0, fun _ => 0), rfl, rfl, hsb669023, hfr669030, he669024, he669025, (by omega), (by omega), (gB_w bg668454' (by decide) (by decide)), (gB_w (gBl (show Int32.toInt 6 = 6 by decide)) (by decide) (by decide)), (by have qa0 : Int32.toInt 0 = 0 := (by decide); have qa1 : Int32.toInt 6 = 6 := (by decide); omega), (by have qa0 : Int32.toInt 0 = 0 := (by decide); have qa1 : Int32.toInt 6 = 6 := (by decide); omega), (tP_no (by decide) (by decide)), (vP_no (by decide) (by decide)), (fun R c1 c2 c3 c4 c5 c6 => c1 z666977 g668454 g668455 n668457 f668458 n668783 f668784 o668886 f668887 o668909 n668911 f668912 o668952 n668954 f668955 n668996 f668997 o669040 hz666977 bz666977 hJ666985 hx668774 ht668787 bo668886 ht668891 bo668909 ht668918 bo668952 ht668961 ht669000 bo669040 ht669043 r669045)⟩
            · have r669046 : 0 ≤ o669040.toInt := gj_nlt hc669044 (show Int32.toInt 0 = 0 by decide)
              have bo669040' : gB o669040 0 16777215 := ⟨by omega, by omega⟩
              refine G_aload_n 2 dr_cX14_word_283 rfl ?_
              refine G_iconst 1 dr_cX14_word_284 (by decide +kernel) ?_
              refine Gp_put 3 hm669013 he669024 dr_cX14_word_285 (gk_X14 D I) (Nat.le_of_ble_eq_true rfl) wr_9_39 rfl rfl rfl (Nat.le_of_ble_eq_true rfl) (fun F669047 e669048 n669049 => ?_)
              have he669050 : F669047 q666956 = .inl (I .byte, 8192, .inl f666970) := (n669049 q666956 (rn_ao he669025 he669024)).trans he669025
              have he669051 : F669047 q666986 = .inr (1, [.ref q668456, .int 0, .int 0, .int g668455]) := (n669049 q666986 (fun h => hq666999 (h ▸ hmq666955))).trans he669026
              have he669052 : F669047 q668456 = .inl (I .byte, n668457, .inl f668458) := (n669049 q668456 (fun h => hq668459 (h ▸ hmq666955))).trans he669027
              have he669053 : F669047 q668781 = .inr (0, [.ref q668782, .int 0, .int 0, .int 0]) := (n669049 q668781 (fun h => hq668804 (h ▸ hmq666955))).trans he669028
              have he669054 : F669047 q668782 = .inl (I .byte, n668783, .inl f668784) := (n669049 q668782 (fun h => hq668805 (h ▸ hmq666955))).trans he669029
              have he669055 : F669047 q666955 = .inr (19, [.ref q666956, .int p666957, .int g668454, .int 1, .int p666960, .int p666961, .int p666962, .ref q668781, .int p666964, .int p666965, .int p666966, .ref qo666967, .ref qo666968, .int p666969]) := e669048
              have hfr669056 : rFr [q666955] P666953 F666954 F669047 := rFr_put' List.mem_cons_self hfr669030 n669049
              exact G_vretA dr_cX14_word_288 rfl (show (10 + (g668454.toInt - p666958.toInt) : Int).toNat + 0 ≤ ((16 * (p666957.toInt - p666958.toInt)).toNat) by omega) (show (66 + 16 * (g668454.toInt - p666958.toInt) : Int).toNat + 0 ≤ ((160 * (p666957.toInt - p666958.toInt)).toNat) by omega) ⟨P669001, F669047, g668454, 1, p666961, q668781, (n668783, f668784), rfl, rfl, hsb669023, hfr669056, he669055, he669050, (by omega), (by omega), (gB_w bg668454' (by decide) (by decide)), (gB_w (gBl (show Int32.toInt 1 = 1 by decide)) (by decide) (by decide)), (by have qa0 : Int32.toInt 0 = 0 := (by decide); have qa1 : Int32.toInt 1 = 1 := (by decide); omega), (by have qa0 : Int32.toInt 0 = 0 := (by decide); have qa1 : Int32.toInt 1 = 1 := (by decide); omega), (tP_1 hm669017 he669053 hm669018 he669054 bf668784 (by omega) (gB_w (gBl (show Int32.toInt 0 = 0 by decide)) (by decide) (by decide)) (fun e => hq668805 (e ▸ x666974)) (fun e => hq668805 (e ▸ x666975))), (vP_no (by decide) (by decide)), (fun R c1 c2 c3 c4 c5 c6 => c2 z666977 g668454 g668455 n668457 f668458 n668783 f668784 o668886 f668887 o668909 n668911 f668912 o668952 n668954 f668955 n668996 f668997 o669040 hz666977 bz666977 hJ666985 hx668774 ht668787 bo668886 ht668891 bo668909 ht668918 bo668952 ht668961 ht669000 bo669040 ht669043 r669046)⟩
          · have r669057 : o668769.toInt ≠ 0 := gj_neq hc668772 (show Int32.toInt 0 = 0 by decide)
            have bo668769' : gB o668769 1 1 := ⟨by omega, by omega⟩
            have bi669058 : gB z668763 97 122 := isP_1 x668770 (by omega)
            refine G_aload_n 0 dr_cX14_word_212 rfl ?_
            refine G_aload_n 2 dr_cX14_word_213 rfl ?_
            refine Gp_get 0 hm668467 he668461 dr_cX14_word_214 (gk_X14 D I) (Nat.le_of_ble_eq_true rfl) wr_9_36 rfl ?_
            refine G_aload_n 2 dr_cX14_word_217 rfl ?_
            refine Gp_get 2 hm668467 he668461 dr_cX14_word_218 (gk_X14 D I) (Nat.le_of_ble_eq_true rfl) wr_9_38 rfl ?_
            refine Gp_bald 1 hm668468 he668462 dr_cX14_word_221 rfl (gB_in bg668454' (by decide) (by decide)) (G_eqi (y := z668763) hz668763.symm ?_)
            refine G_i2c dr_cX14_word_222 (G_nam fun z669059 hz669059 => ?_)
            have ez669059 : z669059.toInt = z668763.toInt := gI_i2c hz669059 (by omega) (by omega)
            have bz669059 : gB z669059 97 122 := ⟨by omega, by omega⟩
            refine Gw_callV (As := [.int z669059]) (gV_ok D I) (cp_667644_StringBuilder_append l hl0 D I P668466 F668460 q666986 q668456 z669059 0 g668455 f668458 n668457 hm668469 hm668470 he668463 he668464 (gB_w bz669059 (by decide) (by decide)) (gB_w (gBl (show Int32.toInt 0 = 0 by decide)) (by decide) (by decide)) bg668455 bf668458 (by have qa0 : Int32.toInt 0 = 0 := (by decide); have qa1 : Int32.toInt 6 = 6 := (by decide); omega) (by have qa0 : Int32.toInt 0 = 0 := (by decide); have qa1 : Int32.toInt 6 = 6 := (by decide); omega) (by have qa0 : Int32.toInt 0 = 0 := (by decide); have qa1 : Int32.toInt 6 = 6 := (by decide); omega) (by have qa0 : Int32.toInt 0 = 0 := (by decide); have qa1 : Int32.toInt 6 = 6 := (by decide); omega)) dr_cX14_word_223 ⟨wr_7_237, wr_1_20, wr_8_0, by decide, rfl, (Nat.le_of_ble_eq_true rfl), (Nat.le_of_ble_eq_true rfl)⟩ wr_7_238 wr_7_239 hm668469 he668463 rfl (show 2 + (g668455.toInt : Int).toNat + 0 + 1 ≤ ((16 * (p666957.toInt - p666958.toInt)).toNat) by first | omega | decide) (show 4 + 2 * n668457 + 0 + (4 * n668457 + 8) ≤ ((160 * (p666957.toInt - p666958.toInt)).toNat) by first | omega | decide) (Nat.le_of_ble_eq_true rfl) (fun r669063 w669064 dc669060 ds669061 hp669062 => ?_) (fun _ _ _ _ _ z => z.elim)
            obtain ⟨P669075, F669076, o669065, q669066, n669067, f669068, rfl, rfl, hsb669077, hfr669078, he669079, he669080, hm669081, hq669082, hdc, hds, bo669065, bf669068, x669069, x669070, x669071, x669072, x669073, ht669074⟩ := hp669062
            have hm669083 : q666955 ∈ P669075 := hsb669077 q666955 hm668467
            have hm669084 : q666956 ∈ P669075 := hsb669077 q666956 hm668468
            have hm669085 : q666986 ∈ P669075 := hsb669077 q666986 hm668469
            have hm669086 : q668456 ∈ P669075 := hsb669077 q668456 hm668470
            have hq669087 : q669066 ∉ P666953 := fun z => hq669082.elim (fun e => hq668459 (e ▸ z)) (fun n => n (hsb668471 _ z))
            have hsb669088 : rSub P666953 P669075 := rSub_tr hsb668471 hsb669077
            have he669089 : F669076 q666955 = .inr (19, [.ref q666956, .int p666957, .int g668454, .int 6, .int p666960, .int p666961, .int p666962, .ref qo666963, .int p666964, .int p666965, .int p666966, .ref qo666967, .ref qo666968, .int p666969]) := (hfr669078 q666955 hm668467 (nm_c (fun h => hq668459 (h ▸ hmq666955)) (nm_c (fun h => hq666999 (h ▸ hmq666955)) nm_n))).trans he668461
            have he669090 : F669076 q666956 = .inl (I .byte, 8192, .inl f666970) := (hfr669078 q666956 hm668468 (nm_c (fun h => hq668459 (h ▸ hmq666956)) (nm_c (fun h => hq666999 (h ▸ hmq666956)) nm_n))).trans he668462
            have hfr669091 : rFr [q666955] P666953 F666954 F669076 := rFr_call hsb668471 hfr668465 hfr669078 (fun b hb hn => ⟨(nm_c (fun e => hn (e ▸ List.mem_cons_self)) nm_n), (nm_c (fun e => hq668459 (e ▸ hb)) (nm_c (fun e => hq666999 (e ▸ hb)) nm_n))⟩)
            change G _ _ _ _ _ _ _ (.ref q666986 :: _) _ _ _
            refine G_widen (cs' := 2 + (g668455.toInt : Int).toNat + 0 + 1) (sl' := 4 + 2 * n668457 + 0 + (2 * (n669067 - n668457))) (by omega) (by omega) ?_
            refine G_pop dr_cX14_word_226 rfl ?_
            refine G_aload_n 2 dr_cX14_word_227 rfl ?_
            refine G_dup dr_cX14_word_228 rfl ?_
            refine Gp_get 2 hm669083 he669089 dr_cX14_word_229 (gk_X14 D I) (Nat.le_of_ble_eq_true rfl) wr_9_38 rfl ?_
            refine G_iconst 1 dr_cX14_word_232 (by decide +kernel) ?_
            refine G_iadd dr_cX14_word_233 (G_nam fun z669092 hz669092 => ?_)
            have ez669092 : z669092.toInt = g668454.toInt + 1 := by rw [gI_add hz669092 bg668454' (gBl (show Int32.toInt 1 = 1 by decide)) (by decide) (by decide), show Int32.toInt 1 = 1 from by decide]
            have bz669092 : gB z669092 1 8192 := gB_add (gI_add hz669092 bg668454' (gBl (show Int32.toInt 1 = 1 by decide)) (by decide) (by decide)) bg668454' (gBl (show Int32.toInt 1 = 1 by decide)) (by decide) (by decide)
            refine Gp_put 2 hm669083 he669089 dr_cX14_word_234 (gk_X14 D I) (Nat.le_of_ble_eq_true rfl) wr_9_38 rfl rfl rfl (Nat.le_of_ble_eq_true rfl) (fun F669093 e669094 n669095 => ?_)
            have he669096 : F669093 q666956 = .inl (I .byte, 8192, .inl f666970) := (n669095 q666956 (rn_ao he669090 he669089)).trans he669090
            have he669097 : F669093 q666986 = .inr (1, [.ref q669066, .int 0, .int 0, .int o669065]) := (n669095 q666986 (fun h => hq666999 (h ▸ hmq666955))).trans he669079
            have he669098 : F669093 q669066 = .inl (I .byte, n669067, .inl f669068) := (n669095 q669066 (fun h => hq669087 (h ▸ hmq666955))).trans he669080
            have he669099 : F669093 q666955 = .inr (19, [.ref q666956, .int p666957, .int z669092, .int 6, .int p666960, .int p666961, .int p666962, .ref qo666963, .int p666964, .int p666965, .int p666966, .ref qo666967, .ref qo666968, .int p666969]) := e669094
            have hfr669100 : rFr [q666955] P666953 F666954 F669093 := rFr_put' List.mem_cons_self hfr669091 n669095
            refine G_goto 186 dr_cX14_word_237 (by decide +kernel) ?_
            refine G_widen (cs' := 2 + (o669065.toInt : Int).toNat) (sl' := 4 + 2 * n669067) (by omega) (by omega) ?_
            exact ih186_668476 P669075 F669093 z669092 o669065 q669066 n669067 f669068 (gB_w bz669092 (by decide) (by decide)) (gB_w bo669065 (by decide) (by decide)) bf669068 hsb669088 hfr669100 hm669083 he669099 hm669084 he669096 hm669085 he669097 hm669081 he669098 hq669087 (by have qa0 : Int32.toInt 0 = 0 := (by decide); have qa1 : Int32.toInt 6 = 6 := (by decide); omega) (by have qa0 : Int32.toInt 0 = 0 := (by decide); have qa1 : Int32.toInt 6 = 6 := (by decide); omega) (by have qa0 : Int32.toInt 0 = 0 := (by decide); have qa1 : Int32.toInt 6 = 6 := (by decide); omega) (by have qa0 : Int32.toInt 0 = 0 := (by decide); have qa1 : Int32.toInt 6 = 6 := (by decide); omega) (by have qa0 : Int32.toInt 0 = 0 := (by decide); have qa1 : Int32.toInt 6 = 6 := (by decide); omega) (fun k e1 e2 e3 e4 ht => kt186_668476 k e1 e2 e3 e4 (fun R c1 c2 c3 => c3 g668454 g668455 n668457 f668458 z668763 o668769 z669059 o669065 n669067 f669068 z669092 k e1 e2 e3 e4 bg668454 bg668455 r668762 hz668763 bz668763 bo668769 ht668771 r669057 hz669059 bo669065 ht669074 ez669092 (ht R c1 c2 c3))) (by have qa0 : Int32.toInt 0 = 0 := (by decide); have qa1 : Int32.toInt 6 = 6 := (by decide); omega)
    exact hlp186_668476 (((8193 : Int) - p666958.toInt).toNat + 1) P667008 F667009 p666958 0 q667007 16 (fun _ => 0) bp666958 (gB_w (gBl (show Int32.toInt 0 = 0 by decide)) (by decide) (by decide)) (gF_w gF_0 (by decide) (by decide)) hsb667020 hfr667023 hm667016 he667021 hm667017 he667022 hm667018 he667012 hm667014 he667013 hq667019 (by have qa0 : Int32.toInt 0 = 0 := (by decide); have qa1 : Int32.toInt 6 = 6 := (by decide); omega) (by have qa0 : Int32.toInt 0 = 0 := (by decide); have qa1 : Int32.toInt 6 = 6 := (by decide); omega) (by have qa0 : Int32.toInt 0 = 0 := (by decide); have qa1 : Int32.toInt 6 = 6 := (by decide); omega) (by have qa0 : Int32.toInt 0 = 0 := (by decide); have qa1 : Int32.toInt 6 = 6 := (by decide); omega) (by have qa0 : Int32.toInt 0 = 0 := (by decide); have qa1 : Int32.toInt 6 = 6 := (by decide); omega) (fun k e1 e2 e3 e4 ht => ht) (Nat.lt_succ_self _)
  refine G_iload_n 0 dr_cX14_word_16 rfl ?_
  refine G_bipush 118 dr_cX14_word_17 (by decide +kernel) ?_
  refine G_icmp_eq 28 dr_cX14_word_19 (by decide +kernel) (fun hc669101 => ?_) (fun hc669101 => ?_)
  · have r669102 : z666977.toInt = 118 := gj_eq hc669101 (show Int32.toInt 118 = 118 by decide)
    have bz666977' : gB z666977 118 118 := ⟨by omega, by omega⟩
    refine G_aload_n 1 dr_cX14_word_28 rfl ?_
    refine Gp_get 2 hmq666955 he666982 dr_cX14_word_29 (gk_X14 D I) (Nat.le_of_ble_eq_true rfl) wr_9_38 rfl ?_
    refine G_iconst 1 dr_cX14_word_32 (by decide +kernel) ?_
    refine G_iadd dr_cX14_word_33 (G_nam fun z669103 hz669103 => ?_)
    have ez669103 : z669103.toInt = p666958.toInt + 1 := by rw [gI_add hz669103 bp666958 (gBl (show Int32.toInt 1 = 1 by decide)) (by decide) (by decide), show Int32.toInt 1 = 1 from by decide]
    have bz669103 : gB z669103 1 8193 := gB_add (gI_add hz669103 bp666958 (gBl (show Int32.toInt 1 = 1 by decide)) (by decide) (by decide)) bp666958 (gBl (show Int32.toInt 1 = 1 by decide)) (by decide) (by decide)
    refine G_aload_n 1 dr_cX14_word_34 rfl ?_
    refine Gp_get 1 hmq666955 he666982 dr_cX14_word_35 (gk_X14 D I) (Nat.le_of_ble_eq_true rfl) wr_9_37 rfl ?_
    refine G_icmp_ge 178 dr_cX14_word_38 (by decide +kernel) (fun hc669104 => ?_) (fun hc669104 => ?_)
    · have r669105 : p666957.toInt ≤ z669103.toInt := gC_le hc669104
      refine G_lv (L' := [(1, .int z666977), (0, .ref q666955)]) [0, 1] rfl ?_
      exact jn666984 (Or.inl ⟨z669103, r669102, ez669103, r669105⟩)
    · have r669106 : z669103.toInt < p666957.toInt := gC_nle hc669104
      have bz669103' : gB z669103 1 8191 := ⟨by omega, by omega⟩
      have bp666957' : gB p666957 2 8192 := ⟨by omega, by omega⟩
      refine G_aload_n 1 dr_cX14_word_41 rfl ?_
      refine Gp_get 0 hmq666955 he666982 dr_cX14_word_42 (gk_X14 D I) (Nat.le_of_ble_eq_true rfl) wr_9_36 rfl ?_
      refine G_aload_n 1 dr_cX14_word_45 rfl ?_
      refine Gp_get 2 hmq666955 he666982 dr_cX14_word_46 (gk_X14 D I) (Nat.le_of_ble_eq_true rfl) wr_9_38 rfl ?_
      refine G_iconst 1 dr_cX14_word_49 (by decide +kernel) ?_
      refine G_iadd dr_cX14_word_50 (G_eqi (y := z669103) hz669103.symm ?_)
      refine Gp_bald 1 hmq666956 he666981 dr_cX14_word_51 rfl (gB_in bz669103' (by decide) (by decide)) (G_nam fun z669107 hz669107 => ?_)
      have bz669107 : gB z669107 (-128) 127 := by rw [hz669107]; exact bf666970 _
      refine Gw_callS (As := [.int z669107]) (gV_ok D I) (cp_665370_Reader_isDigit l hl0 D I P666953 F666978 z669107 ) dr_cX14_word_52 ⟨wr_7_219, wr_1_32, wr_7_221, by decide, rfl, (Nat.le_of_ble_eq_true rfl), (Nat.le_of_ble_eq_true rfl)⟩ wr_7_220 (show 0 + 0 ≤ ((16 * (p666957.toInt - p666958.toInt)).toNat) by first | omega | decide) (show 0 + 0 ≤ ((160 * (p666957.toInt - p666958.toInt)).toNat) by first | omega | decide) (Nat.le_of_ble_eq_true rfl) (fun r669111 w669112 dc669108 ds669109 hp669110 => ?_) (fun _ _ _ _ _ z => z.elim)
      obtain ⟨o669113, rfl, rfl, hdc, hds, bo669113, x669114, ht669115⟩ := hp669110
      change G _ _ _ _ _ _ _ (.int o669113 :: _) _ _ _
      refine G_widen (cs' := 0) (sl' := 0) (by omega) (by omega) ?_
      refine G_if_eq 178 dr_cX14_word_55 (by decide +kernel) (fun hc669116 => ?_) (fun hc669116 => ?_)
      · have r669117 : o669113.toInt = 0 := gj_eq hc669116 (show Int32.toInt 0 = 0 by decide)
        have bo669113' : gB o669113 0 0 := ⟨by omega, by omega⟩
        refine G_lv (L' := [(1, .int z666977), (0, .ref q666955)]) [0, 1] rfl ?_
        exact jn666984 (Or.inr (Or.inl ⟨z669103, z669107, o669113, r669102, ez669103, r669106, hz669107, bz669107, bo669113, ht669115, r669117⟩))
      · have r669118 : o669113.toInt ≠ 0 := gj_neq hc669116 (show Int32.toInt 0 = 0 by decide)
        have bo669113' : gB o669113 1 1 := ⟨by omega, by omega⟩
        have bi669119 : gB z669107 48 57 := isP_1 x669114 (by omega)
        refine G_lconst 0 dr_cX14_word_58 rfl ?_
        refine G_lstore_n (L' := [(2, .long 0), (1, .int z666977), (0, .ref q666955)]) dr_cX14_word_59 (Nat.le_of_ble_eq_true rfl) rfl ?_
        refine G_aload_n 2 dr_cX14_word_60 rfl ?_
        refine G_dup dr_cX14_word_61 rfl ?_
        refine Gp_get 2 hmq666955 he666982 dr_cX14_word_62 (gk_X14 D I) (Nat.le_of_ble_eq_true rfl) wr_9_38 rfl ?_
        refine G_iconst 1 dr_cX14_word_65 (by decide +kernel) ?_
        refine G_iadd dr_cX14_word_66 (G_eqi (y := z669103) hz669103.symm ?_)
        refine Gp_put 2 hmq666955 he666982 dr_cX14_word_67 (gk_X14 D I) (Nat.le_of_ble_eq_true rfl) wr_9_38 rfl rfl rfl (Nat.le_of_ble_eq_true rfl) (fun F669120 e669121 n669122 => ?_)
        have he669123 : F669120 q666956 = .inl (I .byte, 8192, .inl f666970) := (n669122 q666956 (rn_ao he666981 he666982)).trans he666981
        have he669124 : F669120 q666955 = .inr (19, [.ref q666956, .int p666957, .int z669103, .int 6, .int p666960, .int p666961, .int p666962, .ref qo666963, .int p666964, .int p666965, .int p666966, .ref qo666967, .ref qo666968, .int p666969]) := e669121
        have hfr669125 : rFr [q666955] P666953 F666954 F669120 := rFr_put' List.mem_cons_self hfr666983 n669122
        have hlp70_669276 : ∀ (n70_669276 : Nat) (F669270 : Nat → va_E) (gl669268 : Int64) (g669269 : Int32), gB g669269 0 8192 → rFr [q666955] P666953 F666954 F669270 → F669270 q666955 = .inr (19, [.ref q666956, .int p666957, .int g669269, .int 6, .int p666960, .int p666961, .int p666962, .ref qo666963, .int p666964, .int p666965, .int p666966, .ref qo666967, .ref qo666968, .int p666969]) → F669270 q666956 = .inl (I .byte, 8192, .inl f666970) → LG gl669268 0 1000000 → p666958.toInt < g669269.toInt → g669269.toInt ≤ p666957.toInt → (∀ (k : Nat) (e1 : Int64) (e2 : Int32), tl_RReader_word_70 p666957 f666970 gl669268 g669269 k e1 e2 → tl_RReader_word_70 p666957 f666970 (0 : Int64) z669103 k e1 e2) → ((8193 : Int) - g669269.toInt).toNat < n70_669276 → G (gV D I) l (gRm 6 132 ((16 * (p666957.toInt - p666958.toInt)).toNat) ((160 * (p666957.toInt - p666958.toInt)).toNat)) (gMA (gV D I) (pp_666976_Reader_word D I P666953 F666954 q666955 q666956 p666957 p666958 p666959 p666960 p666961 p666962 qo666963 p666964 p666965 p666966 qo666967 qo666968 p666969 f666970) gNA ((16 * (p666957.toInt - p666958.toInt)).toNat) ((160 * (p666957.toInt - p666958.toInt)).toNat)) ky_666976_Reader_word 70 [(2, .long gl669268), (1, .int z666977), (0, .ref q666955)] [] (va_pl P666953 F669270) 0 0 := by
          intro n70_669276
          induction n70_669276 with
          | zero => intro F669270 gl669268 g669269 bg669269 hfr669273 he669271 he669272 x669274 x669275 x669276 kt70_669276 hm70_669276; exact absurd hm70_669276 (Nat.not_lt_zero _)
          | succ n70_669276 ih70_669276 =>
            intro F669270 gl669268 g669269 bg669269 hfr669273 he669271 he669272 x669274 x669275 x669276 kt70_669276 hm70_669276
            refine G_aload_n 2 dr_cX14_word_70 rfl ?_
            refine Gp_get 2 hmq666955 he669271 dr_cX14_word_71 (gk_X14 D I) (Nat.le_of_ble_eq_true rfl) wr_9_38 rfl ?_
            refine G_aload_n 2 dr_cX14_word_74 rfl ?_
            refine Gp_get 1 hmq666955 he669271 dr_cX14_word_75 (gk_X14 D I) (Nat.le_of_ble_eq_true rfl) wr_9_37 rfl ?_
            refine G_icmp_ge 136 dr_cX14_word_78 (by decide +kernel) (fun hc669277 => ?_) (fun hc669277 => ?_)
            · have r669278 : p666957.toInt ≤ g669269.toInt := gC_le hc669277
              have bg669269' : gB g669269 2 8192 := ⟨by omega, by omega⟩
              have hx669279 : tl_RReader_word_70 p666957 f666970 (0 : Int64) z669103 136 gl669268 g669269 := kt70_669276 136 gl669268 g669269 (fun R c1 c2 c3 => c1 gl669268 g669269 bg669269 r669278)
              clear he666981 he666982 hfr666983 jn666984 bz669103 bo669113' he669123 he669124 hfr669125; try clear r669111; try clear w669112; try clear dc669108; try clear ds669109; try clear hp669110; try clear x669114
              refine G_aload_n 2 dr_cX14_word_136 rfl ?_
              refine G_lload_n 0 dr_cX14_word_137 rfl ?_
              refine G_l2i dr_cX14_word_138 (G_nam fun z669280 hz669280 => ?_)
              have bz669280 : gB z669280 (-2147483648) 2147483647 := gB_any z669280
              refine Gp_put 5 hmq666955 he669271 dr_cX14_word_139 (gk_X14 D I) (Nat.le_of_ble_eq_true rfl) wr_9_41 rfl rfl rfl (Nat.le_of_ble_eq_true rfl) (fun F669281 e669282 n669283 => ?_)
              have he669284 : F669281 q666956 = .inl (I .byte, 8192, .inl f666970) := (n669283 q666956 (rn_ao he669272 he669271)).trans he669272
              have he669285 : F669281 q666955 = .inr (19, [.ref q666956, .int p666957, .int g669269, .int 6, .int p666960, .int z669280, .int p666962, .ref qo666963, .int p666964, .int p666965, .int p666966, .ref qo666967, .ref qo666968, .int p666969]) := e669282
              have hfr669286 : rFr [q666955] P666953 F666954 F669281 := rFr_put' List.mem_cons_self hfr669273 n669283
              refine G_lload_n 0 dr_cX14_word_142 rfl ?_
              refine G_iload_n 1 dr_cX14_word_143 rfl ?_
              refine G_bipush 118 dr_cX14_word_144 (by decide +kernel) ?_
              refine G_icmp_ne 155 dr_cX14_word_146 (by decide +kernel) (fun hc => absurd (show False by have := gj_neq hc (show Int32.toInt 118 = 118 by decide); omega) not_false) (fun _ => ?_)
              refine G_ldc2 99 dr_cX14_word_149 wr_7_233 ?_
              refine G_goto 158 dr_cX14_word_152 (by decide +kernel) ?_
              refine G_lcmp dr_cX14_word_158 (G_nam fun z669287 hz669287 => ?_)
              have bz669287 : gB z669287 (-1) 1 := gB_cmp hz669287
              refine G_if_gt 177 dr_cX14_word_159 (by decide +kernel) (fun hc669288 => ?_) (fun hc669288 => ?_)
              · have r669289 : 0 < z669287.toInt := gj_ltL hc669288 (show Int32.toInt 0 = 0 by decide)
                have bz669287' : gB z669287 1 1 := ⟨by omega, by omega⟩
                have lhc669288 := gC_cmpS hz669287 (by omega)
                exact G_vretA dr_cX14_word_177 rfl (show 0 ≤ ((16 * (p666957.toInt - p666958.toInt)).toNat) by omega) (show 0 ≤ ((160 * (p666957.toInt - p666958.toInt)).toNat) by omega) ⟨P666953, F669281, g669269, 6, z669280, qo666963, (0, fun _ => 0), rfl, rfl, (rSub_rf (P := P666953)), hfr669286, he669285, he669284, (by omega), (by omega), (gB_w bg669269' (by decide) (by decide)), (gB_w (gBl (show Int32.toInt 6 = 6 by decide)) (by decide) (by decide)), (by have qa0 : Int32.toInt 6 = 6 := (by decide); omega), (by have qa0 : Int32.toInt 6 = 6 := (by decide); omega), (tP_no (by decide) (by decide)), (vP_no (by decide) (by decide)), (fun R c1 c2 c3 c4 c5 c6 => c3 z666977 z669103 z669107 o669113 gl669268 g669269 z669280 z669287 hz666977 bz666977 r669102 ez669103 r669106 hz669107 bz669107 bo669113 ht669115 r669118 hx669279 hz669280 hz669287 r669289)⟩
              · have r669290 : z669287.toInt ≤ 0 := gj_nltL hc669288 (show Int32.toInt 0 = 0 by decide)
                have bz669287' : gB z669287 (-1) 0 := ⟨by omega, by omega⟩
                refine G_aload_n 2 dr_cX14_word_162 rfl ?_
                refine G_iload_n 1 dr_cX14_word_163 rfl ?_
                refine G_bipush 118 dr_cX14_word_164 (by decide +kernel) ?_
                refine G_icmp_ne 173 dr_cX14_word_166 (by decide +kernel) (fun hc => absurd (show False by have := gj_neq hc (show Int32.toInt 118 = 118 by decide); omega) not_false) (fun _ => ?_)
                refine G_iconst 2 dr_cX14_word_169 (by decide +kernel) ?_
                refine G_goto 174 dr_cX14_word_170 (by decide +kernel) ?_
                refine Gp_put 3 hmq666955 he669285 dr_cX14_word_174 (gk_X14 D I) (Nat.le_of_ble_eq_true rfl) wr_9_39 rfl rfl rfl (Nat.le_of_ble_eq_true rfl) (fun F669291 e669292 n669293 => ?_)
                have he669294 : F669291 q666956 = .inl (I .byte, 8192, .inl f666970) := (n669293 q666956 (rn_ao he669284 he669285)).trans he669284
                have he669295 : F669291 q666955 = .inr (19, [.ref q666956, .int p666957, .int g669269, .int 2, .int p666960, .int z669280, .int p666962, .ref qo666963, .int p666964, .int p666965, .int p666966, .ref qo666967, .ref qo666968, .int p666969]) := e669292
                have hfr669296 : rFr [q666955] P666953 F666954 F669291 := rFr_put' List.mem_cons_self hfr669286 n669293
                exact G_vretA dr_cX14_word_177 rfl (show 0 ≤ ((16 * (p666957.toInt - p666958.toInt)).toNat) by omega) (show 0 ≤ ((160 * (p666957.toInt - p666958.toInt)).toNat) by omega) ⟨P666953, F669291, g669269, 2, z669280, qo666963, (0, fun _ => 0), rfl, rfl, (rSub_rf (P := P666953)), hfr669296, he669295, he669294, (by omega), (by omega), (gB_w bg669269' (by decide) (by decide)), (gB_w (gBl (show Int32.toInt 2 = 2 by decide)) (by decide) (by decide)), (by have qa0 : Int32.toInt 2 = 2 := (by decide); omega), (by have qa0 : Int32.toInt 2 = 2 := (by decide); omega), (tP_no (by decide) (by decide)), (vP_r (by assumption) (by assumption) (by assumption) (by omega)), (fun R c1 c2 c3 c4 c5 c6 => c4 z666977 z669103 z669107 o669113 gl669268 g669269 z669280 z669287 hz666977 bz666977 r669102 ez669103 r669106 hz669107 bz669107 bo669113 ht669115 r669118 hx669279 hz669280 hz669287 r669290)⟩
            · have r669297 : g669269.toInt < p666957.toInt := gC_nle hc669277
              have bg669269' : gB g669269 0 8191 := ⟨by omega, by omega⟩
              refine G_aload_n 2 dr_cX14_word_81 rfl ?_
              refine Gp_get 0 hmq666955 he669271 dr_cX14_word_82 (gk_X14 D I) (Nat.le_of_ble_eq_true rfl) wr_9_36 rfl ?_
              refine G_aload_n 2 dr_cX14_word_85 rfl ?_
              refine Gp_get 2 hmq666955 he669271 dr_cX14_word_86 (gk_X14 D I) (Nat.le_of_ble_eq_true rfl) wr_9_38 rfl ?_
              refine Gp_bald 1 hmq666956 he669272 dr_cX14_word_89 rfl (gB_in bg669269' (by decide) (by decide)) (G_nam fun z669298 hz669298 => ?_)
              have bz669298 : gB z669298 (-128) 127 := by rw [hz669298]; exact bf666970 _
              refine Gw_callS (As := [.int z669298]) (gV_ok D I) (cp_665370_Reader_isDigit l hl0 D I P666953 F669270 z669298 ) dr_cX14_word_90 ⟨wr_7_219, wr_1_32, wr_7_221, by decide, rfl, (Nat.le_of_ble_eq_true rfl), (Nat.le_of_ble_eq_true rfl)⟩ wr_7_220 (show 0 + 0 ≤ ((16 * (p666957.toInt - p666958.toInt)).toNat) by first | omega | decide) (show 0 + 0 ≤ ((160 * (p666957.toInt - p666958.toInt)).toNat) by first | omega | decide) (Nat.le_of_ble_eq_true rfl) (fun r669302 w669303 dc669299 ds669300 hp669301 => ?_) (fun _ _ _ _ _ z => z.elim)
              obtain ⟨o669304, rfl, rfl, hdc, hds, bo669304, x669305, ht669306⟩ := hp669301
              change G _ _ _ _ _ _ _ (.int o669304 :: _) _ _ _
              refine G_widen (cs' := 0) (sl' := 0) (by omega) (by omega) ?_
              refine G_if_eq 136 dr_cX14_word_93 (by decide +kernel) (fun hc669307 => ?_) (fun hc669307 => ?_)
              · have r669308 : o669304.toInt = 0 := gj_eq hc669307 (show Int32.toInt 0 = 0 by decide)
                have bo669304' : gB o669304 0 0 := ⟨by omega, by omega⟩
                have hx669309 : tl_RReader_word_70 p666957 f666970 (0 : Int64) z669103 136 gl669268 g669269 := kt70_669276 136 gl669268 g669269 (fun R c1 c2 c3 => c2 gl669268 g669269 z669298 o669304 bg669269 r669297 hz669298 bz669298 bo669304 ht669306 r669308)
                clear he666981 he666982 hfr666983 jn666984 bz669103 bo669113' he669123 he669124 hfr669125 bo669304 ht669306 bo669304'; try clear r669111; try clear w669112; try clear dc669108; try clear ds669109; try clear hp669110; try clear x669114; try clear r669302; try clear w669303; try clear dc669299; try clear ds669300; try clear hp669301; try clear x669305; try clear r669308
                refine G_aload_n 2 dr_cX14_word_136 rfl ?_
                refine G_lload_n 0 dr_cX14_word_137 rfl ?_
                refine G_l2i dr_cX14_word_138 (G_nam fun z669310 hz669310 => ?_)
                have bz669310 : gB z669310 (-2147483648) 2147483647 := gB_any z669310
                refine Gp_put 5 hmq666955 he669271 dr_cX14_word_139 (gk_X14 D I) (Nat.le_of_ble_eq_true rfl) wr_9_41 rfl rfl rfl (Nat.le_of_ble_eq_true rfl) (fun F669311 e669312 n669313 => ?_)
                have he669314 : F669311 q666956 = .inl (I .byte, 8192, .inl f666970) := (n669313 q666956 (rn_ao he669272 he669271)).trans he669272
                have he669315 : F669311 q666955 = .inr (19, [.ref q666956, .int p666957, .int g669269, .int 6, .int p666960, .int z669310, .int p666962, .ref qo666963, .int p666964, .int p666965, .int p666966, .ref qo666967, .ref qo666968, .int p666969]) := e669312
                have hfr669316 : rFr [q666955] P666953 F666954 F669311 := rFr_put' List.mem_cons_self hfr669273 n669313
                refine G_lload_n 0 dr_cX14_word_142 rfl ?_
                refine G_iload_n 1 dr_cX14_word_143 rfl ?_
                refine G_bipush 118 dr_cX14_word_144 (by decide +kernel) ?_
                refine G_icmp_ne 155 dr_cX14_word_146 (by decide +kernel) (fun hc => absurd (show False by have := gj_neq hc (show Int32.toInt 118 = 118 by decide); omega) not_false) (fun _ => ?_)
                refine G_ldc2 99 dr_cX14_word_149 wr_7_233 ?_
                refine G_goto 158 dr_cX14_word_152 (by decide +kernel) ?_
                refine G_lcmp dr_cX14_word_158 (G_nam fun z669317 hz669317 => ?_)
                have bz669317 : gB z669317 (-1) 1 := gB_cmp hz669317
                refine G_if_gt 177 dr_cX14_word_159 (by decide +kernel) (fun hc669318 => ?_) (fun hc669318 => ?_)
                · have r669319 : 0 < z669317.toInt := gj_ltL hc669318 (show Int32.toInt 0 = 0 by decide)
                  have bz669317' : gB z669317 1 1 := ⟨by omega, by omega⟩
                  have lhc669318 := gC_cmpS hz669317 (by omega)
                  exact G_vretA dr_cX14_word_177 rfl (show 0 ≤ ((16 * (p666957.toInt - p666958.toInt)).toNat) by omega) (show 0 ≤ ((160 * (p666957.toInt - p666958.toInt)).toNat) by omega) ⟨P666953, F669311, g669269, 6, z669310, qo666963, (0, fun _ => 0), rfl, rfl, (rSub_rf (P := P666953)), hfr669316, he669315, he669314, (by omega), (by omega), (gB_w bg669269' (by decide) (by decide)), (gB_w (gBl (show Int32.toInt 6 = 6 by decide)) (by decide) (by decide)), (by have qa0 : Int32.toInt 6 = 6 := (by decide); omega), (by have qa0 : Int32.toInt 6 = 6 := (by decide); omega), (tP_no (by decide) (by decide)), (vP_no (by decide) (by decide)), (fun R c1 c2 c3 c4 c5 c6 => c3 z666977 z669103 z669107 o669113 gl669268 g669269 z669310 z669317 hz666977 bz666977 r669102 ez669103 r669106 hz669107 bz669107 bo669113 ht669115 r669118 hx669309 hz669310 hz669317 r669319)⟩
                · have r669320 : z669317.toInt ≤ 0 := gj_nltL hc669318 (show Int32.toInt 0 = 0 by decide)
                  have bz669317' : gB z669317 (-1) 0 := ⟨by omega, by omega⟩
                  refine G_aload_n 2 dr_cX14_word_162 rfl ?_
                  refine G_iload_n 1 dr_cX14_word_163 rfl ?_
                  refine G_bipush 118 dr_cX14_word_164 (by decide +kernel) ?_
                  refine G_icmp_ne 173 dr_cX14_word_166 (by decide +kernel) (fun hc => absurd (show False by have := gj_neq hc (show Int32.toInt 118 = 118 by decide); omega) not_false) (fun _ => ?_)
                  refine G_iconst 2 dr_cX14_word_169 (by decide +kernel) ?_
                  refine G_goto 174 dr_cX14_word_170 (by decide +kernel) ?_
                  refine Gp_put 3 hmq666955 he669315 dr_cX14_word_174 (gk_X14 D I) (Nat.le_of_ble_eq_true rfl) wr_9_39 rfl rfl rfl (Nat.le_of_ble_eq_true rfl) (fun F669321 e669322 n669323 => ?_)
                  have he669324 : F669321 q666956 = .inl (I .byte, 8192, .inl f666970) := (n669323 q666956 (rn_ao he669314 he669315)).trans he669314
                  have he669325 : F669321 q666955 = .inr (19, [.ref q666956, .int p666957, .int g669269, .int 2, .int p666960, .int z669310, .int p666962, .ref qo666963, .int p666964, .int p666965, .int p666966, .ref qo666967, .ref qo666968, .int p666969]) := e669322
                  have hfr669326 : rFr [q666955] P666953 F666954 F669321 := rFr_put' List.mem_cons_self hfr669316 n669323
                  exact G_vretA dr_cX14_word_177 rfl (show 0 ≤ ((16 * (p666957.toInt - p666958.toInt)).toNat) by omega) (show 0 ≤ ((160 * (p666957.toInt - p666958.toInt)).toNat) by omega) ⟨P666953, F669321, g669269, 2, z669310, qo666963, (0, fun _ => 0), rfl, rfl, (rSub_rf (P := P666953)), hfr669326, he669325, he669324, (by omega), (by omega), (gB_w bg669269' (by decide) (by decide)), (gB_w (gBl (show Int32.toInt 2 = 2 by decide)) (by decide) (by decide)), (by have qa0 : Int32.toInt 2 = 2 := (by decide); omega), (by have qa0 : Int32.toInt 2 = 2 := (by decide); omega), (tP_no (by decide) (by decide)), (vP_r (by assumption) (by assumption) (by assumption) (by omega)), (fun R c1 c2 c3 c4 c5 c6 => c4 z666977 z669103 z669107 o669113 gl669268 g669269 z669310 z669317 hz666977 bz666977 r669102 ez669103 r669106 hz669107 bz669107 bo669113 ht669115 r669118 hx669309 hz669310 hz669317 r669320)⟩
              · have r669327 : o669304.toInt ≠ 0 := gj_neq hc669307 (show Int32.toInt 0 = 0 by decide)
                have bo669304' : gB o669304 1 1 := ⟨by omega, by omega⟩
                have bi669328 : gB z669298 48 57 := isP_1 x669305 (by omega)
                refine G_lload_n 0 dr_cX14_word_96 rfl ?_
                refine G_ldc2 10 dr_cX14_word_97 wr_7_229 ?_
                refine G_lmul dr_cX14_word_100 (G_namL fun u669329 hu669329 => ?_)
                refine G_aload_n 2 dr_cX14_word_101 rfl ?_
                refine Gp_get 0 hmq666955 he669271 dr_cX14_word_102 (gk_X14 D I) (Nat.le_of_ble_eq_true rfl) wr_9_36 rfl ?_
                refine G_aload_n 2 dr_cX14_word_105 rfl ?_
                refine Gp_get 2 hmq666955 he669271 dr_cX14_word_106 (gk_X14 D I) (Nat.le_of_ble_eq_true rfl) wr_9_38 rfl ?_
                refine Gp_bald 1 hmq666956 he669272 dr_cX14_word_109 rfl (gB_in bg669269' (by decide) (by decide)) (G_eqi (y := z669298) hz669298.symm ?_)
                refine G_i2l dr_cX14_word_110 (G_namL fun u669330 hu669330 => ?_)
                refine G_ladd dr_cX14_word_111 (G_namL fun u669331 hu669331 => ?_)
                refine G_ldc2 48 dr_cX14_word_112 wr_7_230 ?_
                refine G_lsub dr_cX14_word_115 (G_namL fun u669332 hu669332 => ?_)
                refine G_ldc2 1000000 dr_cX14_word_116 wr_7_231 ?_
                refine Gw_callS (As := [.long u669332, .long 1000000]) (gV_ok D I) (cp_665424_Math_min l hl0 D I P666953 F669270 u669332 1000000 ) dr_cX14_word_119 ⟨wr_7_232, wr_1_6, wr_3_40, by decide, rfl, (Nat.le_of_ble_eq_true rfl), (Nat.le_of_ble_eq_true rfl)⟩ wr_3_39 (show 0 + 0 ≤ ((16 * (p666957.toInt - p666958.toInt)).toNat) by first | omega | decide) (show 0 + 0 ≤ ((160 * (p666957.toInt - p666958.toInt)).toNat) by first | omega | decide) (Nat.le_of_ble_eq_true rfl) (fun r669336 w669337 dc669333 ds669334 hp669335 => ?_) (fun _ _ _ _ _ z => z.elim)
                obtain ⟨ol669338, rfl, rfl, hdc, hds, x669339, ht669340⟩ := hp669335
                change G _ _ _ _ _ _ _ (.long ol669338 :: _) _ _ _
                refine G_widen (cs' := 0) (sl' := 0) (by omega) (by omega) ?_
                refine G_lstore_n (L' := [(2, .long ol669338), (1, .int z666977), (0, .ref q666955)]) dr_cX14_word_122 (Nat.le_of_ble_eq_true rfl) rfl ?_
                refine G_aload_n 2 dr_cX14_word_123 rfl ?_
                refine G_dup dr_cX14_word_124 rfl ?_
                refine Gp_get 2 hmq666955 he669271 dr_cX14_word_125 (gk_X14 D I) (Nat.le_of_ble_eq_true rfl) wr_9_38 rfl ?_
                refine G_iconst 1 dr_cX14_word_128 (by decide +kernel) ?_
                refine G_iadd dr_cX14_word_129 (G_nam fun z669341 hz669341 => ?_)
                have ez669341 : z669341.toInt = g669269.toInt + 1 := by rw [gI_add hz669341 bg669269' (gBl (show Int32.toInt 1 = 1 by decide)) (by decide) (by decide), show Int32.toInt 1 = 1 from by decide]
                have bz669341 : gB z669341 1 8192 := gB_add (gI_add hz669341 bg669269' (gBl (show Int32.toInt 1 = 1 by decide)) (by decide) (by decide)) bg669269' (gBl (show Int32.toInt 1 = 1 by decide)) (by decide) (by decide)
                refine Gp_put 2 hmq666955 he669271 dr_cX14_word_130 (gk_X14 D I) (Nat.le_of_ble_eq_true rfl) wr_9_38 rfl rfl rfl (Nat.le_of_ble_eq_true rfl) (fun F669342 e669343 n669344 => ?_)
                have he669345 : F669342 q666956 = .inl (I .byte, 8192, .inl f666970) := (n669344 q666956 (rn_ao he669272 he669271)).trans he669272
                have he669346 : F669342 q666955 = .inr (19, [.ref q666956, .int p666957, .int z669341, .int 6, .int p666960, .int p666961, .int p666962, .ref qo666963, .int p666964, .int p666965, .int p666966, .ref qo666967, .ref qo666968, .int p666969]) := e669343
                have hfr669347 : rFr [q666955] P666953 F666954 F669342 := rFr_put' List.mem_cons_self hfr669273 n669344
                refine G_goto 70 dr_cX14_word_133 (by decide +kernel) ?_
                exact ih70_669276 F669342 ol669338 z669341 (gB_w bz669341 (by decide) (by decide)) hfr669347 he669346 he669345 (lgSt (by assumption) (by assumption) (by assumption) (by assumption) (by assumption) (by assumption) (by omega) (by omega)) (by have qa0 : Int32.toInt 6 = 6 := (by decide); omega) (by have qa0 : Int32.toInt 6 = 6 := (by decide); omega) (fun k e1 e2 ht => kt70_669276 k e1 e2 (fun R c1 c2 c3 => c3 gl669268 g669269 z669298 o669304 u669329 u669330 u669331 u669332 ol669338 z669341 k e1 e2 bg669269 r669297 hz669298 bz669298 bo669304 ht669306 r669327 hu669329 hu669330 hu669331 hu669332 ht669340 ez669341 (ht R c1 c2 c3))) (by have qa0 : Int32.toInt 6 = 6 := (by decide); omega)
        exact hlp70_669276 (((8193 : Int) - z669103.toInt).toNat + 1) F669120 0 z669103 (gB_w bz669103' (by decide) (by decide)) hfr669125 he669124 he669123 LG_0 (by have qa0 : Int32.toInt 6 = 6 := (by decide); omega) (by have qa0 : Int32.toInt 6 = 6 := (by decide); omega) (fun k e1 e2 ht => ht) (Nat.lt_succ_self _)
  · have r669348 : z666977.toInt ≠ 118 := gj_neq hc669101 (show Int32.toInt 118 = 118 by decide)
    refine G_iload_n 0 dr_cX14_word_22 rfl ?_
    refine G_bipush 98 dr_cX14_word_23 (by decide +kernel) ?_
    refine G_icmp_ne 178 dr_cX14_word_25 (by decide +kernel) (fun hc669349 => ?_) (fun hc669349 => ?_)
    · have r669350 : z666977.toInt ≠ 98 := gj_neq hc669349 (show Int32.toInt 98 = 98 by decide)
      refine G_lv (L' := [(1, .int z666977), (0, .ref q666955)]) [0, 1] rfl ?_
      exact jn666984 (Or.inr (Or.inr (Or.inl ⟨r669348, r669350⟩)))
    · have r669351 : z666977.toInt = 98 := gj_eq hc669349 (show Int32.toInt 98 = 98 by decide)
      have bz666977' : gB z666977 98 98 := ⟨by omega, by omega⟩
      refine G_aload_n 1 dr_cX14_word_28 rfl ?_
      refine Gp_get 2 hmq666955 he666982 dr_cX14_word_29 (gk_X14 D I) (Nat.le_of_ble_eq_true rfl) wr_9_38 rfl ?_
      refine G_iconst 1 dr_cX14_word_32 (by decide +kernel) ?_
      refine G_iadd dr_cX14_word_33 (G_nam fun z669352 hz669352 => ?_)
      have ez669352 : z669352.toInt = p666958.toInt + 1 := by rw [gI_add hz669352 bp666958 (gBl (show Int32.toInt 1 = 1 by decide)) (by decide) (by decide), show Int32.toInt 1 = 1 from by decide]
      have bz669352 : gB z669352 1 8193 := gB_add (gI_add hz669352 bp666958 (gBl (show Int32.toInt 1 = 1 by decide)) (by decide) (by decide)) bp666958 (gBl (show Int32.toInt 1 = 1 by decide)) (by decide) (by decide)
      refine G_aload_n 1 dr_cX14_word_34 rfl ?_
      refine Gp_get 1 hmq666955 he666982 dr_cX14_word_35 (gk_X14 D I) (Nat.le_of_ble_eq_true rfl) wr_9_37 rfl ?_
      refine G_icmp_ge 178 dr_cX14_word_38 (by decide +kernel) (fun hc669353 => ?_) (fun hc669353 => ?_)
      · have r669354 : p666957.toInt ≤ z669352.toInt := gC_le hc669353
        refine G_lv (L' := [(1, .int z666977), (0, .ref q666955)]) [0, 1] rfl ?_
        exact jn666984 (Or.inr (Or.inr (Or.inr (Or.inl ⟨z669352, r669348, r669351, ez669352, r669354⟩))))
      · have r669355 : z669352.toInt < p666957.toInt := gC_nle hc669353
        have bz669352' : gB z669352 1 8191 := ⟨by omega, by omega⟩
        have bp666957' : gB p666957 2 8192 := ⟨by omega, by omega⟩
        refine G_aload_n 1 dr_cX14_word_41 rfl ?_
        refine Gp_get 0 hmq666955 he666982 dr_cX14_word_42 (gk_X14 D I) (Nat.le_of_ble_eq_true rfl) wr_9_36 rfl ?_
        refine G_aload_n 1 dr_cX14_word_45 rfl ?_
        refine Gp_get 2 hmq666955 he666982 dr_cX14_word_46 (gk_X14 D I) (Nat.le_of_ble_eq_true rfl) wr_9_38 rfl ?_
        refine G_iconst 1 dr_cX14_word_49 (by decide +kernel) ?_
        refine G_iadd dr_cX14_word_50 (G_eqi (y := z669352) hz669352.symm ?_)
        refine Gp_bald 1 hmq666956 he666981 dr_cX14_word_51 rfl (gB_in bz669352' (by decide) (by decide)) (G_nam fun z669356 hz669356 => ?_)
        have bz669356 : gB z669356 (-128) 127 := by rw [hz669356]; exact bf666970 _
        refine Gw_callS (As := [.int z669356]) (gV_ok D I) (cp_665370_Reader_isDigit l hl0 D I P666953 F666978 z669356 ) dr_cX14_word_52 ⟨wr_7_219, wr_1_32, wr_7_221, by decide, rfl, (Nat.le_of_ble_eq_true rfl), (Nat.le_of_ble_eq_true rfl)⟩ wr_7_220 (show 0 + 0 ≤ ((16 * (p666957.toInt - p666958.toInt)).toNat) by first | omega | decide) (show 0 + 0 ≤ ((160 * (p666957.toInt - p666958.toInt)).toNat) by first | omega | decide) (Nat.le_of_ble_eq_true rfl) (fun r669360 w669361 dc669357 ds669358 hp669359 => ?_) (fun _ _ _ _ _ z => z.elim)
        obtain ⟨o669362, rfl, rfl, hdc, hds, bo669362, x669363, ht669364⟩ := hp669359
        change G _ _ _ _ _ _ _ (.int o669362 :: _) _ _ _
        refine G_widen (cs' := 0) (sl' := 0) (by omega) (by omega) ?_
        refine G_if_eq 178 dr_cX14_word_55 (by decide +kernel) (fun hc669365 => ?_) (fun hc669365 => ?_)
        · have r669366 : o669362.toInt = 0 := gj_eq hc669365 (show Int32.toInt 0 = 0 by decide)
          have bo669362' : gB o669362 0 0 := ⟨by omega, by omega⟩
          refine G_lv (L' := [(1, .int z666977), (0, .ref q666955)]) [0, 1] rfl ?_
          exact jn666984 (Or.inr (Or.inr (Or.inr (Or.inr (⟨z669352, z669356, o669362, r669348, r669351, ez669352, r669355, hz669356, bz669356, bo669362, ht669364, r669366⟩)))))
        · have r669367 : o669362.toInt ≠ 0 := gj_neq hc669365 (show Int32.toInt 0 = 0 by decide)
          have bo669362' : gB o669362 1 1 := ⟨by omega, by omega⟩
          have bi669368 : gB z669356 48 57 := isP_1 x669363 (by omega)
          refine G_lconst 0 dr_cX14_word_58 rfl ?_
          refine G_lstore_n (L' := [(2, .long 0), (1, .int z666977), (0, .ref q666955)]) dr_cX14_word_59 (Nat.le_of_ble_eq_true rfl) rfl ?_
          refine G_aload_n 2 dr_cX14_word_60 rfl ?_
          refine G_dup dr_cX14_word_61 rfl ?_
          refine Gp_get 2 hmq666955 he666982 dr_cX14_word_62 (gk_X14 D I) (Nat.le_of_ble_eq_true rfl) wr_9_38 rfl ?_
          refine G_iconst 1 dr_cX14_word_65 (by decide +kernel) ?_
          refine G_iadd dr_cX14_word_66 (G_eqi (y := z669352) hz669352.symm ?_)
          refine Gp_put 2 hmq666955 he666982 dr_cX14_word_67 (gk_X14 D I) (Nat.le_of_ble_eq_true rfl) wr_9_38 rfl rfl rfl (Nat.le_of_ble_eq_true rfl) (fun F669369 e669370 n669371 => ?_)
          have he669372 : F669369 q666956 = .inl (I .byte, 8192, .inl f666970) := (n669371 q666956 (rn_ao he666981 he666982)).trans he666981
          have he669373 : F669369 q666955 = .inr (19, [.ref q666956, .int p666957, .int z669352, .int 6, .int p666960, .int p666961, .int p666962, .ref qo666963, .int p666964, .int p666965, .int p666966, .ref qo666967, .ref qo666968, .int p666969]) := e669370
          have hfr669374 : rFr [q666955] P666953 F666954 F669369 := rFr_put' List.mem_cons_self hfr666983 n669371
          have hlp70_669525 : ∀ (n70_669525 : Nat) (F669519 : Nat → va_E) (gl669517 : Int64) (g669518 : Int32), gB g669518 0 8192 → rFr [q666955] P666953 F666954 F669519 → F669519 q666955 = .inr (19, [.ref q666956, .int p666957, .int g669518, .int 6, .int p666960, .int p666961, .int p666962, .ref qo666963, .int p666964, .int p666965, .int p666966, .ref qo666967, .ref qo666968, .int p666969]) → F669519 q666956 = .inl (I .byte, 8192, .inl f666970) → LG gl669517 0 1000000 → p666958.toInt < g669518.toInt → g669518.toInt ≤ p666957.toInt → (∀ (k : Nat) (e1 : Int64) (e2 : Int32), tl_RReader_word_70_2 p666957 f666970 gl669517 g669518 k e1 e2 → tl_RReader_word_70_2 p666957 f666970 (0 : Int64) z669352 k e1 e2) → ((8193 : Int) - g669518.toInt).toNat < n70_669525 → G (gV D I) l (gRm 6 132 ((16 * (p666957.toInt - p666958.toInt)).toNat) ((160 * (p666957.toInt - p666958.toInt)).toNat)) (gMA (gV D I) (pp_666976_Reader_word D I P666953 F666954 q666955 q666956 p666957 p666958 p666959 p666960 p666961 p666962 qo666963 p666964 p666965 p666966 qo666967 qo666968 p666969 f666970) gNA ((16 * (p666957.toInt - p666958.toInt)).toNat) ((160 * (p666957.toInt - p666958.toInt)).toNat)) ky_666976_Reader_word 70 [(2, .long gl669517), (1, .int z666977), (0, .ref q666955)] [] (va_pl P666953 F669519) 0 0 := by
            intro n70_669525
            induction n70_669525 with
            | zero => intro F669519 gl669517 g669518 bg669518 hfr669522 he669520 he669521 x669523 x669524 x669525 kt70_669525 hm70_669525; exact absurd hm70_669525 (Nat.not_lt_zero _)
            | succ n70_669525 ih70_669525 =>
              intro F669519 gl669517 g669518 bg669518 hfr669522 he669520 he669521 x669523 x669524 x669525 kt70_669525 hm70_669525
              refine G_aload_n 2 dr_cX14_word_70 rfl ?_
              refine Gp_get 2 hmq666955 he669520 dr_cX14_word_71 (gk_X14 D I) (Nat.le_of_ble_eq_true rfl) wr_9_38 rfl ?_
              refine G_aload_n 2 dr_cX14_word_74 rfl ?_
              refine Gp_get 1 hmq666955 he669520 dr_cX14_word_75 (gk_X14 D I) (Nat.le_of_ble_eq_true rfl) wr_9_37 rfl ?_
              refine G_icmp_ge 136 dr_cX14_word_78 (by decide +kernel) (fun hc669526 => ?_) (fun hc669526 => ?_)
              · have r669527 : p666957.toInt ≤ g669518.toInt := gC_le hc669526
                have bg669518' : gB g669518 2 8192 := ⟨by omega, by omega⟩
                have hx669528 : tl_RReader_word_70_2 p666957 f666970 (0 : Int64) z669352 136 gl669517 g669518 := kt70_669525 136 gl669517 g669518 (fun R c1 c2 c3 => c1 gl669517 g669518 bg669518 r669527)
                clear he666981 he666982 hfr666983 jn666984 bz669352 bo669362' he669372 he669373 hfr669374; try clear r669360; try clear w669361; try clear dc669357; try clear ds669358; try clear hp669359; try clear x669363
                refine G_aload_n 2 dr_cX14_word_136 rfl ?_
                refine G_lload_n 0 dr_cX14_word_137 rfl ?_
                refine G_l2i dr_cX14_word_138 (G_nam fun z669529 hz669529 => ?_)
                have bz669529 : gB z669529 (-2147483648) 2147483647 := gB_any z669529
                refine Gp_put 5 hmq666955 he669520 dr_cX14_word_139 (gk_X14 D I) (Nat.le_of_ble_eq_true rfl) wr_9_41 rfl rfl rfl (Nat.le_of_ble_eq_true rfl) (fun F669530 e669531 n669532 => ?_)
                have he669533 : F669530 q666956 = .inl (I .byte, 8192, .inl f666970) := (n669532 q666956 (rn_ao he669521 he669520)).trans he669521
                have he669534 : F669530 q666955 = .inr (19, [.ref q666956, .int p666957, .int g669518, .int 6, .int p666960, .int z669529, .int p666962, .ref qo666963, .int p666964, .int p666965, .int p666966, .ref qo666967, .ref qo666968, .int p666969]) := e669531
                have hfr669535 : rFr [q666955] P666953 F666954 F669530 := rFr_put' List.mem_cons_self hfr669522 n669532
                refine G_lload_n 0 dr_cX14_word_142 rfl ?_
                refine G_iload_n 1 dr_cX14_word_143 rfl ?_
                refine G_bipush 118 dr_cX14_word_144 (by decide +kernel) ?_
                refine G_icmp_ne 155 dr_cX14_word_146 (by decide +kernel) (fun _ => ?_) (fun hc => absurd (show False by have := gj_eq hc (show Int32.toInt 118 = 118 by decide); omega) not_false)
                refine G_ldc2 39 dr_cX14_word_155 wr_7_234 ?_
                refine G_lcmp dr_cX14_word_158 (G_nam fun z669536 hz669536 => ?_)
                have bz669536 : gB z669536 (-1) 1 := gB_cmp hz669536
                refine G_if_gt 177 dr_cX14_word_159 (by decide +kernel) (fun hc669537 => ?_) (fun hc669537 => ?_)
                · have r669538 : 0 < z669536.toInt := gj_ltL hc669537 (show Int32.toInt 0 = 0 by decide)
                  have bz669536' : gB z669536 1 1 := ⟨by omega, by omega⟩
                  have lhc669537 := gC_cmpS hz669536 (by omega)
                  exact G_vretA dr_cX14_word_177 rfl (show 0 ≤ ((16 * (p666957.toInt - p666958.toInt)).toNat) by omega) (show 0 ≤ ((160 * (p666957.toInt - p666958.toInt)).toNat) by omega) ⟨P666953, F669530, g669518, 6, z669529, qo666963, (0, fun _ => 0), rfl, rfl, (rSub_rf (P := P666953)), hfr669535, he669534, he669533, (by omega), (by omega), (gB_w bg669518' (by decide) (by decide)), (gB_w (gBl (show Int32.toInt 6 = 6 by decide)) (by decide) (by decide)), (by have qa0 : Int32.toInt 6 = 6 := (by decide); omega), (by have qa0 : Int32.toInt 6 = 6 := (by decide); omega), (tP_no (by decide) (by decide)), (vP_no (by decide) (by decide)), (fun R c1 c2 c3 c4 c5 c6 => c5 z666977 z669352 z669356 o669362 gl669517 g669518 z669529 z669536 hz666977 bz666977 r669348 r669351 ez669352 r669355 hz669356 bz669356 bo669362 ht669364 r669367 hx669528 hz669529 hz669536 r669538)⟩
                · have r669539 : z669536.toInt ≤ 0 := gj_nltL hc669537 (show Int32.toInt 0 = 0 by decide)
                  have bz669536' : gB z669536 (-1) 0 := ⟨by omega, by omega⟩
                  refine G_aload_n 2 dr_cX14_word_162 rfl ?_
                  refine G_iload_n 1 dr_cX14_word_163 rfl ?_
                  refine G_bipush 118 dr_cX14_word_164 (by decide +kernel) ?_
                  refine G_icmp_ne 173 dr_cX14_word_166 (by decide +kernel) (fun _ => ?_) (fun hc => absurd (show False by have := gj_eq hc (show Int32.toInt 118 = 118 by decide); omega) not_false)
                  refine G_iconst 3 dr_cX14_word_173 (by decide +kernel) ?_
                  refine Gp_put 3 hmq666955 he669534 dr_cX14_word_174 (gk_X14 D I) (Nat.le_of_ble_eq_true rfl) wr_9_39 rfl rfl rfl (Nat.le_of_ble_eq_true rfl) (fun F669540 e669541 n669542 => ?_)
                  have he669543 : F669540 q666956 = .inl (I .byte, 8192, .inl f666970) := (n669542 q666956 (rn_ao he669533 he669534)).trans he669533
                  have he669544 : F669540 q666955 = .inr (19, [.ref q666956, .int p666957, .int g669518, .int 3, .int p666960, .int z669529, .int p666962, .ref qo666963, .int p666964, .int p666965, .int p666966, .ref qo666967, .ref qo666968, .int p666969]) := e669541
                  have hfr669545 : rFr [q666955] P666953 F666954 F669540 := rFr_put' List.mem_cons_self hfr669535 n669542
                  exact G_vretA dr_cX14_word_177 rfl (show 0 ≤ ((16 * (p666957.toInt - p666958.toInt)).toNat) by omega) (show 0 ≤ ((160 * (p666957.toInt - p666958.toInt)).toNat) by omega) ⟨P666953, F669540, g669518, 3, z669529, qo666963, (0, fun _ => 0), rfl, rfl, (rSub_rf (P := P666953)), hfr669545, he669544, he669543, (by omega), (by omega), (gB_w bg669518' (by decide) (by decide)), (gB_w (gBl (show Int32.toInt 3 = 3 by decide)) (by decide) (by decide)), (by have qa0 : Int32.toInt 3 = 3 := (by decide); omega), (by have qa0 : Int32.toInt 3 = 3 := (by decide); omega), (tP_no (by decide) (by decide)), (vP_b (by assumption) (by assumption) (by assumption) (by omega)), (fun R c1 c2 c3 c4 c5 c6 => c6 z666977 z669352 z669356 o669362 gl669517 g669518 z669529 z669536 hz666977 bz666977 r669348 r669351 ez669352 r669355 hz669356 bz669356 bo669362 ht669364 r669367 hx669528 hz669529 hz669536 r669539)⟩
              · have r669546 : g669518.toInt < p666957.toInt := gC_nle hc669526
                have bg669518' : gB g669518 0 8191 := ⟨by omega, by omega⟩
                refine G_aload_n 2 dr_cX14_word_81 rfl ?_
                refine Gp_get 0 hmq666955 he669520 dr_cX14_word_82 (gk_X14 D I) (Nat.le_of_ble_eq_true rfl) wr_9_36 rfl ?_
                refine G_aload_n 2 dr_cX14_word_85 rfl ?_
                refine Gp_get 2 hmq666955 he669520 dr_cX14_word_86 (gk_X14 D I) (Nat.le_of_ble_eq_true rfl) wr_9_38 rfl ?_
                refine Gp_bald 1 hmq666956 he669521 dr_cX14_word_89 rfl (gB_in bg669518' (by decide) (by decide)) (G_nam fun z669547 hz669547 => ?_)
                have bz669547 : gB z669547 (-128) 127 := by rw [hz669547]; exact bf666970 _
                refine Gw_callS (As := [.int z669547]) (gV_ok D I) (cp_665370_Reader_isDigit l hl0 D I P666953 F669519 z669547 ) dr_cX14_word_90 ⟨wr_7_219, wr_1_32, wr_7_221, by decide, rfl, (Nat.le_of_ble_eq_true rfl), (Nat.le_of_ble_eq_true rfl)⟩ wr_7_220 (show 0 + 0 ≤ ((16 * (p666957.toInt - p666958.toInt)).toNat) by first | omega | decide) (show 0 + 0 ≤ ((160 * (p666957.toInt - p666958.toInt)).toNat) by first | omega | decide) (Nat.le_of_ble_eq_true rfl) (fun r669551 w669552 dc669548 ds669549 hp669550 => ?_) (fun _ _ _ _ _ z => z.elim)
                obtain ⟨o669553, rfl, rfl, hdc, hds, bo669553, x669554, ht669555⟩ := hp669550
                change G _ _ _ _ _ _ _ (.int o669553 :: _) _ _ _
                refine G_widen (cs' := 0) (sl' := 0) (by omega) (by omega) ?_
                refine G_if_eq 136 dr_cX14_word_93 (by decide +kernel) (fun hc669556 => ?_) (fun hc669556 => ?_)
                · have r669557 : o669553.toInt = 0 := gj_eq hc669556 (show Int32.toInt 0 = 0 by decide)
                  have bo669553' : gB o669553 0 0 := ⟨by omega, by omega⟩
                  have hx669558 : tl_RReader_word_70_2 p666957 f666970 (0 : Int64) z669352 136 gl669517 g669518 := kt70_669525 136 gl669517 g669518 (fun R c1 c2 c3 => c2 gl669517 g669518 z669547 o669553 bg669518 r669546 hz669547 bz669547 bo669553 ht669555 r669557)
                  clear he666981 he666982 hfr666983 jn666984 bz669352 bo669362' he669372 he669373 hfr669374 bo669553 ht669555 bo669553'; try clear r669360; try clear w669361; try clear dc669357; try clear ds669358; try clear hp669359; try clear x669363; try clear r669551; try clear w669552; try clear dc669548; try clear ds669549; try clear hp669550; try clear x669554; try clear r669557
                  refine G_aload_n 2 dr_cX14_word_136 rfl ?_
                  refine G_lload_n 0 dr_cX14_word_137 rfl ?_
                  refine G_l2i dr_cX14_word_138 (G_nam fun z669559 hz669559 => ?_)
                  have bz669559 : gB z669559 (-2147483648) 2147483647 := gB_any z669559
                  refine Gp_put 5 hmq666955 he669520 dr_cX14_word_139 (gk_X14 D I) (Nat.le_of_ble_eq_true rfl) wr_9_41 rfl rfl rfl (Nat.le_of_ble_eq_true rfl) (fun F669560 e669561 n669562 => ?_)
                  have he669563 : F669560 q666956 = .inl (I .byte, 8192, .inl f666970) := (n669562 q666956 (rn_ao he669521 he669520)).trans he669521
                  have he669564 : F669560 q666955 = .inr (19, [.ref q666956, .int p666957, .int g669518, .int 6, .int p666960, .int z669559, .int p666962, .ref qo666963, .int p666964, .int p666965, .int p666966, .ref qo666967, .ref qo666968, .int p666969]) := e669561
                  have hfr669565 : rFr [q666955] P666953 F666954 F669560 := rFr_put' List.mem_cons_self hfr669522 n669562
                  refine G_lload_n 0 dr_cX14_word_142 rfl ?_
                  refine G_iload_n 1 dr_cX14_word_143 rfl ?_
                  refine G_bipush 118 dr_cX14_word_144 (by decide +kernel) ?_
                  refine G_icmp_ne 155 dr_cX14_word_146 (by decide +kernel) (fun _ => ?_) (fun hc => absurd (show False by have := gj_eq hc (show Int32.toInt 118 = 118 by decide); omega) not_false)
                  refine G_ldc2 39 dr_cX14_word_155 wr_7_234 ?_
                  refine G_lcmp dr_cX14_word_158 (G_nam fun z669566 hz669566 => ?_)
                  have bz669566 : gB z669566 (-1) 1 := gB_cmp hz669566
                  refine G_if_gt 177 dr_cX14_word_159 (by decide +kernel) (fun hc669567 => ?_) (fun hc669567 => ?_)
                  · have r669568 : 0 < z669566.toInt := gj_ltL hc669567 (show Int32.toInt 0 = 0 by decide)
                    have bz669566' : gB z669566 1 1 := ⟨by omega, by omega⟩
                    have lhc669567 := gC_cmpS hz669566 (by omega)
                    exact G_vretA dr_cX14_word_177 rfl (show 0 ≤ ((16 * (p666957.toInt - p666958.toInt)).toNat) by omega) (show 0 ≤ ((160 * (p666957.toInt - p666958.toInt)).toNat) by omega) ⟨P666953, F669560, g669518, 6, z669559, qo666963, (0, fun _ => 0), rfl, rfl, (rSub_rf (P := P666953)), hfr669565, he669564, he669563, (by omega), (by omega), (gB_w bg669518' (by decide) (by decide)), (gB_w (gBl (show Int32.toInt 6 = 6 by decide)) (by decide) (by decide)), (by have qa0 : Int32.toInt 6 = 6 := (by decide); omega), (by have qa0 : Int32.toInt 6 = 6 := (by decide); omega), (tP_no (by decide) (by decide)), (vP_no (by decide) (by decide)), (fun R c1 c2 c3 c4 c5 c6 => c5 z666977 z669352 z669356 o669362 gl669517 g669518 z669559 z669566 hz666977 bz666977 r669348 r669351 ez669352 r669355 hz669356 bz669356 bo669362 ht669364 r669367 hx669558 hz669559 hz669566 r669568)⟩
                  · have r669569 : z669566.toInt ≤ 0 := gj_nltL hc669567 (show Int32.toInt 0 = 0 by decide)
                    have bz669566' : gB z669566 (-1) 0 := ⟨by omega, by omega⟩
                    refine G_aload_n 2 dr_cX14_word_162 rfl ?_
                    refine G_iload_n 1 dr_cX14_word_163 rfl ?_
                    refine G_bipush 118 dr_cX14_word_164 (by decide +kernel) ?_
                    refine G_icmp_ne 173 dr_cX14_word_166 (by decide +kernel) (fun _ => ?_) (fun hc => absurd (show False by have := gj_eq hc (show Int32.toInt 118 = 118 by decide); omega) not_false)
                    refine G_iconst 3 dr_cX14_word_173 (by decide +kernel) ?_
                    refine Gp_put 3 hmq666955 he669564 dr_cX14_word_174 (gk_X14 D I) (Nat.le_of_ble_eq_true rfl) wr_9_39 rfl rfl rfl (Nat.le_of_ble_eq_true rfl) (fun F669570 e669571 n669572 => ?_)
                    have he669573 : F669570 q666956 = .inl (I .byte, 8192, .inl f666970) := (n669572 q666956 (rn_ao he669563 he669564)).trans he669563
                    have he669574 : F669570 q666955 = .inr (19, [.ref q666956, .int p666957, .int g669518, .int 3, .int p666960, .int z669559, .int p666962, .ref qo666963, .int p666964, .int p666965, .int p666966, .ref qo666967, .ref qo666968, .int p666969]) := e669571
                    have hfr669575 : rFr [q666955] P666953 F666954 F669570 := rFr_put' List.mem_cons_self hfr669565 n669572
                    exact G_vretA dr_cX14_word_177 rfl (show 0 ≤ ((16 * (p666957.toInt - p666958.toInt)).toNat) by omega) (show 0 ≤ ((160 * (p666957.toInt - p666958.toInt)).toNat) by omega) ⟨P666953, F669570, g669518, 3, z669559, qo666963, (0, fun _ => 0), rfl, rfl, (rSub_rf (P := P666953)), hfr669575, he669574, he669573, (by omega), (by omega), (gB_w bg669518' (by decide) (by decide)), (gB_w (gBl (show Int32.toInt 3 = 3 by decide)) (by decide) (by decide)), (by have qa0 : Int32.toInt 3 = 3 := (by decide); omega), (by have qa0 : Int32.toInt 3 = 3 := (by decide); omega), (tP_no (by decide) (by decide)), (vP_b (by assumption) (by assumption) (by assumption) (by omega)), (fun R c1 c2 c3 c4 c5 c6 => c6 z666977 z669352 z669356 o669362 gl669517 g669518 z669559 z669566 hz666977 bz666977 r669348 r669351 ez669352 r669355 hz669356 bz669356 bo669362 ht669364 r669367 hx669558 hz669559 hz669566 r669569)⟩
                · have r669576 : o669553.toInt ≠ 0 := gj_neq hc669556 (show Int32.toInt 0 = 0 by decide)
                  have bo669553' : gB o669553 1 1 := ⟨by omega, by omega⟩
                  have bi669577 : gB z669547 48 57 := isP_1 x669554 (by omega)
                  refine G_lload_n 0 dr_cX14_word_96 rfl ?_
                  refine G_ldc2 10 dr_cX14_word_97 wr_7_229 ?_
                  refine G_lmul dr_cX14_word_100 (G_namL fun u669578 hu669578 => ?_)
                  refine G_aload_n 2 dr_cX14_word_101 rfl ?_
                  refine Gp_get 0 hmq666955 he669520 dr_cX14_word_102 (gk_X14 D I) (Nat.le_of_ble_eq_true rfl) wr_9_36 rfl ?_
                  refine G_aload_n 2 dr_cX14_word_105 rfl ?_
                  refine Gp_get 2 hmq666955 he669520 dr_cX14_word_106 (gk_X14 D I) (Nat.le_of_ble_eq_true rfl) wr_9_38 rfl ?_
                  refine Gp_bald 1 hmq666956 he669521 dr_cX14_word_109 rfl (gB_in bg669518' (by decide) (by decide)) (G_eqi (y := z669547) hz669547.symm ?_)
                  refine G_i2l dr_cX14_word_110 (G_namL fun u669579 hu669579 => ?_)
                  refine G_ladd dr_cX14_word_111 (G_namL fun u669580 hu669580 => ?_)
                  refine G_ldc2 48 dr_cX14_word_112 wr_7_230 ?_
                  refine G_lsub dr_cX14_word_115 (G_namL fun u669581 hu669581 => ?_)
                  refine G_ldc2 1000000 dr_cX14_word_116 wr_7_231 ?_
                  refine Gw_callS (As := [.long u669581, .long 1000000]) (gV_ok D I) (cp_665424_Math_min l hl0 D I P666953 F669519 u669581 1000000 ) dr_cX14_word_119 ⟨wr_7_232, wr_1_6, wr_3_40, by decide, rfl, (Nat.le_of_ble_eq_true rfl), (Nat.le_of_ble_eq_true rfl)⟩ wr_3_39 (show 0 + 0 ≤ ((16 * (p666957.toInt - p666958.toInt)).toNat) by first | omega | decide) (show 0 + 0 ≤ ((160 * (p666957.toInt - p666958.toInt)).toNat) by first | omega | decide) (Nat.le_of_ble_eq_true rfl) (fun r669585 w669586 dc669582 ds669583 hp669584 => ?_) (fun _ _ _ _ _ z => z.elim)
                  obtain ⟨ol669587, rfl, rfl, hdc, hds, x669588, ht669589⟩ := hp669584
                  change G _ _ _ _ _ _ _ (.long ol669587 :: _) _ _ _
                  refine G_widen (cs' := 0) (sl' := 0) (by omega) (by omega) ?_
                  refine G_lstore_n (L' := [(2, .long ol669587), (1, .int z666977), (0, .ref q666955)]) dr_cX14_word_122 (Nat.le_of_ble_eq_true rfl) rfl ?_
                  refine G_aload_n 2 dr_cX14_word_123 rfl ?_
                  refine G_dup dr_cX14_word_124 rfl ?_
                  refine Gp_get 2 hmq666955 he669520 dr_cX14_word_125 (gk_X14 D I) (Nat.le_of_ble_eq_true rfl) wr_9_38 rfl ?_
                  refine G_iconst 1 dr_cX14_word_128 (by decide +kernel) ?_
                  refine G_iadd dr_cX14_word_129 (G_nam fun z669590 hz669590 => ?_)
                  have ez669590 : z669590.toInt = g669518.toInt + 1 := by rw [gI_add hz669590 bg669518' (gBl (show Int32.toInt 1 = 1 by decide)) (by decide) (by decide), show Int32.toInt 1 = 1 from by decide]
                  have bz669590 : gB z669590 1 8192 := gB_add (gI_add hz669590 bg669518' (gBl (show Int32.toInt 1 = 1 by decide)) (by decide) (by decide)) bg669518' (gBl (show Int32.toInt 1 = 1 by decide)) (by decide) (by decide)
                  refine Gp_put 2 hmq666955 he669520 dr_cX14_word_130 (gk_X14 D I) (Nat.le_of_ble_eq_true rfl) wr_9_38 rfl rfl rfl (Nat.le_of_ble_eq_true rfl) (fun F669591 e669592 n669593 => ?_)
                  have he669594 : F669591 q666956 = .inl (I .byte, 8192, .inl f666970) := (n669593 q666956 (rn_ao he669521 he669520)).trans he669521
                  have he669595 : F669591 q666955 = .inr (19, [.ref q666956, .int p666957, .int z669590, .int 6, .int p666960, .int p666961, .int p666962, .ref qo666963, .int p666964, .int p666965, .int p666966, .ref qo666967, .ref qo666968, .int p666969]) := e669592
                  have hfr669596 : rFr [q666955] P666953 F666954 F669591 := rFr_put' List.mem_cons_self hfr669522 n669593
                  refine G_goto 70 dr_cX14_word_133 (by decide +kernel) ?_
                  exact ih70_669525 F669591 ol669587 z669590 (gB_w bz669590 (by decide) (by decide)) hfr669596 he669595 he669594 (lgSt (by assumption) (by assumption) (by assumption) (by assumption) (by assumption) (by assumption) (by omega) (by omega)) (by have qa0 : Int32.toInt 6 = 6 := (by decide); omega) (by have qa0 : Int32.toInt 6 = 6 := (by decide); omega) (fun k e1 e2 ht => kt70_669525 k e1 e2 (fun R c1 c2 c3 => c3 gl669517 g669518 z669547 o669553 u669578 u669579 u669580 u669581 ol669587 z669590 k e1 e2 bg669518 r669546 hz669547 bz669547 bo669553 ht669555 r669576 hu669578 hu669579 hu669580 hu669581 ht669589 ez669590 (ht R c1 c2 c3))) (by have qa0 : Int32.toInt 6 = 6 := (by decide); omega)
          exact hlp70_669525 (((8193 : Int) - z669352.toInt).toNat + 1) F669369 0 z669352 (gB_w bz669352' (by decide) (by decide)) hfr669374 he669373 he669372 LG_0 (by have qa0 : Int32.toInt 6 = 6 := (by decide); omega) (by have qa0 : Int32.toInt 6 = 6 := (by decide); omega) (fun k e1 e2 ht => ht) (Nat.lt_succ_self _)
/- tl_RReader_next_35: a0_at; out: a0_at -/
def tl_RReader_next_35 (a0_n : Int32) (a0_t_v : Nat → Int32) (s1 : Int32) (k : Nat) (e1 : Int32) : Prop := ∀ R : (Int32) → Nat → (Int32) → Prop,
  (∀ (a0_at_2 : Int32), gB a0_at_2 0 8192 → a0_n.toInt ≤ a0_at_2.toInt → R a0_at_2 107 a0_at_2) →
  (∀ (a0_at_2 : Int32) (x1 : Int32), gB a0_at_2 0 8192 → a0_at_2.toInt < a0_n.toInt → x1 = a0_t_v a0_at_2.toNatClampNeg → gB x1 (-128) 127 → x1.toInt = 10 → R a0_at_2 107 a0_at_2) →
  (∀ (a0_at_2 : Int32) (x1 : Int32) (x2 : Int32) (k : Nat) (e1 : Int32), gB a0_at_2 0 8192 → a0_at_2.toInt < a0_n.toInt → x1 = a0_t_v a0_at_2.toNatClampNeg → gB x1 (-128) 127 → x1.toInt ≠ 10 → x2.toInt = a0_at_2.toInt + 1 → R x2 k e1 → R a0_at_2 k e1) →
  R s1 k e1
/- tl_RReader_next_8: a0_at; out: a0_at -/
def tl_RReader_next_8 (a0_n : Int32) (a0_t_v : Nat → Int32) (s1 : Int32) (k : Nat) (e1 : Int32) : Prop := ∀ R : (Int32) → Nat → (Int32) → Prop,
  (∀ (a0_at_1 : Int32), gB a0_at_1 0 8192 → a0_n.toInt ≤ a0_at_1.toInt → R a0_at_1 110 a0_at_1) →
  (∀ (a0_at_1 : Int32) (x1 : Int32) (x2 : Int32) (k : Nat) (e1 : Int32), gB a0_at_1 0 8192 → a0_at_1.toInt < a0_n.toInt → x1 = a0_t_v a0_at_1.toNatClampNeg → gB x1 (-128) 127 → x1.toInt ≠ 59 → x1.toInt = 9 → x2.toInt = a0_at_1.toInt + 1 → R x2 k e1 → R a0_at_1 k e1) →
  (∀ (a0_at_1 : Int32) (x1 : Int32) (x2 : Int32) (k : Nat) (e1 : Int32), gB a0_at_1 0 8192 → a0_at_1.toInt < a0_n.toInt → x1 = a0_t_v a0_at_1.toNatClampNeg → gB x1 (-128) 127 → x1.toInt ≠ 59 → x1.toInt ≠ 9 → x1.toInt = 10 → x2.toInt = a0_at_1.toInt + 1 → R x2 k e1 → R a0_at_1 k e1) →
  (∀ (a0_at_1 : Int32) (x1 : Int32) (x2 : Int32) (k : Nat) (e1 : Int32), gB a0_at_1 0 8192 → a0_at_1.toInt < a0_n.toInt → x1 = a0_t_v a0_at_1.toNatClampNeg → gB x1 (-128) 127 → x1.toInt ≠ 59 → x1.toInt ≠ 9 → x1.toInt ≠ 10 → x1.toInt = 13 → x2.toInt = a0_at_1.toInt + 1 → R x2 k e1 → R a0_at_1 k e1) →
  (∀ (a0_at_1 : Int32) (x1 : Int32), gB a0_at_1 0 8192 → a0_at_1.toInt < a0_n.toInt → x1 = a0_t_v a0_at_1.toNatClampNeg → gB x1 (-128) 127 → x1.toInt ≠ 59 → x1.toInt ≠ 9 → x1.toInt ≠ 10 → x1.toInt ≠ 13 → x1.toInt ≠ 32 → R a0_at_1 110 a0_at_1) →
  (∀ (a0_at_1 : Int32) (x1 : Int32) (x2 : Int32) (k : Nat) (e1 : Int32), gB a0_at_1 0 8192 → a0_at_1.toInt < a0_n.toInt → x1 = a0_t_v a0_at_1.toNatClampNeg → gB x1 (-128) 127 → x1.toInt ≠ 59 → x1.toInt ≠ 9 → x1.toInt ≠ 10 → x1.toInt ≠ 13 → x1.toInt = 32 → x2.toInt = a0_at_1.toInt + 1 → R x2 k e1 → R a0_at_1 k e1) →
  (∀ (a0_at_1 : Int32) (x1 : Int32) (x2 : Int32) (k : Nat) (e1 : Int32), gB a0_at_1 0 8192 → a0_at_1.toInt < a0_n.toInt → x1 = a0_t_v a0_at_1.toNatClampNeg → gB x1 (-128) 127 → x1.toInt = 59 → tl_RReader_next_35 a0_n a0_t_v a0_at_1 107 x2 → R x2 k e1 → R a0_at_1 k e1) →
  R s1 k e1
/- tr_RReader_next: a.0...at, a.0...kind, a.0...place, a.0...value -/
def tr_RReader_next (a0_n : Int32) (a0_at : Int32) (a0_kind : Int32) (a0_value : Int32) (a0_t_v : Nat → Int32) (o1 : Int32) (o2 : Int32) (o3 : Int32) (o4 : Int32) (o5 : gTx) : Prop := ∀ R : (Int32) → (Int32) → (Int32) → (Int32) → (gTx) → Prop,
  (∀ (x1 : Int32) (x2 : Int32) (x3 : Int32) (x4 : Int32) (x5 : gTx) (x6 : Int32) (x7 : Int32) (x8 : Int32), tl_RReader_next_8 a0_n a0_t_v a0_at 110 x1 → x1.toInt ≠ a0_n.toInt → x2 = a0_t_v x1.toNatClampNeg → gB x2 (-128) 127 → (((x2.toInt ≠ 45) ∨ (∃ (y1 : Int32), x2.toInt = 45 ∧ y1.toInt = x1.toInt + 1 ∧ a0_n.toInt ≤ y1.toInt) ∨ (∃ (y1 : Int32) (y2 : Int32) (y3 : Int32), x2.toInt = 45 ∧ y1.toInt = x1.toInt + 1 ∧ y1.toInt < a0_n.toInt ∧ y2 = a0_t_v y1.toNatClampNeg ∧ gB y2 (-128) 127 ∧ gB y3 0 1 ∧ tr_RReader_isDigit2 y2 y3 ∧ y3.toInt = 0) ∨ (∃ (y1 : Int32) (y2 : Int32) (y3 : Int32), x2.toInt = 45 ∧ y1.toInt = x1.toInt + 1 ∧ y1.toInt < a0_n.toInt ∧ y2 = a0_t_v y1.toNatClampNeg ∧ gB y2 (-128) 127 ∧ gB y3 0 1 ∧ tr_RReader_isDigit2 y2 y3 ∧ y3.toInt ≠ 0 ∧ a0_kind.toInt = 2) ∨ (∃ (y1 : Int32) (y2 : Int32) (y3 : Int32), x2.toInt = 45 ∧ y1.toInt = x1.toInt + 1 ∧ y1.toInt < a0_n.toInt ∧ y2 = a0_t_v y1.toNatClampNeg ∧ gB y2 (-128) 127 ∧ gB y3 0 1 ∧ tr_RReader_isDigit2 y2 y3 ∧ y3.toInt ≠ 0 ∧ a0_kind.toInt ≠ 2 ∧ a0_kind.toInt = 4))) → gB x3 0 1 → tr_RReader_isLetter2 x2 x3 → x3.toInt = 0 → gB x4 0 1 → tr_RReader_isDigit2 x2 x4 → x4.toInt ≠ 0 → gB x6 0 8192 → gB x7 4 6 → tr_RReader_number (0 : Int32) a0_n x1 a0_t_v x6 x7 x8 x5 → R x6 x7 x1 x8 x5) →
  (∀ (x1 : Int32) (x2 : Int32) (x3 : Int32) (x4 : Int32) (x5 : gTx) (x6 : Int32) (x7 : Int32), tl_RReader_next_8 a0_n a0_t_v a0_at 110 x1 → x1.toInt ≠ a0_n.toInt → x2 = a0_t_v x1.toNatClampNeg → gB x2 (-128) 127 → (((x2.toInt ≠ 45) ∨ (∃ (y1 : Int32), x2.toInt = 45 ∧ y1.toInt = x1.toInt + 1 ∧ a0_n.toInt ≤ y1.toInt) ∨ (∃ (y1 : Int32) (y2 : Int32) (y3 : Int32), x2.toInt = 45 ∧ y1.toInt = x1.toInt + 1 ∧ y1.toInt < a0_n.toInt ∧ y2 = a0_t_v y1.toNatClampNeg ∧ gB y2 (-128) 127 ∧ gB y3 0 1 ∧ tr_RReader_isDigit2 y2 y3 ∧ y3.toInt = 0) ∨ (∃ (y1 : Int32) (y2 : Int32) (y3 : Int32), x2.toInt = 45 ∧ y1.toInt = x1.toInt + 1 ∧ y1.toInt < a0_n.toInt ∧ y2 = a0_t_v y1.toNatClampNeg ∧ gB y2 (-128) 127 ∧ gB y3 0 1 ∧ tr_RReader_isDigit2 y2 y3 ∧ y3.toInt ≠ 0 ∧ a0_kind.toInt = 2) ∨ (∃ (y1 : Int32) (y2 : Int32) (y3 : Int32), x2.toInt = 45 ∧ y1.toInt = x1.toInt + 1 ∧ y1.toInt < a0_n.toInt ∧ y2 = a0_t_v y1.toNatClampNeg ∧ gB y2 (-128) 127 ∧ gB y3 0 1 ∧ tr_RReader_isDigit2 y2 y3 ∧ y3.toInt ≠ 0 ∧ a0_kind.toInt ≠ 2 ∧ a0_kind.toInt = 4))) → gB x3 0 1 → tr_RReader_isLetter2 x2 x3 → x3.toInt = 0 → gB x4 0 1 → tr_RReader_isDigit2 x2 x4 → x4.toInt = 0 → gB x6 1 8192 → gB x7 5 6 → tr_RReader_symbol x2 a0_n x1 a0_t_v x6 x7 x5 → R x6 x7 x1 a0_value x5) →
  (∀ (x1 : Int32) (x2 : Int32) (x3 : Int32) (x4 : gTx) (x5 : Int32) (x6 : Int32) (x7 : Int32), tl_RReader_next_8 a0_n a0_t_v a0_at 110 x1 → x1.toInt ≠ a0_n.toInt → x2 = a0_t_v x1.toNatClampNeg → gB x2 (-128) 127 → (((x2.toInt ≠ 45) ∨ (∃ (y1 : Int32), x2.toInt = 45 ∧ y1.toInt = x1.toInt + 1 ∧ a0_n.toInt ≤ y1.toInt) ∨ (∃ (y1 : Int32) (y2 : Int32) (y3 : Int32), x2.toInt = 45 ∧ y1.toInt = x1.toInt + 1 ∧ y1.toInt < a0_n.toInt ∧ y2 = a0_t_v y1.toNatClampNeg ∧ gB y2 (-128) 127 ∧ gB y3 0 1 ∧ tr_RReader_isDigit2 y2 y3 ∧ y3.toInt = 0) ∨ (∃ (y1 : Int32) (y2 : Int32) (y3 : Int32), x2.toInt = 45 ∧ y1.toInt = x1.toInt + 1 ∧ y1.toInt < a0_n.toInt ∧ y2 = a0_t_v y1.toNatClampNeg ∧ gB y2 (-128) 127 ∧ gB y3 0 1 ∧ tr_RReader_isDigit2 y2 y3 ∧ y3.toInt ≠ 0 ∧ a0_kind.toInt = 2) ∨ (∃ (y1 : Int32) (y2 : Int32) (y3 : Int32), x2.toInt = 45 ∧ y1.toInt = x1.toInt + 1 ∧ y1.toInt < a0_n.toInt ∧ y2 = a0_t_v y1.toNatClampNeg ∧ gB y2 (-128) 127 ∧ gB y3 0 1 ∧ tr_RReader_isDigit2 y2 y3 ∧ y3.toInt ≠ 0 ∧ a0_kind.toInt ≠ 2 ∧ a0_kind.toInt = 4))) → gB x3 0 1 → tr_RReader_isLetter2 x2 x3 → x3.toInt ≠ 0 → gB x5 0 8192 → gB x6 1 6 → tr_RReader_word a0_n x1 a0_value a0_t_v x5 x6 x7 x4 → R x5 x6 x1 x7 x4) →
  (∀ (x1 : Int32) (x2 : Int32) (x3 : Int32) (x4 : Int32) (x5 : Int32) (x6 : Int32) (x7 : Int32) (x8 : gTx) (x9 : Int32) (x10 : Int32) (x11 : Int32), tl_RReader_next_8 a0_n a0_t_v a0_at 110 x1 → x1.toInt ≠ a0_n.toInt → x2 = a0_t_v x1.toNatClampNeg → gB x2 (-128) 127 → x2.toInt = 45 → x3.toInt = x1.toInt + 1 → x3.toInt < a0_n.toInt → x4 = a0_t_v x3.toNatClampNeg → gB x4 (-128) 127 → gB x5 0 1 → tr_RReader_isDigit2 x4 x5 → x5.toInt ≠ 0 → a0_kind.toInt ≠ 2 → a0_kind.toInt ≠ 4 → gB x6 0 1 → tr_RReader_isLetter2 x2 x6 → x6.toInt = 0 → gB x7 0 1 → tr_RReader_isDigit2 x2 x7 → x7.toInt ≠ 0 → gB x9 0 8192 → gB x10 4 6 → tr_RReader_number (1 : Int32) a0_n x1 a0_t_v x9 x10 x11 x8 → R x9 x10 x1 x11 x8) →
  (∀ (x1 : Int32) (x2 : Int32) (x3 : Int32) (x4 : Int32) (x5 : Int32) (x6 : Int32) (x7 : Int32) (x8 : gTx) (x9 : Int32) (x10 : Int32) (x11 : Int32), tl_RReader_next_8 a0_n a0_t_v a0_at 110 x1 → x1.toInt ≠ a0_n.toInt → x2 = a0_t_v x1.toNatClampNeg → gB x2 (-128) 127 → x2.toInt = 45 → x3.toInt = x1.toInt + 1 → x3.toInt < a0_n.toInt → x4 = a0_t_v x3.toNatClampNeg → gB x4 (-128) 127 → gB x5 0 1 → tr_RReader_isDigit2 x4 x5 → x5.toInt ≠ 0 → a0_kind.toInt ≠ 2 → a0_kind.toInt ≠ 4 → gB x6 0 1 → tr_RReader_isLetter2 x2 x6 → x6.toInt = 0 → gB x7 0 1 → tr_RReader_isDigit2 x2 x7 → x7.toInt = 0 → gB x9 0 8192 → gB x10 4 6 → tr_RReader_number (1 : Int32) a0_n x1 a0_t_v x9 x10 x11 x8 → R x9 x10 x1 x11 x8) →
  (∀ (x1 : Int32) (x2 : Int32) (x3 : Int32) (x4 : Int32) (x5 : Int32) (x6 : Int32) (x7 : gTx) (x8 : Int32) (x9 : Int32) (x10 : Int32), tl_RReader_next_8 a0_n a0_t_v a0_at 110 x1 → x1.toInt ≠ a0_n.toInt → x2 = a0_t_v x1.toNatClampNeg → gB x2 (-128) 127 → x2.toInt = 45 → x3.toInt = x1.toInt + 1 → x3.toInt < a0_n.toInt → x4 = a0_t_v x3.toNatClampNeg → gB x4 (-128) 127 → gB x5 0 1 → tr_RReader_isDigit2 x4 x5 → x5.toInt ≠ 0 → a0_kind.toInt ≠ 2 → a0_kind.toInt ≠ 4 → gB x6 0 1 → tr_RReader_isLetter2 x2 x6 → x6.toInt ≠ 0 → gB x8 0 8192 → gB x9 1 6 → tr_RReader_word a0_n x1 a0_value a0_t_v x8 x9 x10 x7 → R x8 x9 x1 x10 x7) →
  (∀ (x1 : Int32), tl_RReader_next_8 a0_n a0_t_v a0_at 110 x1 → x1.toInt = a0_n.toInt → R x1 (0 : Int32) x1 a0_value (0, fun _ => 0)) →
  (∀ (x1 : Int32) (x2 : Int32) (x3 : Int32) (x4 : Int32) (x5 : gTx) (x6 : Int32) (x7 : Int32) (x8 : Int32), tl_RReader_next_8 a0_n a0_t_v a0_at 110 x1 → x1.toInt ≠ a0_n.toInt → x2 = a0_t_v x1.toNatClampNeg → (((x2.toInt ≠ 45) ∨ (∃ (y1 : Int32), x2.toInt = 45 ∧ y1.toInt = x1.toInt + 1 ∧ a0_n.toInt ≤ y1.toInt) ∨ (∃ (y1 : Int32) (y2 : Int32) (y3 : Int32), x2.toInt = 45 ∧ y1.toInt = x1.toInt + 1 ∧ y1.toInt < a0_n.toInt ∧ y2 = a0_t_v y1.toNatClampNeg ∧ gB y2 (-128) 127 ∧ gB y3 0 1 ∧ tr_RReader_isDigit2 y2 y3 ∧ y3.toInt = 0) ∨ (∃ (y1 : Int32) (y2 : Int32) (y3 : Int32), x2.toInt = 45 ∧ y1.toInt = x1.toInt + 1 ∧ y1.toInt < a0_n.toInt ∧ y2 = a0_t_v y1.toNatClampNeg ∧ gB y2 (-128) 127 ∧ gB y3 0 1 ∧ tr_RReader_isDigit2 y2 y3 ∧ y3.toInt ≠ 0 ∧ a0_kind.toInt = 2) ∨ (∃ (y1 : Int32) (y2 : Int32) (y3 : Int32), x2.toInt = 45 ∧ y1.toInt = x1.toInt + 1 ∧ y1.toInt < a0_n.toInt ∧ y2 = a0_t_v y1.toNatClampNeg ∧ gB y2 (-128) 127 ∧ gB y3 0 1 ∧ tr_RReader_isDigit2 y2 y3 ∧ y3.toInt ≠ 0 ∧ a0_kind.toInt ≠ 2 ∧ a0_kind.toInt = 4))) → gB x3 0 1 → tr_RReader_isLetter2 x2 x3 → x3.toInt = 0 → gB x4 0 1 → tr_RReader_isDigit2 x2 x4 → x4.toInt ≠ 0 → gB x6 0 8192 → gB x7 4 6 → tr_RReader_number (0 : Int32) a0_n x1 a0_t_v x6 x7 x8 x5 → R x6 x7 x1 x8 x5) →
  (∀ (x1 : Int32) (x2 : Int32) (x3 : Int32) (x4 : Int32) (x5 : gTx) (x6 : Int32) (x7 : Int32), tl_RReader_next_8 a0_n a0_t_v a0_at 110 x1 → x1.toInt ≠ a0_n.toInt → x2 = a0_t_v x1.toNatClampNeg → (((x2.toInt ≠ 45) ∨ (∃ (y1 : Int32), x2.toInt = 45 ∧ y1.toInt = x1.toInt + 1 ∧ a0_n.toInt ≤ y1.toInt) ∨ (∃ (y1 : Int32) (y2 : Int32) (y3 : Int32), x2.toInt = 45 ∧ y1.toInt = x1.toInt + 1 ∧ y1.toInt < a0_n.toInt ∧ y2 = a0_t_v y1.toNatClampNeg ∧ gB y2 (-128) 127 ∧ gB y3 0 1 ∧ tr_RReader_isDigit2 y2 y3 ∧ y3.toInt = 0) ∨ (∃ (y1 : Int32) (y2 : Int32) (y3 : Int32), x2.toInt = 45 ∧ y1.toInt = x1.toInt + 1 ∧ y1.toInt < a0_n.toInt ∧ y2 = a0_t_v y1.toNatClampNeg ∧ gB y2 (-128) 127 ∧ gB y3 0 1 ∧ tr_RReader_isDigit2 y2 y3 ∧ y3.toInt ≠ 0 ∧ a0_kind.toInt = 2) ∨ (∃ (y1 : Int32) (y2 : Int32) (y3 : Int32), x2.toInt = 45 ∧ y1.toInt = x1.toInt + 1 ∧ y1.toInt < a0_n.toInt ∧ y2 = a0_t_v y1.toNatClampNeg ∧ gB y2 (-128) 127 ∧ gB y3 0 1 ∧ tr_RReader_isDigit2 y2 y3 ∧ y3.toInt ≠ 0 ∧ a0_kind.toInt ≠ 2 ∧ a0_kind.toInt = 4))) → gB x3 0 1 → tr_RReader_isLetter2 x2 x3 → x3.toInt = 0 → gB x4 0 1 → tr_RReader_isDigit2 x2 x4 → x4.toInt = 0 → gB x6 1 8192 → gB x7 5 6 → tr_RReader_symbol x2 a0_n x1 a0_t_v x6 x7 x5 → R x6 x7 x1 a0_value x5) →
  (∀ (x1 : Int32) (x2 : Int32) (x3 : Int32) (x4 : gTx) (x5 : Int32) (x6 : Int32) (x7 : Int32), tl_RReader_next_8 a0_n a0_t_v a0_at 110 x1 → x1.toInt ≠ a0_n.toInt → x2 = a0_t_v x1.toNatClampNeg → (((x2.toInt ≠ 45) ∨ (∃ (y1 : Int32), x2.toInt = 45 ∧ y1.toInt = x1.toInt + 1 ∧ a0_n.toInt ≤ y1.toInt) ∨ (∃ (y1 : Int32) (y2 : Int32) (y3 : Int32), x2.toInt = 45 ∧ y1.toInt = x1.toInt + 1 ∧ y1.toInt < a0_n.toInt ∧ y2 = a0_t_v y1.toNatClampNeg ∧ gB y2 (-128) 127 ∧ gB y3 0 1 ∧ tr_RReader_isDigit2 y2 y3 ∧ y3.toInt = 0) ∨ (∃ (y1 : Int32) (y2 : Int32) (y3 : Int32), x2.toInt = 45 ∧ y1.toInt = x1.toInt + 1 ∧ y1.toInt < a0_n.toInt ∧ y2 = a0_t_v y1.toNatClampNeg ∧ gB y2 (-128) 127 ∧ gB y3 0 1 ∧ tr_RReader_isDigit2 y2 y3 ∧ y3.toInt ≠ 0 ∧ a0_kind.toInt = 2) ∨ (∃ (y1 : Int32) (y2 : Int32) (y3 : Int32), x2.toInt = 45 ∧ y1.toInt = x1.toInt + 1 ∧ y1.toInt < a0_n.toInt ∧ y2 = a0_t_v y1.toNatClampNeg ∧ gB y2 (-128) 127 ∧ gB y3 0 1 ∧ tr_RReader_isDigit2 y2 y3 ∧ y3.toInt ≠ 0 ∧ a0_kind.toInt ≠ 2 ∧ a0_kind.toInt = 4))) → gB x3 0 1 → tr_RReader_isLetter2 x2 x3 → x3.toInt ≠ 0 → gB x5 0 8192 → gB x6 1 6 → tr_RReader_word a0_n x1 a0_value a0_t_v x5 x6 x7 x4 → R x5 x6 x1 x7 x4) →
  (∀ (x1 : Int32) (x2 : Int32) (x3 : Int32) (x4 : Int32) (x5 : Int32) (x6 : Int32) (x7 : Int32) (x8 : gTx) (x9 : Int32) (x10 : Int32) (x11 : Int32), tl_RReader_next_8 a0_n a0_t_v a0_at 110 x1 → x1.toInt ≠ a0_n.toInt → x2 = a0_t_v x1.toNatClampNeg → x2.toInt = 45 → x3.toInt = x1.toInt + 1 → x3.toInt < a0_n.toInt → x4 = a0_t_v x3.toNatClampNeg → gB x4 (-128) 127 → gB x5 0 1 → tr_RReader_isDigit2 x4 x5 → x5.toInt ≠ 0 → a0_kind.toInt ≠ 2 → a0_kind.toInt ≠ 4 → gB x6 0 1 → tr_RReader_isLetter2 x2 x6 → x6.toInt = 0 → gB x7 0 1 → tr_RReader_isDigit2 x2 x7 → x7.toInt ≠ 0 → gB x9 0 8192 → gB x10 4 6 → tr_RReader_number (1 : Int32) a0_n x1 a0_t_v x9 x10 x11 x8 → R x9 x10 x1 x11 x8) →
  (∀ (x1 : Int32) (x2 : Int32) (x3 : Int32) (x4 : Int32) (x5 : Int32) (x6 : Int32) (x7 : Int32) (x8 : gTx) (x9 : Int32) (x10 : Int32) (x11 : Int32), tl_RReader_next_8 a0_n a0_t_v a0_at 110 x1 → x1.toInt ≠ a0_n.toInt → x2 = a0_t_v x1.toNatClampNeg → x2.toInt = 45 → x3.toInt = x1.toInt + 1 → x3.toInt < a0_n.toInt → x4 = a0_t_v x3.toNatClampNeg → gB x4 (-128) 127 → gB x5 0 1 → tr_RReader_isDigit2 x4 x5 → x5.toInt ≠ 0 → a0_kind.toInt ≠ 2 → a0_kind.toInt ≠ 4 → gB x6 0 1 → tr_RReader_isLetter2 x2 x6 → x6.toInt = 0 → gB x7 0 1 → tr_RReader_isDigit2 x2 x7 → x7.toInt = 0 → gB x9 0 8192 → gB x10 4 6 → tr_RReader_number (1 : Int32) a0_n x1 a0_t_v x9 x10 x11 x8 → R x9 x10 x1 x11 x8) →
  (∀ (x1 : Int32) (x2 : Int32) (x3 : Int32) (x4 : Int32) (x5 : Int32) (x6 : Int32) (x7 : gTx) (x8 : Int32) (x9 : Int32) (x10 : Int32), tl_RReader_next_8 a0_n a0_t_v a0_at 110 x1 → x1.toInt ≠ a0_n.toInt → x2 = a0_t_v x1.toNatClampNeg → x2.toInt = 45 → x3.toInt = x1.toInt + 1 → x3.toInt < a0_n.toInt → x4 = a0_t_v x3.toNatClampNeg → gB x4 (-128) 127 → gB x5 0 1 → tr_RReader_isDigit2 x4 x5 → x5.toInt ≠ 0 → a0_kind.toInt ≠ 2 → a0_kind.toInt ≠ 4 → gB x6 0 1 → tr_RReader_isLetter2 x2 x6 → x6.toInt ≠ 0 → gB x8 0 8192 → gB x9 1 6 → tr_RReader_word a0_n x1 a0_value a0_t_v x8 x9 x10 x7 → R x8 x9 x1 x10 x7) →
  R o1 o2 o3 o4 o5
