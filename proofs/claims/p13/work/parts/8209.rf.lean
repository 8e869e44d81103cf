theorem dr_cX14_word_0 : decode cX14_word 0 = .ok (.aload_n 0, 1) := by decide +kernel
theorem dr_cX14_word_1 : decode cX14_word 1 = .ok (.getfield 28, 3) := by decide +kernel
theorem dr_cX14_word_4 : decode cX14_word 4 = .ok (.aload_n 0, 1) := by decide +kernel
theorem dr_cX14_word_5 : decode cX14_word 5 = .ok (.getfield 44, 3) := by decide +kernel
theorem dr_cX14_word_8 : decode cX14_word 8 = .ok (.baload, 1) := by decide +kernel
theorem dr_cX14_word_9 : decode cX14_word 9 = .ok (.istore_n 1, 1) := by decide +kernel
theorem dr_cX14_word_10 : decode cX14_word 10 = .ok (.aload_n 0, 1) := by decide +kernel
theorem dr_cX14_word_11 : decode cX14_word 11 = .ok (.bipush 6, 2) := by decide +kernel
theorem dr_cX14_word_13 : decode cX14_word 13 = .ok (.putfield 38, 3) := by decide +kernel
theorem dr_cX14_word_178 : decode cX14_word 178 = .ok (.new 87, 3) := by decide +kernel
theorem dr_cX14_word_181 : decode cX14_word 181 = .ok (.dup, 1) := by decide +kernel
theorem dr_cX14_word_182 : decode cX14_word 182 = .ok (.invokespecial 89, 3) := by decide +kernel
theorem dr_cX14_word_185 : decode cX14_word 185 = .ok (.astore_n 2, 1) := by decide +kernel
theorem dr_cX14_word_186 : decode cX14_word 186 = .ok (.aload_n 0, 1) := by decide +kernel
theorem dr_cX14_word_187 : decode cX14_word 187 = .ok (.getfield 44, 3) := by decide +kernel
theorem dr_cX14_word_190 : decode cX14_word 190 = .ok (.aload_n 0, 1) := by decide +kernel
theorem dr_cX14_word_191 : decode cX14_word 191 = .ok (.getfield 32, 3) := by decide +kernel
theorem dr_cX14_word_194 : decode cX14_word 194 = .ok (.if_icmp .ge 46, 3) := by decide +kernel
theorem dr_cX14_word_240 : decode cX14_word 240 = .ok (.aload_n 0, 1) := by decide +kernel
theorem dr_cX14_word_241 : decode cX14_word 241 = .ok (.aload_n 2, 1) := by decide +kernel
theorem dr_cX14_word_242 : decode cX14_word 242 = .ok (.invokevirtual 94, 3) := by decide +kernel
theorem dr_cX14_word_245 : decode cX14_word 245 = .ok (.putfield 11, 3) := by decide +kernel
theorem dr_cX14_word_248 : decode cX14_word 248 = .ok (.ldc 98, 2) := by decide +kernel
theorem dr_cX14_word_250 : decode cX14_word 250 = .ok (.new 87, 3) := by decide +kernel
theorem dr_cX14_word_253 : decode cX14_word 253 = .ok (.dup, 1) := by decide +kernel
theorem dr_cX14_word_254 : decode cX14_word 254 = .ok (.invokespecial 89, 3) := by decide +kernel
theorem dr_cX14_word_257 : decode cX14_word 257 = .ok (.ldc 100, 2) := by decide +kernel
theorem dr_cX14_word_259 : decode cX14_word 259 = .ok (.invokevirtual 102, 3) := by decide +kernel
theorem dr_cX14_word_262 : decode cX14_word 262 = .ok (.aload_n 0, 1) := by decide +kernel
theorem dr_cX14_word_263 : decode cX14_word 263 = .ok (.getfield 11, 3) := by decide +kernel
theorem dr_cX14_word_266 : decode cX14_word 266 = .ok (.invokevirtual 102, 3) := by decide +kernel
theorem dr_cX14_word_269 : decode cX14_word 269 = .ok (.ldc 100, 2) := by decide +kernel
theorem dr_cX14_word_271 : decode cX14_word 271 = .ok (.invokevirtual 102, 3) := by decide +kernel
theorem dr_cX14_word_274 : decode cX14_word 274 = .ok (.invokevirtual 94, 3) := by decide +kernel
theorem dr_cX14_word_277 : decode cX14_word 277 = .ok (.invokevirtual 105, 3) := by decide +kernel
theorem dr_cX14_word_280 : decode cX14_word 280 = .ok (.ifCond .lt 8, 3) := by decide +kernel
theorem dr_cX14_word_288 : decode cX14_word 288 = .ok (.return_, 1) := by decide +kernel
theorem dr_cX14_word_283 : decode cX14_word 283 = .ok (.aload_n 0, 1) := by decide +kernel
theorem dr_cX14_word_284 : decode cX14_word 284 = .ok (.iconst 1, 1) := by decide +kernel
theorem dr_cX14_word_285 : decode cX14_word 285 = .ok (.putfield 38, 3) := by decide +kernel
theorem dr_cX14_word_197 : decode cX14_word 197 = .ok (.aload_n 0, 1) := by decide +kernel
theorem dr_cX14_word_198 : decode cX14_word 198 = .ok (.getfield 28, 3) := by decide +kernel
theorem dr_cX14_word_201 : decode cX14_word 201 = .ok (.aload_n 0, 1) := by decide +kernel
theorem dr_cX14_word_202 : decode cX14_word 202 = .ok (.getfield 44, 3) := by decide +kernel
theorem dr_cX14_word_205 : decode cX14_word 205 = .ok (.baload, 1) := by decide +kernel
theorem dr_cX14_word_206 : decode cX14_word 206 = .ok (.invokestatic 54, 3) := by decide +kernel
theorem wr_7_222 : (Jvm.Cond.methodLink "SpillForgeModel$Reader" (54 : Nat) ({ cls := "SpillForgeModel$Reader", name := "isLetter", desc := "(I)Z" } : Jvm.MethodName)) ∈ gw := gw_7 222 rfl rfl
theorem wr_7_224 : (Jvm.Cond.code ({ cls := "SpillForgeModel$Reader", name := "isLetter", desc := "(I)Z" } : Jvm.MethodName) prog_17_method_3_code (1 : Nat) (Option.some Jvm.ClassFile.FieldType.boolean)) ∈ gw := gw_7 224 rfl rfl
theorem wr_7_223 : (Jvm.Cond.static ({ cls := "SpillForgeModel$Reader", name := "isLetter", desc := "(I)Z" } : Jvm.MethodName)) ∈ gw := gw_7 223 rfl rfl
theorem dr_cX14_word_209 : decode cX14_word 209 = .ok (.ifCond .eq 31, 3) := by decide +kernel
theorem dr_cX14_word_212 : decode cX14_word 212 = .ok (.aload_n 2, 1) := by decide +kernel
theorem dr_cX14_word_213 : decode cX14_word 213 = .ok (.aload_n 0, 1) := by decide +kernel
theorem dr_cX14_word_214 : decode cX14_word 214 = .ok (.getfield 28, 3) := by decide +kernel
theorem dr_cX14_word_217 : decode cX14_word 217 = .ok (.aload_n 0, 1) := by decide +kernel
theorem dr_cX14_word_218 : decode cX14_word 218 = .ok (.getfield 44, 3) := by decide +kernel
theorem dr_cX14_word_221 : decode cX14_word 221 = .ok (.baload, 1) := by decide +kernel
theorem dr_cX14_word_222 : decode cX14_word 222 = .ok (.i2c, 1) := by decide +kernel
theorem dr_cX14_word_223 : decode cX14_word 223 = .ok (.invokevirtual 90, 3) := by decide +kernel
theorem dr_cX14_word_226 : decode cX14_word 226 = .ok (.pop, 1) := by decide +kernel
theorem dr_cX14_word_227 : decode cX14_word 227 = .ok (.aload_n 0, 1) := by decide +kernel
theorem dr_cX14_word_228 : decode cX14_word 228 = .ok (.dup, 1) := by decide +kernel
theorem dr_cX14_word_229 : decode cX14_word 229 = .ok (.getfield 44, 3) := by decide +kernel
theorem dr_cX14_word_232 : decode cX14_word 232 = .ok (.iconst 1, 1) := by decide +kernel
theorem dr_cX14_word_233 : decode cX14_word 233 = .ok (.iadd, 1) := by decide +kernel
theorem dr_cX14_word_234 : decode cX14_word 234 = .ok (.putfield 44, 3) := by decide +kernel
theorem dr_cX14_word_237 : decode cX14_word 237 = .ok (.goto (-51), 3) := by decide +kernel
theorem dr_cX14_word_16 : decode cX14_word 16 = .ok (.iload_n 1, 1) := by decide +kernel
theorem dr_cX14_word_17 : decode cX14_word 17 = .ok (.bipush 118, 2) := by decide +kernel
theorem dr_cX14_word_19 : decode cX14_word 19 = .ok (.if_icmp .eq 9, 3) := by decide +kernel
theorem dr_cX14_word_28 : decode cX14_word 28 = .ok (.aload_n 0, 1) := by decide +kernel
theorem dr_cX14_word_29 : decode cX14_word 29 = .ok (.getfield 44, 3) := by decide +kernel
theorem dr_cX14_word_32 : decode cX14_word 32 = .ok (.iconst 1, 1) := by decide +kernel
theorem dr_cX14_word_33 : decode cX14_word 33 = .ok (.iadd, 1) := by decide +kernel
theorem dr_cX14_word_34 : decode cX14_word 34 = .ok (.aload_n 0, 1) := by decide +kernel
theorem dr_cX14_word_35 : decode cX14_word 35 = .ok (.getfield 32, 3) := by decide +kernel
theorem dr_cX14_word_38 : decode cX14_word 38 = .ok (.if_icmp .ge 140, 3) := by decide +kernel
theorem dr_cX14_word_41 : decode cX14_word 41 = .ok (.aload_n 0, 1) := by decide +kernel
theorem dr_cX14_word_42 : decode cX14_word 42 = .ok (.getfield 28, 3) := by decide +kernel
theorem dr_cX14_word_45 : decode cX14_word 45 = .ok (.aload_n 0, 1) := by decide +kernel
theorem dr_cX14_word_46 : decode cX14_word 46 = .ok (.getfield 44, 3) := by decide +kernel
theorem dr_cX14_word_49 : decode cX14_word 49 = .ok (.iconst 1, 1) := by decide +kernel
theorem dr_cX14_word_50 : decode cX14_word 50 = .ok (.iadd, 1) := by decide +kernel
theorem dr_cX14_word_51 : decode cX14_word 51 = .ok (.baload, 1) := by decide +kernel
theorem dr_cX14_word_52 : decode cX14_word 52 = .ok (.invokestatic 50, 3) := by decide +kernel
theorem dr_cX14_word_55 : decode cX14_word 55 = .ok (.ifCond .eq 123, 3) := by decide +kernel
theorem dr_cX14_word_58 : decode cX14_word 58 = .ok (.lconst 0, 1) := by decide +kernel
theorem dr_cX14_word_59 : decode cX14_word 59 = .ok (.lstore_n 2, 1) := by decide +kernel
theorem dr_cX14_word_60 : decode cX14_word 60 = .ok (.aload_n 0, 1) := by decide +kernel
theorem dr_cX14_word_61 : decode cX14_word 61 = .ok (.dup, 1) := by decide +kernel
theorem dr_cX14_word_62 : decode cX14_word 62 = .ok (.getfield 44, 3) := by decide +kernel
theorem dr_cX14_word_65 : decode cX14_word 65 = .ok (.iconst 1, 1) := by decide +kernel
theorem dr_cX14_word_66 : decode cX14_word 66 = .ok (.iadd, 1) := by decide +kernel
theorem dr_cX14_word_67 : decode cX14_word 67 = .ok (.putfield 44, 3) := by decide +kernel
theorem dr_cX14_word_70 : decode cX14_word 70 = .ok (.aload_n 0, 1) := by decide +kernel
theorem dr_cX14_word_71 : decode cX14_word 71 = .ok (.getfield 44, 3) := by decide +kernel
theorem dr_cX14_word_74 : decode cX14_word 74 = .ok (.aload_n 0, 1) := by decide +kernel
theorem dr_cX14_word_75 : decode cX14_word 75 = .ok (.getfield 32, 3) := by decide +kernel
theorem dr_cX14_word_78 : decode cX14_word 78 = .ok (.if_icmp .ge 58, 3) := by decide +kernel
theorem dr_cX14_word_136 : decode cX14_word 136 = .ok (.aload_n 0, 1) := by decide +kernel
theorem dr_cX14_word_137 : decode cX14_word 137 = .ok (.lload_n 2, 1) := by decide +kernel
theorem dr_cX14_word_138 : decode cX14_word 138 = .ok (.l2i, 1) := by decide +kernel
theorem dr_cX14_word_139 : decode cX14_word 139 = .ok (.putfield 80, 3) := by decide +kernel
theorem dr_cX14_word_142 : decode cX14_word 142 = .ok (.lload_n 2, 1) := by decide +kernel
theorem dr_cX14_word_143 : decode cX14_word 143 = .ok (.iload_n 1, 1) := by decide +kernel
theorem dr_cX14_word_144 : decode cX14_word 144 = .ok (.bipush 118, 2) := by decide +kernel
theorem dr_cX14_word_146 : decode cX14_word 146 = .ok (.if_icmp .ne 9, 3) := by decide +kernel
theorem dr_cX14_word_149 : decode cX14_word 149 = .ok (.ldc2_w 83, 3) := by decide +kernel
theorem wr_7_233 : (Jvm.Cond.constantLong "SpillForgeModel$Reader" (83 : Nat) (99 : Int64)) ∈ gw := gw_7 233 rfl rfl
theorem dr_cX14_word_152 : decode cX14_word 152 = .ok (.goto 6, 3) := by decide +kernel
theorem dr_cX14_word_158 : decode cX14_word 158 = .ok (.lcmp, 1) := by decide +kernel
theorem dr_cX14_word_159 : decode cX14_word 159 = .ok (.ifCond .gt 18, 3) := by decide +kernel
theorem dr_cX14_word_177 : decode cX14_word 177 = .ok (.return_, 1) := by decide +kernel
theorem dr_cX14_word_162 : decode cX14_word 162 = .ok (.aload_n 0, 1) := by decide +kernel
theorem dr_cX14_word_163 : decode cX14_word 163 = .ok (.iload_n 1, 1) := by decide +kernel
theorem dr_cX14_word_164 : decode cX14_word 164 = .ok (.bipush 118, 2) := by decide +kernel
theorem dr_cX14_word_166 : decode cX14_word 166 = .ok (.if_icmp .ne 7, 3) := by decide +kernel
theorem dr_cX14_word_169 : decode cX14_word 169 = .ok (.iconst 2, 1) := by decide +kernel
theorem dr_cX14_word_170 : decode cX14_word 170 = .ok (.goto 4, 3) := by decide +kernel
theorem dr_cX14_word_174 : decode cX14_word 174 = .ok (.putfield 38, 3) := by decide +kernel
theorem dr_cX14_word_81 : decode cX14_word 81 = .ok (.aload_n 0, 1) := by decide +kernel
theorem dr_cX14_word_82 : decode cX14_word 82 = .ok (.getfield 28, 3) := by decide +kernel
theorem dr_cX14_word_85 : decode cX14_word 85 = .ok (.aload_n 0, 1) := by decide +kernel
theorem dr_cX14_word_86 : decode cX14_word 86 = .ok (.getfield 44, 3) := by decide +kernel
theorem dr_cX14_word_89 : decode cX14_word 89 = .ok (.baload, 1) := by decide +kernel
theorem dr_cX14_word_90 : decode cX14_word 90 = .ok (.invokestatic 50, 3) := by decide +kernel
theorem dr_cX14_word_93 : decode cX14_word 93 = .ok (.ifCond .eq 43, 3) := by decide +kernel
theorem dr_cX14_word_96 : decode cX14_word 96 = .ok (.lload_n 2, 1) := by decide +kernel
theorem dr_cX14_word_97 : decode cX14_word 97 = .ok (.ldc2_w 68, 3) := by decide +kernel
theorem dr_cX14_word_100 : decode cX14_word 100 = .ok (.lmul, 1) := by decide +kernel
theorem dr_cX14_word_101 : decode cX14_word 101 = .ok (.aload_n 0, 1) := by decide +kernel
theorem dr_cX14_word_102 : decode cX14_word 102 = .ok (.getfield 28, 3) := by decide +kernel
theorem dr_cX14_word_105 : decode cX14_word 105 = .ok (.aload_n 0, 1) := by decide +kernel
theorem dr_cX14_word_106 : decode cX14_word 106 = .ok (.getfield 44, 3) := by decide +kernel
theorem dr_cX14_word_109 : decode cX14_word 109 = .ok (.baload, 1) := by decide +kernel
theorem dr_cX14_word_110 : decode cX14_word 110 = .ok (.i2l, 1) := by decide +kernel
theorem dr_cX14_word_111 : decode cX14_word 111 = .ok (.ladd, 1) := by decide +kernel
theorem dr_cX14_word_112 : decode cX14_word 112 = .ok (.ldc2_w 70, 3) := by decide +kernel
theorem dr_cX14_word_115 : decode cX14_word 115 = .ok (.lsub, 1) := by decide +kernel
theorem dr_cX14_word_116 : decode cX14_word 116 = .ok (.ldc2_w 72, 3) := by decide +kernel
theorem wr_7_231 : (Jvm.Cond.constantLong "SpillForgeModel$Reader" (72 : Nat) (1000000 : Int64)) ∈ gw := gw_7 231 rfl rfl
theorem dr_cX14_word_119 : decode cX14_word 119 = .ok (.invokestatic 74, 3) := by decide +kernel
theorem dr_cX14_word_122 : decode cX14_word 122 = .ok (.lstore_n 2, 1) := by decide +kernel
theorem dr_cX14_word_123 : decode cX14_word 123 = .ok (.aload_n 0, 1) := by decide +kernel
theorem dr_cX14_word_124 : decode cX14_word 124 = .ok (.dup, 1) := by decide +kernel
theorem dr_cX14_word_125 : decode cX14_word 125 = .ok (.getfield 44, 3) := by decide +kernel
theorem dr_cX14_word_128 : decode cX14_word 128 = .ok (.iconst 1, 1) := by decide +kernel
theorem dr_cX14_word_129 : decode cX14_word 129 = .ok (.iadd, 1) := by decide +kernel
theorem dr_cX14_word_130 : decode cX14_word 130 = .ok (.putfield 44, 3) := by decide +kernel
theorem dr_cX14_word_133 : decode cX14_word 133 = .ok (.goto (-63), 3) := by decide +kernel
theorem dr_cX14_word_22 : decode cX14_word 22 = .ok (.iload_n 1, 1) := by decide +kernel
theorem dr_cX14_word_23 : decode cX14_word 23 = .ok (.bipush 98, 2) := by decide +kernel
theorem dr_cX14_word_25 : decode cX14_word 25 = .ok (.if_icmp .ne 153, 3) := by decide +kernel
theorem dr_cX14_word_155 : decode cX14_word 155 = .ok (.ldc2_w 85, 3) := by decide +kernel
theorem wr_7_234 : (Jvm.Cond.constantLong "SpillForgeModel$Reader" (85 : Nat) (39 : Int64)) ∈ gw := gw_7 234 rfl rfl
theorem dr_cX14_word_173 : decode cX14_word 173 = .ok (.iconst 3, 1) := by decide +kernel
abbrev ky_670225_Reader_isLetter : gKey := (cX14_isLetter, 1, "SpillForgeModel$Reader", (some FieldType.boolean), [], "isLetter", fun _ _ => True)
def pp_670225_Reader_isLetter (D : va_G) (I : FieldType → ClassId) (P670222 : List Nat) (F670223 : Nat → va_E) (p670224 : Int32) : Option Value → va_W → Nat → Nat → Prop := fun r w dc ds => ∃ (o670232 : Int32), r = some (.int o670232) ∧ w = va_pl P670222 F670223 ∧ dc ≤ 0 ∧ ds ≤ 0 ∧ gB o670232 0 1 ∧ isP p670224 97 122 o670232 ∧ tr_RReader_isLetter2 p670224 o670232
set_option maxRecDepth 100000 in
set_option maxHeartbeats 4000000 in
theorem cp_670225_Reader_isLetter (l : Launch) (hl0 : l.stackTraces = false) (D : va_G) (I : FieldType → ClassId) (P670222 : List Nat) (F670223 : Nat → va_E) (p670224 : Int32)  : CtA (gV D I) l yX14_isLetter cX14_isLetter 1 (some FieldType.boolean) 0 0 0 0 [.int p670224] (va_pl P670222 F670223) (pp_670225_Reader_isLetter D I P670222 F670223 p670224) gNA := by
  refine CtA_of hl0 (by decide) (Nat.le_of_ble_eq_true rfl) ?_
  have bp670224 := gB_any p670224
  refine G_iload_n 0 dr_cX14_isLetter_0 rfl ?_
  refine G_bipush 97 dr_cX14_isLetter_1 (by decide +kernel) ?_
  refine G_icmp_lt 16 dr_cX14_isLetter_3 (by decide +kernel) (fun hc670226 => ?_) (fun hc670226 => ?_)
  · have r670227 : p670224.toInt < 97 := gj_lt hc670226 (show Int32.toInt 97 = 97 by decide)
    have bp670224' : gB p670224 (-2147483648) 96 := ⟨by omega, by omega⟩
    refine G_iconst 0 dr_cX14_isLetter_16 (by decide +kernel) ?_
    exact G_zretA FieldType.boolean dr_cX14_isLetter_17 rfl rfl (Nat.le_of_ble_eq_true rfl) (Nat.le_of_ble_eq_true rfl) ⟨0, rfl, rfl, (Nat.le_of_ble_eq_true rfl), (Nat.le_of_ble_eq_true rfl), (gB_w (gBl (show Int32.toInt 0 = 0 by decide)) (by decide) (by decide)), (isP_n (by omega)), (fun R c1 c2 c3 => c1 r670227)⟩
  · have r670228 : 97 ≤ p670224.toInt := gj_nlt hc670226 (show Int32.toInt 97 = 97 by decide)
    have bp670224' : gB p670224 97 2147483647 := ⟨by omega, by omega⟩
    refine G_iload_n 0 dr_cX14_isLetter_6 rfl ?_
    refine G_bipush 122 dr_cX14_isLetter_7 (by decide +kernel) ?_
    refine G_icmp_gt 16 dr_cX14_isLetter_9 (by decide +kernel) (fun hc670229 => ?_) (fun hc670229 => ?_)
    · have r670230 : 122 < p670224.toInt := gj_ltL hc670229 (show Int32.toInt 122 = 122 by decide)
      have bp670224'' : gB p670224 123 2147483647 := ⟨by omega, by omega⟩
      refine G_iconst 0 dr_cX14_isLetter_16 (by decide +kernel) ?_
      exact G_zretA FieldType.boolean dr_cX14_isLetter_17 rfl rfl (Nat.le_of_ble_eq_true rfl) (Nat.le_of_ble_eq_true rfl) ⟨0, rfl, rfl, (Nat.le_of_ble_eq_true rfl), (Nat.le_of_ble_eq_true rfl), (gB_w (gBl (show Int32.toInt 0 = 0 by decide)) (by decide) (by decide)), (isP_n (by omega)), (fun R c1 c2 c3 => c2 r670228 r670230)⟩
    · have r670231 : p670224.toInt ≤ 122 := gj_nltL hc670229 (show Int32.toInt 122 = 122 by decide)
      have bp670224'' : gB p670224 97 122 := ⟨by omega, by omega⟩
      refine G_iconst 1 dr_cX14_isLetter_12 (by decide +kernel) ?_
      refine G_goto 17 dr_cX14_isLetter_13 (by decide +kernel) ?_
      exact G_zretA FieldType.boolean dr_cX14_isLetter_17 rfl rfl (Nat.le_of_ble_eq_true rfl) (Nat.le_of_ble_eq_true rfl) ⟨1, rfl, rfl, (Nat.le_of_ble_eq_true rfl), (Nat.le_of_ble_eq_true rfl), (gB_w (gBl (show Int32.toInt 1 = 1 by decide)) (by decide) (by decide)), (isP_y (by omega) (by omega)), (fun R c1 c2 c3 => c3 r670228 r670231)⟩
/- tr_RAbstractStringBuilder_append8: a.0...count, a.0.value.#, a.0.value.[] -/
def tr_RAbstractStringBuilder_append8 (a1 : Int32) (a0_count : Int32) (a0_value_v : Nat → Int32) (a0_value_n : Nat) (o1 : Int32) (o2 : Nat) (o3 : Nat → Int32) : Prop := ∀ R : (Int32) → (Nat) → (Nat → Int32) → Prop,
  (∀ (x1 : Int32) (x2 : Nat) (x3 : Nat → Int32) (x4 : Int32) (x5 : Int32) (x6 : Nat → Int32), x1.toInt = a0_count.toInt + 1 → tr_RAbstractStringBuilder_ensureCapacityInternal2 x1 a0_value_v a0_value_n x2 x3 → tr_RStringLatin1_canEncode a1 (1 : Int32) → x4.toInt = a0_count.toInt + 1 → x5 = a1.toInt8.toInt32 → x6 = upd x3 a0_count.toNatClampNeg (vp_nar .byte x5) → R x4 x2 x6) →
  R o1 o2 o3
abbrev ky_670563_AbstractStringBuilder_append : gKey := (cJ5_append_3fe6f, 2, "java/lang/AbstractStringBuilder", (some (FieldType.object "java/lang/AbstractStringBuilder")), [], "append", fun _ _ => True)
def pp_670563_AbstractStringBuilder_append (D : va_G) (I : FieldType → ClassId) (P670550 : List Nat) (F670551 : Nat → va_E) (q670552 : Nat) (q670553 : Nat) (p670554 : Int32) (p670555 : Int32) (p670556 : Int32) (f670557 : Nat → Int32) (n670558 : Nat) : Option Value → va_W → Nat → Nat → Prop := fun r w dc ds => ∃ (P670628 : List Nat) (F670629 : Nat → va_E) (o670624 : Int32) (q670625 : Nat) (n670626 : Nat) (f670627 : Nat → Int32), r = some (.ref q670552) ∧ w = va_pl P670628 F670629 ∧ rSub P670550 P670628 ∧ rFr [q670553, q670552] P670550 F670551 F670629 ∧ F670629 q670552 = .inr (1, [.ref q670625, .int 0, .int p670555, .int o670624]) ∧ F670629 q670625 = .inl (I .byte, n670626, .inl f670627) ∧ q670625 ∈ P670628 ∧ (q670625 = q670553 ∨ q670625 ∉ P670550) ∧ dc ≤ 1 ∧ ds ≤ 2 * (n670626 - n670558) ∧ gB o670624 1 16777216 ∧ gF f670627 (-128) 127 ∧ o670624.toInt = p670556.toInt + 1 ∧ o670624.toInt ≤ (n670626 : Int) ∧ (n670558 : Int) ≤ (n670626 : Int) ∧ (n670626 : Int) ≤ 2 * o670624.toInt + 16 ∧ (n670626 : Int) ≤ 2 * (n670558 : Int) + 2 ∧ tr_RAbstractStringBuilder_append8 p670554 p670556 f670557 n670558 o670624 n670626 f670627
set_option maxRecDepth 100000 in
set_option maxHeartbeats 4000000 in
theorem cp_670563_AbstractStringBuilder_append (l : Launch) (hl0 : l.stackTraces = false) (D : va_G) (I : FieldType → ClassId) (P670550 : List Nat) (F670551 : Nat → va_E) (q670552 : Nat) (q670553 : Nat) (p670554 : Int32) (p670555 : Int32) (p670556 : Int32) (f670557 : Nat → Int32) (n670558 : Nat) (hmq670552 : q670552 ∈ P670550) (hmq670553 : q670553 ∈ P670550) (heq670552 : F670551 q670552 = .inr (1, [.ref q670553, .int 0, .int p670555, .int p670556])) (heq670553 : F670551 q670553 = .inl (I .byte, n670558, .inl f670557)) (bp670554 : gB p670554 0 255) (bp670555 : gB p670555 0 1) (bp670556 : gB p670556 0 16777216) (bf670557 : gF f670557 (-128) 127) (x670559 : (n670558 : Int) ≤ 8388608 - 100000) (x670560 : p670556.toInt ≤ (n670558 : Int)) (x670561 : (n670558 : Int) ≤ 2 * p670556.toInt + 16) (x670562 : ((n670558 : Int) ≤ 16777216)) : CtA (gV D I) l yJ5_append_3fe6f cJ5_append_3fe6f 2 (some (FieldType.object "java/lang/AbstractStringBuilder")) 4 84 1 (4 * n670558 + 8) [.ref q670552, .int p670554] (va_pl P670550 F670551) (pp_670563_AbstractStringBuilder_append D I P670550 F670551 q670552 q670553 p670554 p670555 p670556 f670557 n670558) gNA := by
  refine CtA_ofF hl0 (by decide +kernel) (Nat.le_of_ble_eq_true rfl) ?_
  refine G_aload_n 0 dr_cJ5_append_3fe6f_0 rfl ?_
  refine G_aload_n 0 dr_cJ5_append_3fe6f_1 rfl ?_
  refine Gp_get 3 hmq670552 heq670552 dr_cJ5_append_3fe6f_2 (gk_J4 D I) (Nat.le_of_ble_eq_true rfl) wr_7_64 rfl ?_
  refine G_iconst 1 dr_cJ5_append_3fe6f_5 (by decide +kernel) ?_
  refine G_iadd dr_cJ5_append_3fe6f_6 (G_nam fun z670564 hz670564 => ?_)
  have ez670564 : z670564.toInt = p670556.toInt + 1 := by rw [gI_add hz670564 bp670556 (gBl (show Int32.toInt 1 = 1 by decide)) (by decide) (by decide), show Int32.toInt 1 = 1 from by decide]
  have bz670564 : gB z670564 1 16777217 := gB_add (gI_add hz670564 bp670556 (gBl (show Int32.toInt 1 = 1 by decide)) (by decide) (by decide)) bp670556 (gBl (show Int32.toInt 1 = 1 by decide)) (by decide) (by decide)
  refine Gw_callVB (As := [.int z670564]) (gV_ok D I) (cp_658822_AbstractStringBuilder_ensureCapacityInternal l hl0 D I P670550 F670551 q670552 q670553 z670564 p670555 p670556 f670557 n670558 hmq670552 hmq670553 heq670552 heq670553 ⟨by omega, by omega⟩ bp670555 bp670556 bf670557 (by have qa0 : Int32.toInt 0 = 0 := (by decide); omega) (by have qa0 : Int32.toInt 0 = 0 := (by decide); omega)) dr_cJ5_append_3fe6f_7 ⟨wr_8_4, wr_1_19, wr_8_7, by decide, rfl, (Nat.le_of_ble_eq_true rfl), (Nat.le_of_ble_eq_true rfl)⟩ wr_8_6 wr_s_0 hmq670552 heq670552 rfl (show 0 + 1 ≤ 1 by first | omega | decide) (show 0 + (2 * n670558 + 2 + z670564.toInt.toNat) ≤ (4 * n670558 + 8) by first | omega | decide) (Nat.le_of_ble_eq_true rfl) (fun r670568 w670569 dc670565 ds670566 hp670567 => ?_) (fun _ _ _ _ _ z => z.elim)
  obtain ⟨P670578, F670579, q670570, n670571, f670572, rfl, rfl, hsb670580, hfr670581, he670582, he670583, hm670584, hq670585, hdc, hds, bf670572, x670573, x670574, x670575, x670576, ht670577⟩ := hp670567
  have hm670586 : q670552 ∈ P670578 := hsb670580 q670552 hmq670552
  have hm670587 : q670553 ∈ P670578 := hsb670580 q670553 hmq670553
  have hor670588 : q670570 = q670553 ∨ q670570 ∉ P670550 := hq670585.elim Or.inl (fun n => Or.inr (fun z => n ((rSub_rf (P := P670550)) _ z)))
  have hsb670589 : rSub P670550 P670578 := rSub_tr (rSub_rf (P := P670550)) hsb670580
  have he670590 : F670579 q670553 = .inl (I .byte, n670558, .inl f670557) := (hfr670581 q670553 hmq670553 (nm_c (rn_ao heq670553 heq670552) nm_n)).trans heq670553
  have hfr670591 : rFr [q670552] P670550 F670551 F670579 := rFr_call (rSub_rf (P := P670550)) (rFr_rf (W := []) (P := P670550) (F := F670551)) hfr670581 (fun b hb hn => ⟨nm_n, (nm_c (fun e => hn (e ▸ List.mem_cons_self)) nm_n)⟩)
  change G _ _ _ _ _ _ _ _ _ _ _
  refine G_widen (cs' := 1) (sl' := 2 * (n670571 - n670558)) (by omega) (by omega) ?_
  refine G_aload_n 0 dr_cJ5_append_3fe6f_10 rfl ?_
  refine Gw_callVB (As := []) (gV_ok D I) (cp_658723_AbstractStringBuilder_isLatin1 l hl0 D I P670578 F670579 q670552 q670570 p670555 p670556 f670572 n670571 hm670586 hm670584 he670582 he670583 bp670555 bp670556 bf670572 (by have qa0 : Int32.toInt 0 = 0 := (by decide); omega)) dr_cJ5_append_3fe6f_11 ⟨wr_8_33, wr_1_19, wr_8_37, by decide, rfl, (Nat.le_of_ble_eq_true rfl), (Nat.le_of_ble_eq_true rfl)⟩ wr_8_34 wr_8_36 hm670586 he670582 rfl (show 1 + 0 ≤ 1 by first | omega | decide) (show 2 * (n670571 - n670558) + 0 ≤ (4 * n670558 + 8) by first | omega | decide) (Nat.le_of_ble_eq_true rfl) (fun r670595 w670596 dc670592 ds670593 hp670594 => ?_) (fun _ _ _ _ _ z => z.elim)
  obtain ⟨rfl, rfl, hdc, hds⟩ := hp670594
  change G _ _ _ _ _ _ _ (.int 1 :: _) _ _ _
  refine G_widen (cs' := 1) (sl' := 2 * (n670571 - n670558) + 0) (by omega) (by omega) ?_
  refine G_if_eq 45 dr_cJ5_append_3fe6f_14 (by decide +kernel) (fun hc => absurd hc (by decide)) (fun _ => ?_)
  refine G_iload_n 1 dr_cJ5_append_3fe6f_17 rfl ?_
  refine Gw_callS (As := [.int p670554]) (gV_ok D I) (cp_658732_StringLatin1_canEncode l hl0 D I P670578 F670579 p670554 (gB_w bp670554 (by decide) (by decide))) dr_cJ5_append_3fe6f_18 ⟨wr_8_38, wr_1_28, wr_8_40, by decide, rfl, (Nat.le_of_ble_eq_true rfl), (Nat.le_of_ble_eq_true rfl)⟩ wr_8_39 (show 1 + 0 ≤ 1 by first | omega | decide) (show 2 * (n670571 - n670558) + 0 + 0 ≤ (4 * n670558 + 8) by first | omega | decide) (Nat.le_of_ble_eq_true rfl) (fun r670600 w670601 dc670597 ds670598 hp670599 => ?_) (fun _ _ _ _ _ z => z.elim)
  rcases hp670599 with ⟨rfl, rfl, hdc, hds, r670602, r670603⟩ | ⟨rfl, rfl, hdc, hds, r670604, r670605⟩
  · exact absurd (show False by omega) not_false
  · change G _ _ _ _ _ _ _ (.int 1 :: _) _ _ _
    refine G_widen (cs' := 1) (sl' := 2 * (n670571 - n670558) + 0 + 0) (by omega) (by omega) ?_
    refine G_if_eq 45 dr_cJ5_append_3fe6f_21 (by decide +kernel) (fun hc => absurd hc (by decide)) (fun _ => ?_)
    refine G_aload_n 0 dr_cJ5_append_3fe6f_24 rfl ?_
    refine Gp_get 0 hm670586 he670582 dr_cJ5_append_3fe6f_25 (gk_J4 D I) (Nat.le_of_ble_eq_true rfl) wr_7_60 rfl ?_
    refine G_aload_n 0 dr_cJ5_append_3fe6f_28 rfl ?_
    refine G_dup dr_cJ5_append_3fe6f_29 rfl ?_
    refine Gp_get 3 hm670586 he670582 dr_cJ5_append_3fe6f_30 (gk_J4 D I) (Nat.le_of_ble_eq_true rfl) wr_7_64 rfl ?_
    refine G_dup_x1 dr_cJ5_append_3fe6f_33 rfl rfl ?_
    refine G_iconst 1 dr_cJ5_append_3fe6f_34 (by decide +kernel) ?_
    refine G_iadd dr_cJ5_append_3fe6f_35 (G_nam fun z670607 hz670607 => ?_)
    have ez670607 : z670607.toInt = p670556.toInt + 1 := by rw [gI_add hz670607 bp670556 (gBl (show Int32.toInt 1 = 1 by decide)) (by decide) (by decide), show Int32.toInt 1 = 1 from by decide]
    have bz670607 : gB z670607 1 16777217 := gB_add (gI_add hz670607 bp670556 (gBl (show Int32.toInt 1 = 1 by decide)) (by decide) (by decide)) bp670556 (gBl (show Int32.toInt 1 = 1 by decide)) (by decide) (by decide)
    refine Gp_put 3 hm670586 he670582 dr_cJ5_append_3fe6f_36 (gk_J4 D I) (Nat.le_of_ble_eq_true rfl) wr_7_64 rfl rfl rfl (Nat.le_of_ble_eq_true rfl) (fun F670608 e670609 n670610 => ?_)
    have he670611 : F670608 q670553 = .inl (I .byte, n670558, .inl f670557) := (n670610 q670553 (rn_ao he670590 he670582)).trans he670590
    have he670612 : F670608 q670570 = .inl (I .byte, n670571, .inl f670572) := (n670610 q670570 (rn_ao he670583 he670582)).trans he670583
    have he670613 : F670608 q670552 = .inr (1, [.ref q670570, .int 0, .int p670555, .int z670607]) := e670609
    have hfr670614 : rFr [q670552] P670550 F670551 F670608 := rFr_put' List.mem_cons_self hfr670591 n670610
    refine G_iload_n 1 dr_cJ5_append_3fe6f_39 rfl ?_
    refine G_i2b dr_cJ5_append_3fe6f_40 (G_nam fun z670615 hz670615 => ?_)
    have bz670615 : gB z670615 (-128) 127 := gB_i2b hz670615
    refine Gp_bast 1 hm670584 he670612 dr_cJ5_append_3fe6f_41 rfl (gB_inr (by omega) (by omega)) (fun F670616 e670617 n670618 => ?_)
    obtain ⟨f670619, hf670619⟩ : ∃ z, z = upd f670572 p670556.toNatClampNeg (vp_nar .byte z670615) := ⟨_, rfl⟩
    rw [← hf670619] at e670617
    have he670621 : F670616 q670552 = .inr (1, [.ref q670570, .int 0, .int p670555, .int z670607]) := (n670618 q670552 (rn_oa he670613 he670612)).trans he670613
    have he670622 : F670616 q670570 = .inl (I .byte, n670571, .inl f670619) := e670617
    have hfr670623 : rFr [q670553, q670552] P670550 F670551 F670616 := rFr_eit hor670588 hfr670614 n670618
    have bf670619 : gF f670619 (-128) 127 := gF_upd hf670619 bf670572 gB_byte
    refine G_goto 75 dr_cJ5_append_3fe6f_42 (by decide +kernel) ?_
    refine G_aload_n 0 dr_cJ5_append_3fe6f_75 rfl ?_
    exact G_aretA (FieldType.object "java/lang/AbstractStringBuilder") dr_cJ5_append_3fe6f_76 rfl (by first | exact Or.inl ⟨_, rfl⟩ | exact Or.inr ⟨_, rfl⟩) (Or.inr ⟨_, rfl⟩) (Nat.le_of_ble_eq_true rfl) (show 2 * (n670571 - n670558) + 0 + 0 ≤ (4 * n670558 + 8) by omega) ⟨P670578, F670616, z670607, q670570, n670571, f670619, rfl, rfl, hsb670589, hfr670623, he670621, he670622, hm670584, hor670588, (Nat.le_of_ble_eq_true rfl), (by omega), ⟨by omega, by omega⟩, bf670619, (by have qa0 : Int32.toInt 0 = 0 := (by decide); omega), (by have qa0 : Int32.toInt 0 = 0 := (by decide); omega), (by have qa0 : Int32.toInt 0 = 0 := (by decide); omega), (by have qa0 : Int32.toInt 0 = 0 := (by decide); omega), (by have qa0 : Int32.toInt 0 = 0 := (by decide); omega), (fun R c1 => c1 z670564 n670571 f670572 z670607 z670615 f670619 ez670564 ht670577 r670605 ez670607 hz670615 hf670619)⟩
/- tr_RStringBuilder_append8: a.0...count, a.0.value.#, a.0.value.[] -/
def tr_RStringBuilder_append8 (a1 : Int32) (a0_count : Int32) (a0_value_v : Nat → Int32) (a0_value_n : Nat) (o1 : Int32) (o2 : Nat) (o3 : Nat → Int32) : Prop := ∀ R : (Int32) → (Nat) → (Nat → Int32) → Prop,
  (∀ (x1 : Int32) (x2 : Nat) (x3 : Nat → Int32), gB x1 1 16777216 → tr_RAbstractStringBuilder_append8 a1 a0_count a0_value_v a0_value_n x1 x2 x3 → R x1 x2 x3) →
  R o1 o2 o3
abbrev ky_670549_StringBuilder_append : gKey := (cJ4_append_cf468, 2, "java/lang/StringBuilder", (some (FieldType.object "java/lang/StringBuilder")), [], "append", fun _ _ => True)
def pp_670549_StringBuilder_append (D : va_G) (I : FieldType → ClassId) (P670536 : List Nat) (F670537 : Nat → va_E) (q670538 : Nat) (q670539 : Nat) (p670540 : Int32) (p670541 : Int32) (p670542 : Int32) (f670543 : Nat → Int32) (n670544 : Nat) : Option Value → va_W → Nat → Nat → Prop := fun r w dc ds => ∃ (P670662 : List Nat) (F670663 : Nat → va_E) (o670658 : Int32) (q670659 : Nat) (n670660 : Nat) (f670661 : Nat → Int32), r = some (.ref q670538) ∧ w = va_pl P670662 F670663 ∧ rSub P670536 P670662 ∧ rFr [q670539, q670538] P670536 F670537 F670663 ∧ F670663 q670538 = .inr (1, [.ref q670659, .int 0, .int p670541, .int o670658]) ∧ F670663 q670659 = .inl (I .byte, n670660, .inl f670661) ∧ q670659 ∈ P670662 ∧ (q670659 = q670539 ∨ q670659 ∉ P670536) ∧ dc ≤ 1 ∧ ds ≤ 2 * (n670660 - n670544) ∧ gB o670658 1 16777216 ∧ gF f670661 (-128) 127 ∧ o670658.toInt = p670542.toInt + 1 ∧ o670658.toInt ≤ (n670660 : Int) ∧ (n670544 : Int) ≤ (n670660 : Int) ∧ (n670660 : Int) ≤ 2 * o670658.toInt + 16 ∧ (n670660 : Int) ≤ 2 * (n670544 : Int) + 2 ∧ tr_RStringBuilder_append8 p670540 p670542 f670543 n670544 o670658 n670660 f670661
set_option maxRecDepth 100000 in
set_option maxHeartbeats 4000000 in
theorem cp_670549_StringBuilder_append (l : Launch) (hl0 : l.stackTraces = false) (D : va_G) (I : FieldType → ClassId) (P670536 : List Nat) (F670537 : Nat → va_E) (q670538 : Nat) (q670539 : Nat) (p670540 : Int32) (p670541 : Int32) (p670542 : Int32) (f670543 : Nat → Int32) (n670544 : Nat) (hmq670538 : q670538 ∈ P670536) (hmq670539 : q670539 ∈ P670536) (heq670538 : F670537 q670538 = .inr (1, [.ref q670539, .int 0, .int p670541, .int p670542])) (heq670539 : F670537 q670539 = .inl (I .byte, n670544, .inl f670543)) (bp670540 : gB p670540 0 255) (bp670541 : gB p670541 0 1) (bp670542 : gB p670542 0 16777216) (bf670543 : gF f670543 (-128) 127) (x670545 : (n670544 : Int) ≤ 8388608 - 100000) (x670546 : p670542.toInt ≤ (n670544 : Int)) (x670547 : (n670544 : Int) ≤ 2 * p670542.toInt + 16) (x670548 : ((n670544 : Int) ≤ 16777216)) : CtA (gV D I) l yJ4_append_cf468 cJ4_append_cf468 2 (some (FieldType.object "java/lang/StringBuilder")) 5 105 1 (4 * n670544 + 8) [.ref q670538, .int p670540] (va_pl P670536 F670537) (pp_670549_StringBuilder_append D I P670536 F670537 q670538 q670539 p670540 p670541 p670542 f670543 n670544) gNA := by
  refine CtA_ofF hl0 (by decide +kernel) (Nat.le_of_ble_eq_true rfl) ?_
  refine G_aload_n 0 dr_cJ4_append_cf468_0 rfl ?_
  refine G_iload_n 1 dr_cJ4_append_cf468_1 rfl ?_
  refine Gw_callSU (As := [.int p670540]) (gV_ok D I) (cp_670563_AbstractStringBuilder_append l hl0 D I P670536 F670537 q670538 q670539 p670540 p670541 p670542 f670543 n670544 hmq670538 hmq670539 heq670538 heq670539 bp670540 bp670541 bp670542 bf670543 (by have qa0 : Int32.toInt 0 = 0 := (by decide); omega) (by have qa0 : Int32.toInt 0 = 0 := (by decide); omega) (by have qa0 : Int32.toInt 0 = 0 := (by decide); omega) (by have qa0 : Int32.toInt 0 = 0 := (by decide); omega)) dr_cJ4_append_cf468_2 ⟨wr_8_1, wr_1_19, wr_8_3, by decide, rfl, (Nat.le_of_ble_eq_true rfl), (Nat.le_of_ble_eq_true rfl)⟩ wr_8_2 wr_11_224 wr_7_73 wr_7_44 (by decide) hmq670538 heq670538 rfl (show 0 + 1 ≤ 1 by first | omega | decide) (show 0 + (4 * n670544 + 8) ≤ (4 * n670544 + 8) by first | omega | decide) (Nat.le_of_ble_eq_true rfl) (fun r670633 w670634 dc670630 ds670631 hp670632 => ?_)
  obtain ⟨P670645, F670646, o670635, q670636, n670637, f670638, rfl, rfl, hsb670647, hfr670648, he670649, he670650, hm670651, hq670652, hdc, hds, bo670635, bf670638, x670639, x670640, x670641, x670642, x670643, ht670644⟩ := hp670632
  have hm670653 : q670538 ∈ P670645 := hsb670647 q670538 hmq670538
  have hm670654 : q670539 ∈ P670645 := hsb670647 q670539 hmq670539
  have hor670655 : q670636 = q670539 ∨ q670636 ∉ P670536 := hq670652.elim Or.inl (fun n => Or.inr (fun z => n ((rSub_rf (P := P670536)) _ z)))
  have hsb670656 : rSub P670536 P670645 := rSub_tr (rSub_rf (P := P670536)) hsb670647
  have hfr670657 : rFr [q670539, q670538] P670536 F670537 F670646 := rFr_call (rSub_rf (P := P670536)) (rFr_rf (W := []) (P := P670536) (F := F670537)) hfr670648 (fun b hb hn => ⟨nm_n, (nm_c (fun e => hn (e ▸ List.mem_cons_self)) (nm_c (fun e => hn (e ▸ (List.mem_cons_of_mem _ List.mem_cons_self))) nm_n))⟩)
  change G _ _ _ _ _ _ _ (.ref q670538 :: _) _ _ _
  refine G_widen (cs' := 1) (sl' := 2 * (n670637 - n670544)) (by omega) (by omega) ?_
  refine G_pop dr_cJ4_append_cf468_5 rfl ?_
  refine G_aload_n 0 dr_cJ4_append_cf468_6 rfl ?_
  exact G_aretA (FieldType.object "java/lang/StringBuilder") dr_cJ4_append_cf468_7 rfl (by first | exact Or.inl ⟨_, rfl⟩ | exact Or.inr ⟨_, rfl⟩) (Or.inr ⟨_, rfl⟩) (Nat.le_of_ble_eq_true rfl) (show 2 * (n670637 - n670544) ≤ (4 * n670544 + 8) by omega) ⟨P670645, F670646, o670635, q670636, n670637, f670638, rfl, rfl, hsb670656, hfr670657, he670649, he670650, hm670651, hor670655, (Nat.le_of_ble_eq_true rfl), (by omega), bo670635, bf670638, (by have qa0 : Int32.toInt 0 = 0 := (by decide); omega), (by have qa0 : Int32.toInt 0 = 0 := (by decide); omega), (by have qa0 : Int32.toInt 0 = 0 := (by decide); omega), (by have qa0 : Int32.toInt 0 = 0 := (by decide); omega), (by have qa0 : Int32.toInt 0 = 0 := (by decide); omega), (fun R c1 => c1 o670635 n670637 f670638 bo670635 ht670644)⟩
/- tl_RReader_word_186: a0_at, a3_count, a3_value_n, a3_value_v; out: a0_at, a3_count, a3_value_n, a3_value_v -/
def tl_RReader_word_186 (a0_n : Int32) (a0_t_v : Nat → Int32) (s1 : Int32) (s2 : Int32) (s3 : Nat) (s4 : Nat → Int32) (k : Nat) (e1 : Int32) (e2 : Int32) (e3 : Nat) (e4 : Nat → Int32) : Prop := ∀ R : (Int32) → (Int32) → (Nat) → (Nat → Int32) → Nat → (Int32) → (Int32) → (Nat) → (Nat → Int32) → Prop,
  (∀ (a0_at_1 : Int32) (a3_count_1 : Int32) (a3_value_n_1 : Nat) (a3_value_v_1 : Nat → Int32), gB a0_at_1 0 8192 → gB a3_count_1 0 16777216 → a0_n.toInt ≤ a0_at_1.toInt → R a0_at_1 a3_count_1 a3_value_n_1 a3_value_v_1 240 a0_at_1 a3_count_1 a3_value_n_1 a3_value_v_1) →
  (∀ (a0_at_1 : Int32) (a3_count_1 : Int32) (a3_value_n_1 : Nat) (a3_value_v_1 : Nat → Int32) (x1 : Int32) (x2 : Int32), gB a0_at_1 0 8192 → gB a3_count_1 0 16777216 → a0_at_1.toInt < a0_n.toInt → x1 = a0_t_v a0_at_1.toNatClampNeg → gB x1 (-128) 127 → gB x2 0 1 → tr_RReader_isLetter2 x1 x2 → x2.toInt = 0 → R a0_at_1 a3_count_1 a3_value_n_1 a3_value_v_1 240 a0_at_1 a3_count_1 a3_value_n_1 a3_value_v_1) →
  (∀ (a0_at_1 : Int32) (a3_count_1 : Int32) (a3_value_n_1 : Nat) (a3_value_v_1 : Nat → Int32) (x1 : Int32) (x2 : Int32) (x3 : Int32) (x4 : Int32) (x5 : Nat) (x6 : Nat → Int32) (x7 : Int32) (k : Nat) (e1 : Int32) (e2 : Int32) (e3 : Nat) (e4 : Nat → Int32), gB a0_at_1 0 8192 → gB a3_count_1 0 16777216 → a0_at_1.toInt < a0_n.toInt → x1 = a0_t_v a0_at_1.toNatClampNeg → gB x1 (-128) 127 → gB x2 0 1 → tr_RReader_isLetter2 x1 x2 → x2.toInt ≠ 0 → x3 = (x1.toUInt32 % 65536).toInt32 → gB x4 1 16777216 → tr_RStringBuilder_append8 x3 a3_count_1 a3_value_v_1 a3_value_n_1 x4 x5 x6 → x7.toInt = a0_at_1.toInt + 1 → R x7 x4 x5 x6 k e1 e2 e3 e4 → R a0_at_1 a3_count_1 a3_value_n_1 a3_value_v_1 k e1 e2 e3 e4) →
  R s1 s2 s3 s4 k e1 e2 e3 e4
/- tl_RReader_word_70: l2, a0_at; out: l2, a0_at -/
def tl_RReader_word_70 (a0_n : Int32) (a0_t_v : Nat → Int32) (s1 : Int64) (s2 : Int32) (k : Nat) (e1 : Int64) (e2 : Int32) : Prop := ∀ R : (Int64) → (Int32) → Nat → (Int64) → (Int32) → Prop,
  (∀ (l2_1 : Int64) (a0_at_1 : Int32), gB a0_at_1 0 8192 → a0_n.toInt ≤ a0_at_1.toInt → R l2_1 a0_at_1 136 l2_1 a0_at_1) →
  (∀ (l2_1 : Int64) (a0_at_1 : Int32) (x1 : Int32) (x2 : Int32), gB a0_at_1 0 8192 → a0_at_1.toInt < a0_n.toInt → x1 = a0_t_v a0_at_1.toNatClampNeg → gB x1 (-128) 127 → gB x2 0 1 → tr_RReader_isDigit2 x1 x2 → x2.toInt = 0 → R l2_1 a0_at_1 136 l2_1 a0_at_1) →
  (∀ (l2_1 : Int64) (a0_at_1 : Int32) (x1 : Int32) (x2 : Int32) (x3 : Int64) (x4 : Int64) (x5 : Int64) (x6 : Int64) (x7 : Int64) (x8 : Int32) (k : Nat) (e1 : Int64) (e2 : Int32), gB a0_at_1 0 8192 → a0_at_1.toInt < a0_n.toInt → x1 = a0_t_v a0_at_1.toNatClampNeg → gB x1 (-128) 127 → gB x2 0 1 → tr_RReader_isDigit2 x1 x2 → x2.toInt ≠ 0 → x3 = l2_1 * (10 : Int64) → x4 = x1.toInt64 → x5 = x3 + x4 → x6 = x5 - (48 : Int64) → tr_RMath_min x6 (1000000 : Int64) x7 → x8.toInt = a0_at_1.toInt + 1 → R x7 x8 k e1 e2 → R l2_1 a0_at_1 k e1 e2) →
  R s1 s2 k e1 e2
/- tl_RReader_word_70_2: l2, a0_at; out: l2, a0_at -/
def tl_RReader_word_70_2 (a0_n : Int32) (a0_t_v : Nat → Int32) (s1 : Int64) (s2 : Int32) (k : Nat) (e1 : Int64) (e2 : Int32) : Prop := ∀ R : (Int64) → (Int32) → Nat → (Int64) → (Int32) → Prop,
  (∀ (l2_1 : Int64) (a0_at_1 : Int32), gB a0_at_1 0 8192 → a0_n.toInt ≤ a0_at_1.toInt → R l2_1 a0_at_1 136 l2_1 a0_at_1) →
  (∀ (l2_1 : Int64) (a0_at_1 : Int32) (x1 : Int32) (x2 : Int32), gB a0_at_1 0 8192 → a0_at_1.toInt < a0_n.toInt → x1 = a0_t_v a0_at_1.toNatClampNeg → gB x1 (-128) 127 → gB x2 0 1 → tr_RReader_isDigit2 x1 x2 → x2.toInt = 0 → R l2_1 a0_at_1 136 l2_1 a0_at_1) →
  (∀ (l2_1 : Int64) (a0_at_1 : Int32) (x1 : Int32) (x2 : Int32) (x3 : Int64) (x4 : Int64) (x5 : Int64) (x6 : Int64) (x7 : Int64) (x8 : Int32) (k : Nat) (e1 : Int64) (e2 : Int32), gB a0_at_1 0 8192 → a0_at_1.toInt < a0_n.toInt → x1 = a0_t_v a0_at_1.toNatClampNeg → gB x1 (-128) 127 → gB x2 0 1 → tr_RReader_isDigit2 x1 x2 → x2.toInt ≠ 0 → x3 = l2_1 * (10 : Int64) → x4 = x1.toInt64 → x5 = x3 + x4 → x6 = x5 - (48 : Int64) → tr_RMath_min x6 (1000000 : Int64) x7 → x8.toInt = a0_at_1.toInt + 1 → R x7 x8 k e1 e2 → R l2_1 a0_at_1 k e1 e2) →
  R s1 s2 k e1 e2
/- tr_RReader_word: a.0...at, a.0...kind, a.0...value -/
def tr_RReader_word (a0_n : Int32) (a0_at : Int32) (a0_value : Int32) (a0_t_v : Nat → Int32) (o1 : Int32) (o2 : Int32) (o3 : Int32) (o4 : gTx) : Prop := ∀ R : (Int32) → (Int32) → (Int32) → (gTx) → Prop,
  (∀ (x1 : Int32) (x2 : Int32) (x3 : Int32) (x4 : Nat) (x5 : Nat → Int32) (x6 : Nat) (x7 : Nat → Int32) (x8 : Int32) (x9 : Nat → Int32) (x10 : Int32) (x11 : Nat) (x12 : Nat → Int32) (x13 : Int32) (x14 : Nat) (x15 : Nat → Int32) (x16 : Nat) (x17 : Nat → Int32) (x18 : Int32), x1 = a0_t_v a0_at.toNatClampNeg → gB x1 (-128) 127 → (((∃ (y1 : Int32), x1.toInt = 118 ∧ y1.toInt = a0_at.toInt + 1 ∧ a0_n.toInt ≤ y1.toInt) ∨ (∃ (y1 : Int32) (y2 : Int32) (y3 : Int32), x1.toInt = 118 ∧ y1.toInt = a0_at.toInt + 1 ∧ y1.toInt < a0_n.toInt ∧ y2 = a0_t_v y1.toNatClampNeg ∧ gB y2 (-128) 127 ∧ gB y3 0 1 ∧ tr_RReader_isDigit2 y2 y3 ∧ y3.toInt = 0) ∨ (x1.toInt ≠ 118 ∧ x1.toInt ≠ 98) ∨ (∃ (y1 : Int32), x1.toInt ≠ 118 ∧ x1.toInt = 98 ∧ y1.toInt = a0_at.toInt + 1 ∧ a0_n.toInt ≤ y1.toInt) ∨ (∃ (y1 : Int32) (y2 : Int32) (y3 : Int32), x1.toInt ≠ 118 ∧ x1.toInt = 98 ∧ y1.toInt = a0_at.toInt + 1 ∧ y1.toInt < a0_n.toInt ∧ y2 = a0_t_v y1.toNatClampNeg ∧ gB y2 (-128) 127 ∧ gB y3 0 1 ∧ tr_RReader_isDigit2 y2 y3 ∧ y3.toInt = 0))) → (tl_RReader_word_186 a0_n a0_t_v a0_at (0 : Int32) 16 (fun _ => 0 : Nat → Int32) 240 x2 x3 x4 x5) → tr_RStringBuilder_toString x3 x5 x4 x6 x7 → gB x8 0 16777216 → (tr_RStringBuilder_append4 sb_35 (0 : Int32) (fun _ => 0) 16 x8 x9) → gB x10 0 16777216 → tr_RStringBuilder_append5 x8 x9 16 x7 x6 x10 x11 x12 → gB x13 0 16777216 → tr_RStringBuilder_append6 sb_35 x10 x12 x11 x13 x14 x15 → tr_RStringBuilder_toString x13 x15 x14 x16 x17 → gB x18 (-2147483646) 16777215 → tr_RString_indexOf sb_34 x17 x16 x18 → x18.toInt < 0 → R x2 (6 : Int32) a0_value (0, fun _ => 0)) →
  (∀ (x1 : Int32) (x2 : Int32) (x3 : Int32) (x4 : Nat) (x5 : Nat → Int32) (x6 : Nat) (x7 : Nat → Int32) (x8 : Int32) (x9 : Nat → Int32) (x10 : Int32) (x11 : Nat) (x12 : Nat → Int32) (x13 : Int32) (x14 : Nat) (x15 : Nat → Int32) (x16 : Nat) (x17 : Nat → Int32) (x18 : Int32), x1 = a0_t_v a0_at.toNatClampNeg → gB x1 (-128) 127 → (((∃ (y1 : Int32), x1.toInt = 118 ∧ y1.toInt = a0_at.toInt + 1 ∧ a0_n.toInt ≤ y1.toInt) ∨ (∃ (y1 : Int32) (y2 : Int32) (y3 : Int32), x1.toInt = 118 ∧ y1.toInt = a0_at.toInt + 1 ∧ y1.toInt < a0_n.toInt ∧ y2 = a0_t_v y1.toNatClampNeg ∧ gB y2 (-128) 127 ∧ gB y3 0 1 ∧ tr_RReader_isDigit2 y2 y3 ∧ y3.toInt = 0) ∨ (x1.toInt ≠ 118 ∧ x1.toInt ≠ 98) ∨ (∃ (y1 : Int32), x1.toInt ≠ 118 ∧ x1.toInt = 98 ∧ y1.toInt = a0_at.toInt + 1 ∧ a0_n.toInt ≤ y1.toInt) ∨ (∃ (y1 : Int32) (y2 : Int32) (y3 : Int32), x1.toInt ≠ 118 ∧ x1.toInt = 98 ∧ y1.toInt = a0_at.toInt + 1 ∧ y1.toInt < a0_n.toInt ∧ y2 = a0_t_v y1.toNatClampNeg ∧ gB y2 (-128) 127 ∧ gB y3 0 1 ∧ tr_RReader_isDigit2 y2 y3 ∧ y3.toInt = 0))) → (tl_RReader_word_186 a0_n a0_t_v a0_at (0 : Int32) 16 (fun _ => 0 : Nat → Int32) 240 x2 x3 x4 x5) → tr_RStringBuilder_toString x3 x5 x4 x6 x7 → gB x8 0 16777216 → (tr_RStringBuilder_append4 sb_35 (0 : Int32) (fun _ => 0) 16 x8 x9) → gB x10 0 16777216 → tr_RStringBuilder_append5 x8 x9 16 x7 x6 x10 x11 x12 → gB x13 0 16777216 → tr_RStringBuilder_append6 sb_35 x10 x12 x11 x13 x14 x15 → tr_RStringBuilder_toString x13 x15 x14 x16 x17 → gB x18 (-2147483646) 16777215 → tr_RString_indexOf sb_34 x17 x16 x18 → 0 ≤ x18.toInt → R x2 (1 : Int32) a0_value (x6, x7)) →
  (∀ (x1 : Int32) (x2 : Int32) (x3 : Int32) (x4 : Int32) (x5 : Int64) (x6 : Int32) (x7 : Int32) (x8 : Int32), x1 = a0_t_v a0_at.toNatClampNeg → gB x1 (-128) 127 → x1.toInt = 118 → x2.toInt = a0_at.toInt + 1 → x2.toInt < a0_n.toInt → x3 = a0_t_v x2.toNatClampNeg → gB x3 (-128) 127 → gB x4 0 1 → tr_RReader_isDigit2 x3 x4 → x4.toInt ≠ 0 → tl_RReader_word_70 a0_n a0_t_v (0 : Int64) x2 136 x5 x6 → x7 = x5.toInt32 → x8 = lg_cmp x5 (99 : Int64) → 0 < x8.toInt → R x6 (6 : Int32) x7 (0, fun _ => 0)) →
  (∀ (x1 : Int32) (x2 : Int32) (x3 : Int32) (x4 : Int32) (x5 : Int64) (x6 : Int32) (x7 : Int32) (x8 : Int32), x1 = a0_t_v a0_at.toNatClampNeg → gB x1 (-128) 127 → x1.toInt = 118 → x2.toInt = a0_at.toInt + 1 → x2.toInt < a0_n.toInt → x3 = a0_t_v x2.toNatClampNeg → gB x3 (-128) 127 → gB x4 0 1 → tr_RReader_isDigit2 x3 x4 → x4.toInt ≠ 0 → tl_RReader_word_70 a0_n a0_t_v (0 : Int64) x2 136 x5 x6 → x7 = x5.toInt32 → x8 = lg_cmp x5 (99 : Int64) → x8.toInt ≤ 0 → R x6 (2 : Int32) x7 (0, fun _ => 0)) →
  (∀ (x1 : Int32) (x2 : Int32) (x3 : Int32) (x4 : Int32) (x5 : Int64) (x6 : Int32) (x7 : Int32) (x8 : Int32), x1 = a0_t_v a0_at.toNatClampNeg → gB x1 (-128) 127 → x1.toInt ≠ 118 → x1.toInt = 98 → x2.toInt = a0_at.toInt + 1 → x2.toInt < a0_n.toInt → x3 = a0_t_v x2.toNatClampNeg → gB x3 (-128) 127 → gB x4 0 1 → tr_RReader_isDigit2 x3 x4 → x4.toInt ≠ 0 → tl_RReader_word_70_2 a0_n a0_t_v (0 : Int64) x2 136 x5 x6 → x7 = x5.toInt32 → x8 = lg_cmp x5 (39 : Int64) → 0 < x8.toInt → R x6 (6 : Int32) x7 (0, fun _ => 0)) →
  (∀ (x1 : Int32) (x2 : Int32) (x3 : Int32) (x4 : Int32) (x5 : Int64) (x6 : Int32) (x7 : Int32) (x8 : Int32), x1 = a0_t_v a0_at.toNatClampNeg → gB x1 (-128) 127 → x1.toInt ≠ 118 → x1.toInt = 98 → x2.toInt = a0_at.toInt + 1 → x2.toInt < a0_n.toInt → x3 = a0_t_v x2.toNatClampNeg → gB x3 (-128) 127 → gB x4 0 1 → tr_RReader_isDigit2 x3 x4 → x4.toInt ≠ 0 → tl_RReader_word_70_2 a0_n a0_t_v (0 : Int64) x2 136 x5 x6 → x7 = x5.toInt32 → x8 = lg_cmp x5 (39 : Int64) → x8.toInt ≤ 0 → R x6 (3 : Int32) x7 (0, fun _ => 0)) →
  R o1 o2 o3 o4
abbrev ky_669881_Reader_word : gKey := (cX14_word, 4, "SpillForgeModel$Reader", none, [], "word", fun _ _ => True)
def pp_669881_Reader_word (D : va_G) (I : FieldType → ClassId) (P669858 : List Nat) (F669859 : Nat → va_E) (q669860 : Nat) (q669861 : Nat) (p669862 : Int32) (p669863 : Int32) (p669864 : Int32) (p669865 : Int32) (p669866 : Int32) (p669867 : Int32) (qo669868 : Nat) (p669869 : Int32) (p669870 : Int32) (p669871 : Int32) (qo669872 : Nat) (qo669873 : Nat) (p669874 : Int32) (f669875 : Nat → Int32) : Option Value → va_W → Nat → Nat → Prop := fun r w dc ds => ∃ (P672506 : List Nat) (F672507 : Nat → va_E) (o672502 : Int32) (o672503 : Int32) (o672504 : Int32) (q672505 : Nat) (xt672508 : gTx), r = none ∧ w = va_pl P672506 F672507 ∧ rSub P669858 P672506 ∧ rFr [q669860] P669858 F669859 F672507 ∧ F672507 q669860 = .inr (19, [.ref q669861, .int p669862, .int o672502, .int o672503, .int p669865, .int o672504, .int p669867, .ref q672505, .int p669869, .int p669870, .int p669871, .ref qo669872, .ref qo669873, .int p669874]) ∧ F672507 q669861 = .inl (I .byte, 8192, .inl f669875) ∧ dc ≤ (16 * (o672502.toInt - p669863.toInt)).toNat ∧ ds ≤ (160 * (o672502.toInt - p669863.toInt)).toNat ∧ gB o672502 0 8192 ∧ gB o672503 1 6 ∧ p669863.toInt < o672502.toInt ∧ o672502.toInt ≤ p669862.toInt ∧ tP I P672506 F672507 o672503 q672505 qo669873 qo669872 xt672508 ∧ vP o672503 o672504 ∧ tr_RReader_word p669862 p669863 p669866 f669875 o672502 o672503 o672504 xt672508
set_option maxRecDepth 100000 in
set_option maxHeartbeats 4000000 in
theorem cp_669881_Reader_word (l : Launch) (hl0 : l.stackTraces = false) (D : va_G) (I : FieldType → ClassId) (P669858 : List Nat) (F669859 : Nat → va_E) (q669860 : Nat) (q669861 : Nat) (p669862 : Int32) (p669863 : Int32) (p669864 : Int32) (p669865 : Int32) (p669866 : Int32) (p669867 : Int32) (qo669868 : Nat) (p669869 : Int32) (p669870 : Int32) (p669871 : Int32) (qo669872 : Nat) (qo669873 : Nat) (p669874 : Int32) (f669875 : Nat → Int32) (hmq669860 : q669860 ∈ P669858) (hmq669861 : q669861 ∈ P669858) (heq669860 : F669859 q669860 = .inr (19, [.ref q669861, .int p669862, .int p669863, .int p669864, .int p669865, .int p669866, .int p669867, .ref qo669868, .int p669869, .int p669870, .int p669871, .ref qo669872, .ref qo669873, .int p669874])) (heq669861 : F669859 q669861 = .inl (I .byte, 8192, .inl f669875)) (bp669862 : gB p669862 0 8192) (bp669863 : gB p669863 0 8192) (bp669864 : gB p669864 0 6) (bp669865 : gB p669865 0 8192) (bp669867 : gB p669867 0 6) (bp669869 : gB p669869 (-1) 8192) (bp669870 : gB p669870 0 4) (bp669871 : gB p669871 0 1000000) (bp669874 : gB p669874 0 1000000) (bf669875 : gF f669875 (-128) 127) (x669876 : p669863.toInt ≤ p669862.toInt) (x669877 : p669863.toInt < p669862.toInt) (x669878 : cLt f669875 p669863) (x669879 : qo669873 ∈ P669858) (x669880 : qo669872 ∈ P669858) : CtA (gV D I) l yX14_word cX14_word 4 none 6 132 ((16 * (p669862.toInt - p669863.toInt)).toNat) ((160 * (p669862.toInt - p669863.toInt)).toNat) [.ref q669860] (va_pl P669858 F669859) (pp_669881_Reader_word D I P669858 F669859 q669860 q669861 p669862 p669863 p669864 p669865 p669866 p669867 qo669868 p669869 p669870 p669871 qo669872 qo669873 p669874 f669875) gNA := by
  refine CtA_of hl0 (by decide) (Nat.le_of_ble_eq_true rfl) ?_
  have bp669866 := gB_any p669866
  refine G_aload_n 0 dr_cX14_word_0 rfl ?_
  refine Gp_get 0 hmq669860 heq669860 dr_cX14_word_1 (gk_X14 D I) (Nat.le_of_ble_eq_true rfl) wr_9_36 rfl ?_
  refine G_aload_n 0 dr_cX14_word_4 rfl ?_
  refine Gp_get 2 hmq669860 heq669860 dr_cX14_word_5 (gk_X14 D I) (Nat.le_of_ble_eq_true rfl) wr_9_38 rfl ?_
  refine Gp_bald 1 hmq669861 heq669861 dr_cX14_word_8 rfl (gB_inr (by omega) (by omega)) (G_nam fun z669882 hz669882 => ?_)
  have bz669882 : gB z669882 (-128) 127 := by rw [hz669882]; exact bf669875 _
  refine G_istore_n (L' := [(1, .int z669882), (0, .ref q669860)]) dr_cX14_word_9 (Nat.le_of_ble_eq_true rfl) rfl ?_
  refine G_aload_n 1 dr_cX14_word_10 rfl ?_
  refine G_bipush 6 dr_cX14_word_11 (by decide +kernel) ?_
  refine Gp_put 3 hmq669860 heq669860 dr_cX14_word_13 (gk_X14 D I) (Nat.le_of_ble_eq_true rfl) wr_9_39 rfl rfl rfl (Nat.le_of_ble_eq_true rfl) (fun F669883 e669884 n669885 => ?_)
  have he669886 : F669883 q669861 = .inl (I .byte, 8192, .inl f669875) := (n669885 q669861 (rn_ao heq669861 heq669860)).trans heq669861
  have he669887 : F669883 q669860 = .inr (19, [.ref q669861, .int p669862, .int p669863, .int 6, .int p669865, .int p669866, .int p669867, .ref qo669868, .int p669869, .int p669870, .int p669871, .ref qo669872, .ref qo669873, .int p669874]) := e669884
  have hfr669888 : rFr [q669860] P669858 F669859 F669883 := rFr_put (rFr_rf (W := []) (P := P669858) (F := F669859)) n669885
  have jn669889 : ((∃ (y1 : Int32), z669882.toInt = 118 ∧ y1.toInt = p669863.toInt + 1 ∧ p669862.toInt ≤ y1.toInt) ∨ (∃ (y1 : Int32) (y2 : Int32) (y3 : Int32), z669882.toInt = 118 ∧ y1.toInt = p669863.toInt + 1 ∧ y1.toInt < p669862.toInt ∧ y2 = f669875 y1.toNatClampNeg ∧ gB y2 (-128) 127 ∧ gB y3 0 1 ∧ tr_RReader_isDigit2 y2 y3 ∧ y3.toInt = 0) ∨ (z669882.toInt ≠ 118 ∧ z669882.toInt ≠ 98) ∨ (∃ (y1 : Int32), z669882.toInt ≠ 118 ∧ z669882.toInt = 98 ∧ y1.toInt = p669863.toInt + 1 ∧ p669862.toInt ≤ y1.toInt) ∨ (∃ (y1 : Int32) (y2 : Int32) (y3 : Int32), z669882.toInt ≠ 118 ∧ z669882.toInt = 98 ∧ y1.toInt = p669863.toInt + 1 ∧ y1.toInt < p669862.toInt ∧ y2 = f669875 y1.toNatClampNeg ∧ gB y2 (-128) 127 ∧ gB y3 0 1 ∧ tr_RReader_isDigit2 y2 y3 ∧ y3.toInt = 0)) → G (gV D I) l (gRm 6 132 ((16 * (p669862.toInt - p669863.toInt)).toNat) ((160 * (p669862.toInt - p669863.toInt)).toNat)) (gMA (gV D I) (pp_669881_Reader_word D I P669858 F669859 q669860 q669861 p669862 p669863 p669864 p669865 p669866 p669867 qo669868 p669869 p669870 p669871 qo669872 qo669873 p669874 f669875) gNA ((16 * (p669862.toInt - p669863.toInt)).toNat) ((160 * (p669862.toInt - p669863.toInt)).toNat)) ky_669881_Reader_word 178 [(1, .int z669882), (0, .ref q669860)] [] (va_pl P669858 F669883) 0 0 := by
    intro hJ669890
    refine G_new [.null, .int 0, .int 0, .int 0] dr_cX14_word_178 (gk_J4 D I) wr_7_235 wr_7_44 wr_1_20 (gfs_J4) (show 0 + 1 ≤ ((16 * (p669862.toInt - p669863.toInt)).toNat) by first | omega | decide) (show 0 + 4 ≤ ((160 * (p669862.toInt - p669863.toInt)).toNat) by first | omega | decide) (fun q669891 => Gp_in (fun P669892 F669893 hq669894 hP669895 e669896 n669897 => ?_))
    refine G_widen (cs' := 1) (sl' := 4) (by omega) (by omega) ?_
    have he669898 : F669893 q669860 = .inr (19, [.ref q669861, .int p669862, .int p669863, .int 6, .int p669865, .int p669866, .int p669867, .ref qo669868, .int p669869, .int p669870, .int p669871, .ref qo669872, .ref qo669873, .int p669874]) := (n669897 q669860 (fun h => hq669894 (h ▸ hmq669860))).trans he669887
    have he669899 : F669893 q669861 = .inl (I .byte, 8192, .inl f669875) := (n669897 q669861 (fun h => hq669894 (h ▸ hmq669861))).trans he669886
    have he669900 : F669893 q669891 = .inr (1, [.null, .int 0, .int 0, .int 0]) := e669896
    have hm669901 : q669860 ∈ P669892 := (hP669895 q669860).mpr (Or.inl hmq669860)
    have hm669902 : q669861 ∈ P669892 := (hP669895 q669861).mpr (Or.inl hmq669861)
    have hm669903 : q669891 ∈ P669892 := (hP669895 q669891).mpr (Or.inr rfl)
    have hq669904 : q669891 ∉ P669858 := fun z => hq669894 ((rSub_rf (P := P669858)) q669891 z)
    have hfr669905 : rFr [q669860] P669858 F669859 F669893 := rFr_new (rSub_rf (P := P669858)) hq669894 hfr669888 n669897
    have hsb669906 : rSub P669858 P669892 := rSub_new (rSub_rf (P := P669858)) hP669895
    refine G_dup dr_cX14_word_181 rfl ?_
    refine Gw_callI (As := []) (gV_ok D I) (cp_659115_StringBuilder_init l hl0 D I P669892 F669893 q669891 0 0 hm669903 he669900 (gB_w (gBl (show Int32.toInt 0 = 0 by decide)) (by decide) (by decide)) (gB_w (gBl (show Int32.toInt 0 = 0 by decide)) (by decide) (by decide))) dr_cX14_word_182 ⟨wr_7_236, wr_1_20, wr_7_47, by decide, rfl, (Nat.le_of_ble_eq_true rfl), (Nat.le_of_ble_eq_true rfl)⟩ wr_7_46 rfl (show 1 + 1 ≤ ((16 * (p669862.toInt - p669863.toInt)).toNat) by first | omega | decide) (show 4 + 16 ≤ ((160 * (p669862.toInt - p669863.toInt)).toNat) by first | omega | decide) (Nat.le_of_ble_eq_true rfl) (fun r669910 w669911 dc669907 ds669908 hp669909 => ?_)
    obtain ⟨P669913, F669914, q669912, rfl, rfl, hsb669915, hfr669916, he669917, he669918, hm669919, hq669920, hdc, hds⟩ := hp669909
    have hm669921 : q669860 ∈ P669913 := hsb669915 q669860 hm669901
    have hm669922 : q669861 ∈ P669913 := hsb669915 q669861 hm669902
    have hm669923 : q669891 ∈ P669913 := hsb669915 q669891 hm669903
    have hq669924 : q669912 ∉ P669858 := fun z => hq669920 (hsb669906 q669912 z)
    have hsb669925 : rSub P669858 P669913 := rSub_tr hsb669906 hsb669915
    have he669926 : F669914 q669860 = .inr (19, [.ref q669861, .int p669862, .int p669863, .int 6, .int p669865, .int p669866, .int p669867, .ref qo669868, .int p669869, .int p669870, .int p669871, .ref qo669872, .ref qo669873, .int p669874]) := (hfr669916 q669860 hm669901 (nm_c (fun h => hq669904 (h ▸ hmq669860)) nm_n)).trans he669898
    have he669927 : F669914 q669861 = .inl (I .byte, 8192, .inl f669875) := (hfr669916 q669861 hm669902 (nm_c (fun h => hq669904 (h ▸ hmq669861)) nm_n)).trans he669899
    have hfr669928 : rFr [q669860] P669858 F669859 F669914 := rFr_call hsb669906 hfr669905 hfr669916 (fun b hb hn => ⟨(nm_c (fun e => hn (e ▸ List.mem_cons_self)) nm_n), (nm_c (fun e => hq669904 (e ▸ hb)) nm_n)⟩)
    change G _ _ _ _ _ _ _ _ _ _ _
    refine G_widen (cs' := 2) (sl' := 20) (by omega) (by omega) ?_
    refine G_astore_n (L' := [(2, .ref q669891), (1, .int z669882), (0, .ref q669860)]) dr_cX14_word_185 (Nat.le_of_ble_eq_true rfl) rfl ?_
    refine G_widen (cs' := 2 + (0 : Int).toNat) (sl' := 4 + 2 * 16) (by omega) (by omega) ?_
    have hlp186_671381 : ∀ (n186_671381 : Nat) (P671371 : List Nat) (F671365 : Nat → va_E) (g671359 : Int32) (g671360 : Int32) (q671361 : Nat) (n671362 : Nat) (f671363 : Nat → Int32), gB g671359 0 8192 → gB g671360 0 16777216 → gF f671363 (-128) 127 → rSub P669858 P671371 → rFr [q669860] P669858 F669859 F671365 → q669860 ∈ P671371 → F671365 q669860 = .inr (19, [.ref q669861, .int p669862, .int g671359, .int 6, .int p669865, .int p669866, .int p669867, .ref qo669868, .int p669869, .int p669870, .int p669871, .ref qo669872, .ref qo669873, .int p669874]) → q669861 ∈ P671371 → F671365 q669861 = .inl (I .byte, 8192, .inl f669875) → q669891 ∈ P671371 → F671365 q669891 = .inr (1, [.ref q671361, .int 0, .int 0, .int g671360]) → q671361 ∈ P671371 → F671365 q671361 = .inl (I .byte, n671362, .inl f671363) → q671361 ∉ P669858 → p669863.toInt ≤ g671359.toInt → g671359.toInt ≤ p669862.toInt → g671360.toInt = g671359.toInt - p669863.toInt → g671360.toInt ≤ (n671362 : Int) → (n671362 : Int) ≤ 2 * g671360.toInt + 16 → (∀ (k : Nat) (e1 : Int32) (e2 : Int32) (e3 : Nat) (e4 : Nat → Int32), tl_RReader_word_186 p669862 f669875 g671359 g671360 n671362 f671363 k e1 e2 e3 e4 → tl_RReader_word_186 p669862 f669875 p669863 (0 : Int32) 16 (fun _ => 0 : Nat → Int32) k e1 e2 e3 e4) → ((8193 : Int) - g671359.toInt).toNat < n186_671381 → G (gV D I) l (gRm 6 132 ((16 * (p669862.toInt - p669863.toInt)).toNat) ((160 * (p669862.toInt - p669863.toInt)).toNat)) (gMA (gV D I) (pp_669881_Reader_word D I P669858 F669859 q669860 q669861 p669862 p669863 p669864 p669865 p669866 p669867 qo669868 p669869 p669870 p669871 qo669872 qo669873 p669874 f669875) gNA ((16 * (p669862.toInt - p669863.toInt)).toNat) ((160 * (p669862.toInt - p669863.toInt)).toNat)) ky_669881_Reader_word 186 [(2, .ref q669891), (1, .int z669882), (0, .ref q669860)] [] (va_pl P671371 F671365) (2 + (g671360.toInt : Int).toNat) (4 + 2 * n671362) := by
      intro n186_671381
      induction n186_671381 with
      | zero => intro P671371 F671365 g671359 g671360 q671361 n671362 f671363 bg671359 bg671360 bf671363 hsb671376 hfr671370 hm671372 he671366 hm671373 he671367 hm671374 he671368 hm671375 he671369 hq671364 x671377 x671378 x671379 x671380 x671381 kt186_671381 hm186_671381; exact absurd hm186_671381 (Nat.not_lt_zero _)
      | succ n186_671381 ih186_671381 =>
        intro P671371 F671365 g671359 g671360 q671361 n671362 f671363 bg671359 bg671360 bf671363 hsb671376 hfr671370 hm671372 he671366 hm671373 he671367 hm671374 he671368 hm671375 he671369 hq671364 x671377 x671378 x671379 x671380 x671381 kt186_671381 hm186_671381
        refine G_aload_n 2 dr_cX14_word_186 rfl ?_
        refine Gp_get 2 hm671372 he671366 dr_cX14_word_187 (gk_X14 D I) (Nat.le_of_ble_eq_true rfl) wr_9_38 rfl ?_
        refine G_aload_n 2 dr_cX14_word_190 rfl ?_
        refine Gp_get 1 hm671372 he671366 dr_cX14_word_191 (gk_X14 D I) (Nat.le_of_ble_eq_true rfl) wr_9_37 rfl ?_
        refine G_icmp_ge 240 dr_cX14_word_194 (by decide +kernel) (fun hc671382 => ?_) (fun hc671382 => ?_)
        · have r671383 : p669862.toInt ≤ g671359.toInt := gC_le hc671382
          have hx671384 : tl_RReader_word_186 p669862 f669875 p669863 (0 : Int32) 16 (fun _ => 0 : Nat → Int32) 240 g671359 g671360 n671362 f671363 := kt186_671381 240 g671359 g671360 n671362 f671363 (fun R c1 c2 c3 => c1 g671359 g671360 n671362 f671363 bg671359 bg671360 r671383)
          have x671385 : p669863.toInt < g671359.toInt := by first | omega | exact cLt_lt x669878 (by assumption) (isP_0 (by assumption) (by omega)) (by omega)
          refine G_aload_n 2 dr_cX14_word_240 rfl ?_
          refine G_aload_n 0 dr_cX14_word_241 rfl ?_
          refine Gw_callV (As := []) (gV_ok D I) (cp_659890_StringBuilder_toString l hl0 D I P671371 F671365 q669891 q671361 0 g671360 f671363 n671362 hm671374 hm671375 he671368 he671369 (gB_w (gBl (show Int32.toInt 0 = 0 by decide)) (by decide) (by decide)) bg671360 bf671363 (by have qa0 : Int32.toInt 0 = 0 := (by decide); have qa1 : Int32.toInt 6 = 6 := (by decide); omega) (by have qa0 : Int32.toInt 0 = 0 := (by decide); have qa1 : Int32.toInt 6 = 6 := (by decide); omega)) dr_cX14_word_242 ⟨wr_8_66, wr_1_20, wr_8_69, by decide, rfl, (Nat.le_of_ble_eq_true rfl), (Nat.le_of_ble_eq_true rfl)⟩ wr_8_67 wr_8_68 hm671374 he671368 rfl (show 2 + (g671360.toInt : Int).toNat + 2 ≤ ((16 * (p669862.toInt - p669863.toInt)).toNat) by first | omega | decide) (show 4 + 2 * n671362 + (g671360.toInt.toNat + 4) ≤ ((160 * (p669862.toInt - p669863.toInt)).toNat) by first | omega | decide) (Nat.le_of_ble_eq_true rfl) (fun r671389 w671390 dc671386 ds671387 hp671388 => ?_) (fun _ _ _ _ _ z => z.elim)
          obtain ⟨P671398, F671399, q671391, q671392, n671393, f671394, rfl, rfl, hsb671400, hfr671401, he671402, he671403, he671404, he671405, hm671406, hq671407, hm671408, hq671409, hdc, hds, bf671394, x671395, x671396, ht671397⟩ := hp671388
          have hm671410 : q669860 ∈ P671398 := hsb671400 q669860 hm671372
          have hm671411 : q669861 ∈ P671398 := hsb671400 q669861 hm671373
          have hm671412 : q669891 ∈ P671398 := hsb671400 q669891 hm671374
          have hm671413 : q671361 ∈ P671398 := hsb671400 q671361 hm671375
          have hq671414 : q671391 ∉ P669858 := fun z => hq671407 (hsb671376 q671391 z)
          have hq671415 : q671392 ∉ P669858 := fun z => hq671409 (hsb671376 q671392 z)
          have hsb671416 : rSub P669858 P671398 := rSub_tr hsb671376 hsb671400
          have he671417 : F671399 q669860 = .inr (19, [.ref q669861, .int p669862, .int g671359, .int 6, .int p669865, .int p669866, .int p669867, .ref qo669868, .int p669869, .int p669870, .int p669871, .ref qo669872, .ref qo669873, .int p669874]) := (hfr671401 q669860 hm671372 nm_n).trans he671366
          have he671418 : F671399 q669861 = .inl (I .byte, 8192, .inl f669875) := (hfr671401 q669861 hm671373 nm_n).trans he671367
          have hfr671419 : rFr [q669860] P669858 F669859 F671399 := rFr_call hsb671376 hfr671370 hfr671401 (fun b hb hn => ⟨(nm_c (fun e => hn (e ▸ List.mem_cons_self)) nm_n), nm_n⟩)
          have hne671420 : q671361 ≠ q671392 := fun h => hq671409 (h ▸ hm671375)
          change G _ _ _ _ _ _ _ (.ref q671391 :: _) _ _ _
          refine G_widen (cs' := 2 + (g671360.toInt : Int).toNat + 2) (sl' := 4 + 2 * n671362 + (g671360.toInt.toNat + 4)) (by omega) (by omega) ?_
          have x671421 : (n671393 : Int) = g671359.toInt - p669863.toInt := by omega
          clear he669886 he669887 hfr669888 he669898 he669899 he669900 hm669901 hm669902 hm669903 hfr669905 hsb669906 hsb669915 hfr669916 he669917 he669918 hm669919 hq669920 hm669921 hm669922 hm669923 hq669924 hsb669925 he669926 he669927 hfr669928 hsb671400 hfr671401 hq671407 hq671409; try clear r669910; try clear w669911; try clear dc669907; try clear ds669908; try clear hp669909; try clear r671389; try clear w671390; try clear dc671386; try clear ds671387; try clear hp671388
          refine Gp_put 7 hm671410 he671417 dr_cX14_word_245 (gk_X14 D I) (Nat.le_of_ble_eq_true rfl) wr_9_43 rfl rfl rfl (Nat.le_of_ble_eq_true rfl) (fun F671422 e671423 n671424 => ?_)
          have he671425 : F671422 q669861 = .inl (I .byte, 8192, .inl f669875) := (n671424 q669861 (rn_ao he671418 he671417)).trans he671418
          have he671426 : F671422 q671391 = .inr (0, [.ref q671392, .int 0, .int 0, .int 0]) := (n671424 q671391 (fun h => hq671414 (h ▸ hmq669860))).trans he671402
          have he671427 : F671422 q669891 = .inr (1, [.ref q671361, .int 0, .int 0, .int g671360]) := (n671424 q669891 (fun h => hq669904 (h ▸ hmq669860))).trans he671403
          have he671428 : F671422 q671361 = .inl (I .byte, n671362, .inl f671363) := (n671424 q671361 (fun h => hq671364 (h ▸ hmq669860))).trans he671404
          have he671429 : F671422 q671392 = .inl (I .byte, n671393, .inl f671394) := (n671424 q671392 (fun h => hq671415 (h ▸ hmq669860))).trans he671405
          have he671430 : F671422 q669860 = .inr (19, [.ref q669861, .int p669862, .int g671359, .int 6, .int p669865, .int p669866, .int p669867, .ref q671391, .int p669869, .int p669870, .int p669871, .ref qo669872, .ref qo669873, .int p669874]) := e671423
          have hfr671431 : rFr [q669860] P669858 F669859 F671422 := rFr_put' List.mem_cons_self hfr671419 n671424
          refine G_widen (cs' := (4 + (g671359.toInt - p669863.toInt) : Int).toNat) (sl' := (40 + 5 * (g671359.toInt - p669863.toInt) : Int).toNat) (by omega) (by omega) ?_
          clear he671402 he671403 he671404 he671405 he671417 he671418 hfr671419
          refine G_ldcK (a := D.2 1000 34) dr_cX14_word_248 (fun _ _ _ h => gx_vk 34 rfl rfl h) ?_
          have hl34_671431 : (sb_34.length : Int) = 25 := rfl
          refine G_new [.null, .int 0, .int 0, .int 0] dr_cX14_word_250 (gk_J4 D I) wr_7_235 wr_7_44 wr_1_20 (gfs_J4) (show (4 + (g671359.toInt - p669863.toInt) : Int).toNat + 1 ≤ ((16 * (p669862.toInt - p669863.toInt)).toNat) by first | omega | decide) (show (40 + 5 * (g671359.toInt - p669863.toInt) : Int).toNat + 4 ≤ ((160 * (p669862.toInt - p669863.toInt)).toNat) by first | omega | decide) (fun q671433 => Gp_in (fun P671434 F671435 hq671436 hP671437 e671438 n671439 => ?_))
          refine G_widen (cs' := (4 + (g671359.toInt - p669863.toInt) : Int).toNat + 1) (sl' := (40 + 5 * (g671359.toInt - p669863.toInt) : Int).toNat + 4) (by omega) (by omega) ?_
          have he671440 : F671435 q669860 = .inr (19, [.ref q669861, .int p669862, .int g671359, .int 6, .int p669865, .int p669866, .int p669867, .ref q671391, .int p669869, .int p669870, .int p669871, .ref qo669872, .ref qo669873, .int p669874]) := (n671439 q669860 (fun h => hq671436 (h ▸ hm671410))).trans he671430
          have he671441 : F671435 q669861 = .inl (I .byte, 8192, .inl f669875) := (n671439 q669861 (fun h => hq671436 (h ▸ hm671411))).trans he671425
          have he671442 : F671435 q671391 = .inr (0, [.ref q671392, .int 0, .int 0, .int 0]) := (n671439 q671391 (fun h => hq671436 (h ▸ hm671406))).trans he671426
          have he671443 : F671435 q669891 = .inr (1, [.ref q671361, .int 0, .int 0, .int g671360]) := (n671439 q669891 (fun h => hq671436 (h ▸ hm671412))).trans he671427
          have he671444 : F671435 q671361 = .inl (I .byte, n671362, .inl f671363) := (n671439 q671361 (fun h => hq671436 (h ▸ hm671413))).trans he671428
          have he671445 : F671435 q671392 = .inl (I .byte, n671393, .inl f671394) := (n671439 q671392 (fun h => hq671436 (h ▸ hm671408))).trans he671429
          have he671446 : F671435 q671433 = .inr (1, [.null, .int 0, .int 0, .int 0]) := e671438
          have hm671447 : q669860 ∈ P671434 := (hP671437 q669860).mpr (Or.inl hm671410)
          have hm671448 : q669861 ∈ P671434 := (hP671437 q669861).mpr (Or.inl hm671411)
          have hm671449 : q669891 ∈ P671434 := (hP671437 q669891).mpr (Or.inl hm671412)
          have hm671450 : q671361 ∈ P671434 := (hP671437 q671361).mpr (Or.inl hm671413)
          have hm671451 : q671391 ∈ P671434 := (hP671437 q671391).mpr (Or.inl hm671406)
          have hm671452 : q671392 ∈ P671434 := (hP671437 q671392).mpr (Or.inl hm671408)
          have hm671453 : q671433 ∈ P671434 := (hP671437 q671433).mpr (Or.inr rfl)
          have hq671454 : q671433 ∉ P669858 := fun z => hq671436 (hsb671416 q671433 z)
          have hfr671455 : rFr [q669860] P669858 F669859 F671435 := rFr_new hsb671416 hq671436 hfr671431 n671439
          have hsb671456 : rSub P669858 P671434 := rSub_new hsb671416 hP671437
          have hne671457 : q669891 ≠ q671433 := fun h => hq671436 (h ▸ hm671412)
          refine G_dup dr_cX14_word_253 rfl ?_
          refine Gw_callI (As := []) (gV_ok D I) (cp_659115_StringBuilder_init l hl0 D I P671434 F671435 q671433 0 0 hm671453 he671446 (gB_w (gBl (show Int32.toInt 0 = 0 by decide)) (by decide) (by decide)) (gB_w (gBl (show Int32.toInt 0 = 0 by decide)) (by decide) (by decide))) dr_cX14_word_254 ⟨wr_7_236, wr_1_20, wr_7_47, by decide, rfl, (Nat.le_of_ble_eq_true rfl), (Nat.le_of_ble_eq_true rfl)⟩ wr_7_46 rfl (show (4 + (g671359.toInt - p669863.toInt) : Int).toNat + 1 + 1 ≤ ((16 * (p669862.toInt - p669863.toInt)).toNat) by first | omega | decide) (show (40 + 5 * (g671359.toInt - p669863.toInt) : Int).toNat + 4 + 16 ≤ ((160 * (p669862.toInt - p669863.toInt)).toNat) by first | omega | decide) (Nat.le_of_ble_eq_true rfl) (fun r671461 w671462 dc671458 ds671459 hp671460 => ?_)
          obtain ⟨P671464, F671465, q671463, rfl, rfl, hsb671466, hfr671467, he671468, he671469, hm671470, hq671471, hdc, hds⟩ := hp671460
          have hm671472 : q669860 ∈ P671464 := hsb671466 q669860 hm671447
          have hm671473 : q669861 ∈ P671464 := hsb671466 q669861 hm671448
          have hm671474 : q669891 ∈ P671464 := hsb671466 q669891 hm671449
          have hm671475 : q671361 ∈ P671464 := hsb671466 q671361 hm671450
          have hm671476 : q671391 ∈ P671464 := hsb671466 q671391 hm671451
          have hm671477 : q671392 ∈ P671464 := hsb671466 q671392 hm671452
          have hm671478 : q671433 ∈ P671464 := hsb671466 q671433 hm671453
          have hq671479 : q671463 ∉ P669858 := fun z => hq671471 (hsb671456 q671463 z)
          have hsb671480 : rSub P669858 P671464 := rSub_tr hsb671456 hsb671466
          have he671481 : F671465 q669860 = .inr (19, [.ref q669861, .int p669862, .int g671359, .int 6, .int p669865, .int p669866, .int p669867, .ref q671391, .int p669869, .int p669870, .int p669871, .ref qo669872, .ref qo669873, .int p669874]) := (hfr671467 q669860 hm671447 (nm_c (fun h => hq671454 (h ▸ hmq669860)) nm_n)).trans he671440
          have he671482 : F671465 q669861 = .inl (I .byte, 8192, .inl f669875) := (hfr671467 q669861 hm671448 (nm_c (fun h => hq671454 (h ▸ hmq669861)) nm_n)).trans he671441
          have he671483 : F671465 q671391 = .inr (0, [.ref q671392, .int 0, .int 0, .int 0]) := (hfr671467 q671391 hm671451 (nm_c (rn_oo he671442 he671446 (by decide)) nm_n)).trans he671442
          have he671484 : F671465 q669891 = .inr (1, [.ref q671361, .int 0, .int 0, .int g671360]) := (hfr671467 q669891 hm671449 (nm_c hne671457 nm_n)).trans he671443
          have he671485 : F671465 q671361 = .inl (I .byte, n671362, .inl f671363) := (hfr671467 q671361 hm671450 (nm_c (rn_ao he671444 he671446) nm_n)).trans he671444
          have he671486 : F671465 q671392 = .inl (I .byte, n671393, .inl f671394) := (hfr671467 q671392 hm671452 (nm_c (rn_ao he671445 he671446) nm_n)).trans he671445
          have hfr671487 : rFr [q669860] P669858 F669859 F671465 := rFr_call hsb671456 hfr671455 hfr671467 (fun b hb hn => ⟨(nm_c (fun e => hn (e ▸ List.mem_cons_self)) nm_n), (nm_c (fun e => hq671454 (e ▸ hb)) nm_n)⟩)
          have hne671488 : q671361 ≠ q671463 := fun h => hq671471 (h ▸ hm671450)
          have hne671489 : q671392 ≠ q671463 := fun h => hq671471 (h ▸ hm671452)
          change G _ _ _ _ _ _ _ _ _ _ _
          refine G_widen (cs' := (4 + (g671359.toInt - p669863.toInt) : Int).toNat + 1 + 1) (sl' := (40 + 5 * (g671359.toInt - p669863.toInt) : Int).toNat + 4 + 16) (by omega) (by omega) ?_
          refine G_ldcK (a := D.2 1000 35) dr_cX14_word_257 (fun _ _ _ h => gx_vk 35 rfl rfl h) ?_
          have hl35_671489 : (sb_35.length : Int) = 1 := rfl
          refine Gw_callV (As := [.ref (D.2 1000 35)]) (gV_ok D I) (cp_659417_StringBuilder_append l hl0 D I P671464 F671465 q671433 q671463 (D.2 1000 35) (D.2 1001 35) sb_35 0 0 (fun _ => 0) 16 hm671478 hm671470 he671468 he671469 (gx_sc 35 rfl rfl) (by omega) (by decide +kernel) (gB_w (gBl (show Int32.toInt 0 = 0 by decide)) (by decide) (by decide)) (gB_w (gBl (show Int32.toInt 0 = 0 by decide)) (by decide) (by decide)) (gF_w gF_0 (by decide) (by decide)) (by have qa0 : Int32.toInt 0 = 0 := (by decide); have qa1 : Int32.toInt 6 = 6 := (by decide); omega) (by have qa0 : Int32.toInt 0 = 0 := (by decide); have qa1 : Int32.toInt 6 = 6 := (by decide); omega)) dr_cX14_word_259 ⟨wr_8_195, wr_1_20, wr_8_143, by decide, rfl, (Nat.le_of_ble_eq_true rfl), (Nat.le_of_ble_eq_true rfl)⟩ wr_8_141 wr_8_142 hm671478 he671468 rfl (show (4 + (g671359.toInt - p669863.toInt) : Int).toNat + 1 + 1 + 0 ≤ ((16 * (p669862.toInt - p669863.toInt)).toNat) by first | omega | decide) (show (40 + 5 * (g671359.toInt - p669863.toInt) : Int).toNat + 4 + 16 + 0 ≤ ((160 * (p669862.toInt - p669863.toInt)).toNat) by first | omega | decide) (Nat.le_of_ble_eq_true rfl) (fun r671494 w671495 dc671491 ds671492 hp671493 => ?_) (fun _ _ _ _ _ z => z.elim)
          obtain ⟨F671502, o671496, f671497, rfl, rfl, hfr671504, he671505, he671506, hdc, hds, bo671496, bf671497, x671498, x671499, x671500, ht671501⟩ := hp671493
          have he671507 : F671502 q669860 = .inr (19, [.ref q669861, .int p669862, .int g671359, .int 6, .int p669865, .int p669866, .int p669867, .ref q671391, .int p669869, .int p669870, .int p669871, .ref qo669872, .ref qo669873, .int p669874]) := (hfr671504 q669860 hm671472 (nm_c (fun h => hq671454 (h ▸ hmq669860)) (nm_c (fun h => hq671479 (h ▸ hmq669860)) nm_n))).trans he671481
          have he671508 : F671502 q669861 = .inl (I .byte, 8192, .inl f669875) := (hfr671504 q669861 hm671473 (nm_c (fun h => hq671454 (h ▸ hmq669861)) (nm_c (fun h => hq671479 (h ▸ hmq669861)) nm_n))).trans he671482
          have he671509 : F671502 q671391 = .inr (0, [.ref q671392, .int 0, .int 0, .int 0]) := (hfr671504 q671391 hm671476 (nm_c (rn_oo he671483 he671468 (by decide)) (nm_c (rn_oa he671483 he671469) nm_n))).trans he671483
          have he671510 : F671502 q669891 = .inr (1, [.ref q671361, .int 0, .int 0, .int g671360]) := (hfr671504 q669891 hm671474 (nm_c hne671457 (nm_c (rn_oa he671484 he671469) nm_n))).trans he671484
          have he671511 : F671502 q671361 = .inl (I .byte, n671362, .inl f671363) := (hfr671504 q671361 hm671475 (nm_c (rn_ao he671485 he671468) (nm_c hne671488 nm_n))).trans he671485
          have he671512 : F671502 q671392 = .inl (I .byte, n671393, .inl f671394) := (hfr671504 q671392 hm671477 (nm_c (rn_ao he671486 he671468) (nm_c hne671489 nm_n))).trans he671486
          have hfr671513 : rFr [q669860] P669858 F669859 F671502 := rFr_call hsb671480 hfr671487 hfr671504 (fun b hb hn => ⟨(nm_c (fun e => hn (e ▸ List.mem_cons_self)) nm_n), (nm_c (fun e => hq671454 (e ▸ hb)) (nm_c (fun e => hq671479 (e ▸ hb)) nm_n))⟩)
          rw [show Int32.toInt 0 = 0 from by decide] at x671498
          have bo671496' : gB o671496 1 1 := ⟨by omega, by omega⟩
          rw [show Int32.toInt 0 = 0 from by decide] at x671499
          rw [show Int32.toInt 0 = 0 from by decide] at x671500
          change G _ _ _ _ _ _ _ (.ref q671433 :: _) _ _ _
          refine G_widen (cs' := (4 + (g671359.toInt - p669863.toInt) : Int).toNat + 1 + 1 + 0) (sl' := (40 + 5 * (g671359.toInt - p669863.toInt) : Int).toNat + 4 + 16 + 0) (by omega) (by omega) ?_
          refine G_aload_n 2 dr_cX14_word_262 rfl ?_
          clear hm671406 hm671408 hm671410 hm671411 hm671412 hm671413 hsb671416 he671425 he671426 he671427 he671428 he671429 he671430 hfr671431 he671440 he671441 he671442 he671443 he671444 he671445 he671446 hm671447 hm671448 hm671449 hm671450 hm671451 hm671452 hm671453 hfr671455 hsb671456 hsb671466 hfr671467 he671468 he671469 hq671471 he671481 he671482 he671483 he671484 he671485 he671486 hfr671487 hfr671504; try clear r671461; try clear w671462; try clear dc671458; try clear ds671459; try clear hp671460; try clear r671494; try clear w671495; try clear dc671491; try clear ds671492; try clear hp671493
          refine Gp_get 7 hm671472 he671507 dr_cX14_word_263 (gk_X14 D I) (Nat.le_of_ble_eq_true rfl) wr_9_43 rfl ?_
          refine Gw_callV (As := [.ref q671391]) (gV_ok D I) (cp_659617_StringBuilder_append l hl0 D I P671464 F671502 q671433 q671391 q671463 q671392 0 o671496 0 0 f671497 16 f671394 n671393 hm671478 hm671476 hm671470 hm671477 he671505 he671509 he671506 he671512 (Ne.symm hne671489) (gB_w (gBl (show Int32.toInt 0 = 0 by decide)) (by decide) (by decide)) (gB_w bo671496' (by decide) (by decide)) (gB_w (gBl (show Int32.toInt 0 = 0 by decide)) (by decide) (by decide)) bf671497 bf671394 (by have qa0 : Int32.toInt 0 = 0 := (by decide); have qa1 : Int32.toInt 6 = 6 := (by decide); omega) (by have qa0 : Int32.toInt 0 = 0 := (by decide); have qa1 : Int32.toInt 6 = 6 := (by decide); omega) (by have qa0 : Int32.toInt 0 = 0 := (by decide); have qa1 : Int32.toInt 6 = 6 := (by decide); omega) (by have qa0 : Int32.toInt 0 = 0 := (by decide); have qa1 : Int32.toInt 6 = 6 := (by decide); omega) (by have qa0 : Int32.toInt 0 = 0 := (by decide); have qa1 : Int32.toInt 6 = 6 := (by decide); omega)) dr_cX14_word_266 ⟨wr_8_195, wr_1_20, wr_8_143, by decide, rfl, (Nat.le_of_ble_eq_true rfl), (Nat.le_of_ble_eq_true rfl)⟩ wr_8_141 wr_8_142 hm671478 he671505 rfl (show (4 + (g671359.toInt - p669863.toInt) : Int).toNat + 1 + 1 + 0 + 1 ≤ ((16 * (p669862.toInt - p669863.toInt)).toNat) by first | omega | decide) (show (40 + 5 * (g671359.toInt - p669863.toInt) : Int).toNat + 4 + 16 + 0 + (4 * 16 + 4 + 2 * n671393) ≤ ((160 * (p669862.toInt - p669863.toInt)).toNat) by first | omega | decide) (Nat.le_of_ble_eq_true rfl) (fun r671517 w671518 dc671514 ds671515 hp671516 => ?_) (fun _ _ _ _ _ z => z.elim)
          obtain ⟨P671529, F671530, o671519, q671520, n671521, f671522, rfl, rfl, hsb671531, hfr671532, he671533, he671534, he671535, he671536, hm671537, hq671538, hdc, hds, bo671519, bf671522, x671523, x671524, x671525, x671526, x671527, ht671528⟩ := hp671516
          have hm671539 : q669860 ∈ P671529 := hsb671531 q669860 hm671472
          have hm671540 : q669861 ∈ P671529 := hsb671531 q669861 hm671473
          have hm671541 : q669891 ∈ P671529 := hsb671531 q669891 hm671474
          have hm671542 : q671361 ∈ P671529 := hsb671531 q671361 hm671475
          have hm671543 : q671391 ∈ P671529 := hsb671531 q671391 hm671476
          have hm671544 : q671392 ∈ P671529 := hsb671531 q671392 hm671477
          have hm671545 : q671433 ∈ P671529 := hsb671531 q671433 hm671478
          have hm671546 : q671463 ∈ P671529 := hsb671531 q671463 hm671470
          have hq671547 : q671520 ∉ P669858 := fun z => hq671538.elim (fun e => hq671479 (e ▸ z)) (fun n => n (hsb671480 _ z))
          have hsb671548 : rSub P669858 P671529 := rSub_tr hsb671480 hsb671531
          have he671549 : F671530 q669860 = .inr (19, [.ref q669861, .int p669862, .int g671359, .int 6, .int p669865, .int p669866, .int p669867, .ref q671391, .int p669869, .int p669870, .int p669871, .ref qo669872, .ref qo669873, .int p669874]) := (hfr671532 q669860 hm671472 (nm_c (fun h => hq671454 (h ▸ hmq669860)) (nm_c (fun h => hq671479 (h ▸ hmq669860)) nm_n))).trans he671507
          have he671550 : F671530 q669861 = .inl (I .byte, 8192, .inl f669875) := (hfr671532 q669861 hm671473 (nm_c (fun h => hq671454 (h ▸ hmq669861)) (nm_c (fun h => hq671479 (h ▸ hmq669861)) nm_n))).trans he671508
          have he671551 : F671530 q669891 = .inr (1, [.ref q671361, .int 0, .int 0, .int g671360]) := (hfr671532 q669891 hm671474 (nm_c hne671457 (nm_c (rn_oa he671510 he671506) nm_n))).trans he671510
          have he671552 : F671530 q671361 = .inl (I .byte, n671362, .inl f671363) := (hfr671532 q671361 hm671475 (nm_c (rn_ao he671511 he671505) (nm_c hne671488 nm_n))).trans he671511
          have hfr671553 : rFr [q669860] P669858 F669859 F671530 := rFr_call hsb671480 hfr671513 hfr671532 (fun b hb hn => ⟨(nm_c (fun e => hn (e ▸ List.mem_cons_self)) nm_n), (nm_c (fun e => hq671454 (e ▸ hb)) (nm_c (fun e => hq671479 (e ▸ hb)) nm_n))⟩)
          have hne671554 : q671361 ≠ q671520 := fun e => hq671538.elim (fun e2 => hne671488 (e.trans e2)) (fun n => n (e ▸ hm671475))
          have hne671555 : q671392 ≠ q671520 := fun e => hq671538.elim (fun e2 => hne671489 (e.trans e2)) (fun n => n (e ▸ hm671477))
          have bo671519' : gB o671519 1 16777216 := ⟨by omega, by omega⟩
          change G _ _ _ _ _ _ _ (.ref q671433 :: _) _ _ _
          refine G_widen (cs' := (4 + (g671359.toInt - p669863.toInt) : Int).toNat + 1 + 1 + 0 + 1) (sl' := (40 + 5 * (g671359.toInt - p669863.toInt) : Int).toNat + 4 + 16 + 0 + (2 * (n671521 - 16))) (by omega) (by omega) ?_
          refine G_widen (cs' := (7 + (g671359.toInt - p669863.toInt) : Int).toNat) (sl' := (60 + 10 * (g671359.toInt - p669863.toInt) : Int).toNat) (by omega) (by omega) ?_
          clear hm671470 hm671472 hm671473 hm671474 hm671475 hm671476 hm671477 hm671478 hq671479 hsb671480 hne671488 hne671489 he671505 he671506 bf671497 he671507 he671508 he671509 he671510 he671511 he671512 hfr671513 hsb671531 hfr671532 hq671538 hm671546; try clear x671499; try clear x671500; try clear r671517; try clear w671518; try clear dc671514; try clear ds671515; try clear hp671516
          refine G_ldcK (a := D.2 1000 35) dr_cX14_word_269 (fun _ _ _ h => gx_vk 35 rfl rfl h) ?_
          have hl35_671555 : (sb_35.length : Int) = 1 := rfl
          refine Gw_callV (As := [.ref (D.2 1000 35)]) (gV_ok D I) (cp_659765_StringBuilder_append l hl0 D I P671529 F671530 q671433 q671520 (D.2 1000 35) (D.2 1001 35) sb_35 0 o671519 f671522 n671521 hm671545 hm671537 he671533 he671535 (gx_sc 35 rfl rfl) (by omega) (by decide +kernel) (gB_w (gBl (show Int32.toInt 0 = 0 by decide)) (by decide) (by decide)) (gB_w bo671519' (by decide) (by decide)) bf671522 (by have qa0 : Int32.toInt 0 = 0 := (by decide); have qa1 : Int32.toInt 6 = 6 := (by decide); omega) (by have qa0 : Int32.toInt 0 = 0 := (by decide); have qa1 : Int32.toInt 6 = 6 := (by decide); omega) (by have qa0 : Int32.toInt 0 = 0 := (by decide); have qa1 : Int32.toInt 6 = 6 := (by decide); omega) (by have qa0 : Int32.toInt 0 = 0 := (by decide); have qa1 : Int32.toInt 6 = 6 := (by decide); omega)) dr_cX14_word_271 ⟨wr_8_195, wr_1_20, wr_8_143, by decide, rfl, (Nat.le_of_ble_eq_true rfl), (Nat.le_of_ble_eq_true rfl)⟩ wr_8_141 wr_8_142 hm671545 he671533 rfl (show (7 + (g671359.toInt - p669863.toInt) : Int).toNat + 1 ≤ ((16 * (p669862.toInt - p669863.toInt)).toNat) by first | omega | decide) (show (60 + 10 * (g671359.toInt - p669863.toInt) : Int).toNat + (4 * n671521 + 4 + 2 * sb_35.length) ≤ ((160 * (p669862.toInt - p669863.toInt)).toNat) by first | omega | decide) (Nat.le_of_ble_eq_true rfl) (fun r671560 w671561 dc671557 ds671558 hp671559 => ?_) (fun _ _ _ _ _ z => z.elim)
          obtain ⟨P671572, F671573, o671562, q671563, n671564, f671565, rfl, rfl, hsb671574, hfr671575, he671576, he671577, hm671578, hq671579, hdc, hds, bo671562, bf671565, x671566, x671567, x671568, x671569, x671570, ht671571⟩ := hp671559
          have hm671580 : q669860 ∈ P671572 := hsb671574 q669860 hm671539
          have hm671581 : q669861 ∈ P671572 := hsb671574 q669861 hm671540
          have hm671582 : q669891 ∈ P671572 := hsb671574 q669891 hm671541
          have hm671583 : q671361 ∈ P671572 := hsb671574 q671361 hm671542
          have hm671584 : q671391 ∈ P671572 := hsb671574 q671391 hm671543
          have hm671585 : q671392 ∈ P671572 := hsb671574 q671392 hm671544
          have hm671586 : q671433 ∈ P671572 := hsb671574 q671433 hm671545
          have hm671587 : q671520 ∈ P671572 := hsb671574 q671520 hm671537
          have hq671588 : q671563 ∉ P669858 := fun z => hq671579.elim (fun e => hq671547 (e ▸ z)) (fun n => n (hsb671548 _ z))
          have hsb671589 : rSub P669858 P671572 := rSub_tr hsb671548 hsb671574
          have he671590 : F671573 q669860 = .inr (19, [.ref q669861, .int p669862, .int g671359, .int 6, .int p669865, .int p669866, .int p669867, .ref q671391, .int p669869, .int p669870, .int p669871, .ref qo669872, .ref qo669873, .int p669874]) := (hfr671575 q669860 hm671539 (nm_c (fun h => hq671454 (h ▸ hmq669860)) (nm_c (fun h => hq671547 (h ▸ hmq669860)) nm_n))).trans he671549
          have he671591 : F671573 q669861 = .inl (I .byte, 8192, .inl f669875) := (hfr671575 q669861 hm671540 (nm_c (fun h => hq671454 (h ▸ hmq669861)) (nm_c (fun h => hq671547 (h ▸ hmq669861)) nm_n))).trans he671550
          have he671592 : F671573 q669891 = .inr (1, [.ref q671361, .int 0, .int 0, .int g671360]) := (hfr671575 q669891 hm671541 (nm_c hne671457 (nm_c (rn_oa he671551 he671535) nm_n))).trans he671551
          have he671593 : F671573 q671361 = .inl (I .byte, n671362, .inl f671363) := (hfr671575 q671361 hm671542 (nm_c (rn_ao he671552 he671533) (nm_c hne671554 nm_n))).trans he671552
          have he671594 : F671573 q671391 = .inr (0, [.ref q671392, .int 0, .int 0, .int 0]) := (hfr671575 q671391 hm671543 (nm_c (rn_oo he671534 he671533 (by decide)) (nm_c (rn_oa he671534 he671535) nm_n))).trans he671534
          have he671595 : F671573 q671392 = .inl (I .byte, n671393, .inl f671394) := (hfr671575 q671392 hm671544 (nm_c (rn_ao he671536 he671533) (nm_c hne671555 nm_n))).trans he671536
          have hfr671596 : rFr [q669860] P669858 F669859 F671573 := rFr_call hsb671548 hfr671553 hfr671575 (fun b hb hn => ⟨(nm_c (fun e => hn (e ▸ List.mem_cons_self)) nm_n), (nm_c (fun e => hq671454 (e ▸ hb)) (nm_c (fun e => hq671547 (e ▸ hb)) nm_n))⟩)
          have hne671597 : q671361 ≠ q671563 := fun e => hq671579.elim (fun e2 => hne671554 (e.trans e2)) (fun n => n (e ▸ hm671542))
          have hne671598 : q671392 ≠ q671563 := fun e => hq671579.elim (fun e2 => hne671555 (e.trans e2)) (fun n => n (e ▸ hm671544))
          have bo671562' : gB o671562 2 16777216 := ⟨by omega, by omega⟩
          change G _ _ _ _ _ _ _ (.ref q671433 :: _) _ _ _
          refine G_widen (cs' := (7 + (g671359.toInt - p669863.toInt) : Int).toNat + 1) (sl' := (60 + 10 * (g671359.toInt - p669863.toInt) : Int).toNat + (2 * (n671564 - n671521))) (by omega) (by omega) ?_
          refine G_widen (cs' := (8 + (g671359.toInt - p669863.toInt) : Int).toNat) (sl' := (60 + 15 * (g671359.toInt - p669863.toInt) : Int).toNat) (by omega) (by omega) ?_
          clear he671533 he671534 he671535 he671536 hm671537 bf671522 hm671539 hm671540 hm671541 hm671542 hm671543 hm671544 hm671545 hq671547 hsb671548 he671549 he671550 he671551 he671552 hfr671553 hne671554 hne671555 hsb671574 hfr671575 hq671579 hm671587; try clear r671560; try clear w671561; try clear dc671557; try clear ds671558; try clear hp671559
          refine Gw_callV (As := []) (gV_ok D I) (cp_659890_StringBuilder_toString l hl0 D I P671572 F671573 q671433 q671563 0 o671562 f671565 n671564 hm671586 hm671578 he671576 he671577 (gB_w (gBl (show Int32.toInt 0 = 0 by decide)) (by decide) (by decide)) (gB_w bo671562' (by decide) (by decide)) bf671565 (by have qa0 : Int32.toInt 0 = 0 := (by decide); have qa1 : Int32.toInt 6 = 6 := (by decide); omega) (by have qa0 : Int32.toInt 0 = 0 := (by decide); have qa1 : Int32.toInt 6 = 6 := (by decide); omega)) dr_cX14_word_274 ⟨wr_8_66, wr_1_20, wr_8_69, by decide, rfl, (Nat.le_of_ble_eq_true rfl), (Nat.le_of_ble_eq_true rfl)⟩ wr_8_67 wr_8_68 hm671586 he671576 rfl (show (8 + (g671359.toInt - p669863.toInt) : Int).toNat + 2 ≤ ((16 * (p669862.toInt - p669863.toInt)).toNat) by first | omega | decide) (show (60 + 15 * (g671359.toInt - p669863.toInt) : Int).toNat + (o671562.toInt.toNat + 4) ≤ ((160 * (p669862.toInt - p669863.toInt)).toNat) by first | omega | decide) (Nat.le_of_ble_eq_true rfl) (fun r671602 w671603 dc671599 ds671600 hp671601 => ?_) (fun _ _ _ _ _ z => z.elim)
          obtain ⟨P671611, F671612, q671604, q671605, n671606, f671607, rfl, rfl, hsb671613, hfr671614, he671615, he671616, he671617, he671618, hm671619, hq671620, hm671621, hq671622, hdc, hds, bf671607, x671608, x671609, ht671610⟩ := hp671601
          have hm671623 : q669860 ∈ P671611 := hsb671613 q669860 hm671580
          have hm671624 : q669861 ∈ P671611 := hsb671613 q669861 hm671581
          have hm671625 : q669891 ∈ P671611 := hsb671613 q669891 hm671582
          have hm671626 : q671361 ∈ P671611 := hsb671613 q671361 hm671583
          have hm671627 : q671391 ∈ P671611 := hsb671613 q671391 hm671584
          have hm671628 : q671392 ∈ P671611 := hsb671613 q671392 hm671585
          have hm671629 : q671433 ∈ P671611 := hsb671613 q671433 hm671586
          have hm671630 : q671563 ∈ P671611 := hsb671613 q671563 hm671578
          have hq671631 : q671604 ∉ P669858 := fun z => hq671620 (hsb671589 q671604 z)
          have hq671632 : q671605 ∉ P669858 := fun z => hq671622 (hsb671589 q671605 z)
          have hsb671633 : rSub P669858 P671611 := rSub_tr hsb671589 hsb671613
          have he671634 : F671612 q669860 = .inr (19, [.ref q669861, .int p669862, .int g671359, .int 6, .int p669865, .int p669866, .int p669867, .ref q671391, .int p669869, .int p669870, .int p669871, .ref qo669872, .ref qo669873, .int p669874]) := (hfr671614 q669860 hm671580 nm_n).trans he671590
          have he671635 : F671612 q669861 = .inl (I .byte, 8192, .inl f669875) := (hfr671614 q669861 hm671581 nm_n).trans he671591
          have he671636 : F671612 q669891 = .inr (1, [.ref q671361, .int 0, .int 0, .int g671360]) := (hfr671614 q669891 hm671582 nm_n).trans he671592
          have he671637 : F671612 q671361 = .inl (I .byte, n671362, .inl f671363) := (hfr671614 q671361 hm671583 nm_n).trans he671593
          have he671638 : F671612 q671391 = .inr (0, [.ref q671392, .int 0, .int 0, .int 0]) := (hfr671614 q671391 hm671584 nm_n).trans he671594
          have he671639 : F671612 q671392 = .inl (I .byte, n671393, .inl f671394) := (hfr671614 q671392 hm671585 nm_n).trans he671595
          have hfr671640 : rFr [q669860] P669858 F669859 F671612 := rFr_call hsb671589 hfr671596 hfr671614 (fun b hb hn => ⟨(nm_c (fun e => hn (e ▸ List.mem_cons_self)) nm_n), nm_n⟩)
          have hne671641 : q671391 ≠ q671604 := fun h => hq671620 (h ▸ hm671584)
          have hne671642 : q671361 ≠ q671605 := fun h => hq671622 (h ▸ hm671583)
          have hne671643 : q671392 ≠ q671605 := fun h => hq671622 (h ▸ hm671585)
          have hne671644 : q671563 ≠ q671605 := fun h => hq671622 (h ▸ hm671578)
          change G _ _ _ _ _ _ _ (.ref q671604 :: _) _ _ _
          refine G_widen (cs' := (8 + (g671359.toInt - p669863.toInt) : Int).toNat + 2) (sl' := (60 + 15 * (g671359.toInt - p669863.toInt) : Int).toNat + (o671562.toInt.toNat + 4)) (by omega) (by omega) ?_
          refine G_widen (cs' := (10 + (g671359.toInt - p669863.toInt) : Int).toNat) (sl' := (66 + 16 * (g671359.toInt - p669863.toInt) : Int).toNat) (by omega) (by omega) ?_
          clear hq671454 hne671457 he671576 he671577 hm671578 bf671565 hm671580 hm671581 hm671582 hm671583 hm671584 hm671585 hm671586 hq671588 hsb671589 he671590 he671591 he671592 he671593 he671594 he671595 hfr671596 hne671597 hne671598 hsb671613 hfr671614 he671616 he671617 hq671620 hq671622 hm671629 hm671630 hne671644; try clear r671602; try clear w671603; try clear dc671599; try clear ds671600; try clear hp671601; try clear x671609
          refine Gw_callVk (As := [.ref q671604]) (gV_ok D I) (cp_660349_String_indexOf l hl0 D I P671611 F671612 q671604 q671605 (D.2 1000 34) (D.2 1001 34) sb_34 0 0 f671607 n671606 hm671619 hm671621 he671615 he671618 (gx_sc 34 rfl rfl) (by omega) (by decide +kernel) (gB_w (gBl (show Int32.toInt 0 = 0 by decide)) (by decide) (by decide)) bf671607 (by have qa0 : Int32.toInt 0 = 0 := (by decide); have qa1 : Int32.toInt 6 = 6 := (by decide); omega) (by have qa0 : Int32.toInt 0 = 0 := (by decide); have qa1 : Int32.toInt 6 = 6 := (by decide); omega)) dr_cX14_word_277 ⟨wr_8_196, wr_1_21, wr_8_199, by decide, rfl, (Nat.le_of_ble_eq_true rfl), (Nat.le_of_ble_eq_true rfl)⟩ wr_8_197 wr_8_198 (fun _ _ _ h => ((gx_sc 34 rfl rfl) _ _ _ h).1) (show (10 + (g671359.toInt - p669863.toInt) : Int).toNat + 0 ≤ ((16 * (p669862.toInt - p669863.toInt)).toNat) by first | omega | decide) (show (66 + 16 * (g671359.toInt - p669863.toInt) : Int).toNat + 0 ≤ ((160 * (p669862.toInt - p669863.toInt)).toNat) by first | omega | decide) (Nat.le_of_ble_eq_true rfl) (fun r671648 w671649 dc671645 ds671646 hp671647 => ?_) (fun _ _ _ _ _ z => z.elim)
          obtain ⟨o671650, rfl, rfl, hdc, hds, bo671650, x671651, x671652, ht671653⟩ := hp671647
          change G _ _ _ _ _ _ _ (.int o671650 :: _) _ _ _
          refine G_widen (cs' := (10 + (g671359.toInt - p669863.toInt) : Int).toNat + 0) (sl' := (66 + 16 * (g671359.toInt - p669863.toInt) : Int).toNat + 0) (by omega) (by omega) ?_
          clear he671615 he671618 hm671619 hm671621 bf671607 hq671631 hq671632 hne671641 hne671642 hne671643; try clear r671648; try clear w671649; try clear dc671645; try clear ds671646; try clear hp671647; try clear x671652
          refine G_if_lt 288 dr_cX14_word_280 (by decide +kernel) (fun hc671654 => ?_) (fun hc671654 => ?_)
          · have r671655 : o671650.toInt < 0 := gj_lt hc671654 (show Int32.toInt 0 = 0 by decide)
            have bo671650' : gB o671650 (-2147483646) (-1) := ⟨by omega, by omega⟩
            exact G_vretA dr_cX14_word_288 rfl (show (10 + (g671359.toInt - p669863.toInt) : Int).toNat + 0 ≤ ((16 * (p669862.toInt - p669863.toInt)).toNat) by omega) (show (66 + 16 * (g671359.toInt - p669863.toInt) : Int).toNat + 0 ≤ ((160 * (p669862.toInt - p669863.toInt)).toNat) by omega) ⟨P671611, F671612, g671359, 6, p669866, q671391, (0, fun _ => 0), rfl, rfl, hsb671633, hfr671640, he671634, he671635, (by omega), (by omega), bg671359, (gB_w (gBl (show Int32.toInt 6 = 6 by decide)) (by decide) (by decide)), (by have qa0 : Int32.toInt 0 = 0 := (by decide); have qa1 : Int32.toInt 6 = 6 := (by decide); omega), (by have qa0 : Int32.toInt 0 = 0 := (by decide); have qa1 : Int32.toInt 6 = 6 := (by decide); omega), (tP_no (by decide) (by decide)), (vP_no (by decide) (by decide)), (fun R c1 c2 c3 c4 c5 c6 => c1 z669882 g671359 g671360 n671362 f671363 n671393 f671394 o671496 f671497 o671519 n671521 f671522 o671562 n671564 f671565 n671606 f671607 o671650 hz669882 bz669882 hJ669890 hx671384 ht671397 bo671496 ht671501 bo671519 ht671528 bo671562 ht671571 ht671610 bo671650 ht671653 r671655)⟩
          · have r671656 : 0 ≤ o671650.toInt := gj_nlt hc671654 (show Int32.toInt 0 = 0 by decide)
            have bo671650' : gB o671650 0 16777215 := ⟨by omega, by omega⟩
            refine G_aload_n 2 dr_cX14_word_283 rfl ?_
            refine G_iconst 1 dr_cX14_word_284 (by decide +kernel) ?_
            refine Gp_put 3 hm671623 he671634 dr_cX14_word_285 (gk_X14 D I) (Nat.le_of_ble_eq_true rfl) wr_9_39 rfl rfl rfl (Nat.le_of_ble_eq_true rfl) (fun F671657 e671658 n671659 => ?_)
            have he671660 : F671657 q669861 = .inl (I .byte, 8192, .inl f669875) := (n671659 q669861 (rn_ao he671635 he671634)).trans he671635
            have he671661 : F671657 q669891 = .inr (1, [.ref q671361, .int 0, .int 0, .int g671360]) := (n671659 q669891 (fun h => hq669904 (h ▸ hmq669860))).trans he671636
            have he671662 : F671657 q671361 = .inl (I .byte, n671362, .inl f671363) := (n671659 q671361 (fun h => hq671364 (h ▸ hmq669860))).trans he671637
            have he671663 : F671657 q671391 = .inr (0, [.ref q671392, .int 0, .int 0, .int 0]) := (n671659 q671391 (fun h => hq671414 (h ▸ hmq669860))).trans he671638
            have he671664 : F671657 q671392 = .inl (I .byte, n671393, .inl f671394) := (n671659 q671392 (fun h => hq671415 (h ▸ hmq669860))).trans he671639
            have he671665 : F671657 q669860 = .inr (19, [.ref q669861, .int p669862, .int g671359, .int 1, .int p669865, .int p669866, .int p669867, .ref q671391, .int p669869, .int p669870, .int p669871, .ref qo669872, .ref qo669873, .int p669874]) := e671658
            have hfr671666 : rFr [q669860] P669858 F669859 F671657 := rFr_put' List.mem_cons_self hfr671640 n671659
            exact G_vretA dr_cX14_word_288 rfl (show (10 + (g671359.toInt - p669863.toInt) : Int).toNat + 0 ≤ ((16 * (p669862.toInt - p669863.toInt)).toNat) by omega) (show (66 + 16 * (g671359.toInt - p669863.toInt) : Int).toNat + 0 ≤ ((160 * (p669862.toInt - p669863.toInt)).toNat) by omega) ⟨P671611, F671657, g671359, 1, p669866, q671391, (n671393, f671394), rfl, rfl, hsb671633, hfr671666, he671665, he671660, (by omega), (by omega), bg671359, (gB_w (gBl (show Int32.toInt 1 = 1 by decide)) (by decide) (by decide)), (by have qa0 : Int32.toInt 0 = 0 := (by decide); have qa1 : Int32.toInt 1 = 1 := (by decide); omega), (by have qa0 : Int32.toInt 0 = 0 := (by decide); have qa1 : Int32.toInt 1 = 1 := (by decide); omega), (tP_1 hm671627 he671663 hm671628 he671664 bf671394 (by omega) (gB_w (gBl (show Int32.toInt 0 = 0 by decide)) (by decide) (by decide)) (fun e => hq671415 (e ▸ x669879)) (fun e => hq671415 (e ▸ x669880))), (vP_no (by decide) (by decide)), (fun R c1 c2 c3 c4 c5 c6 => c2 z669882 g671359 g671360 n671362 f671363 n671393 f671394 o671496 f671497 o671519 n671521 f671522 o671562 n671564 f671565 n671606 f671607 o671650 hz669882 bz669882 hJ669890 hx671384 ht671397 bo671496 ht671501 bo671519 ht671528 bo671562 ht671571 ht671610 bo671650 ht671653 r671656)⟩
        · have r671667 : g671359.toInt < p669862.toInt := gC_nle hc671382
          have bg671359' : gB g671359 0 8191 := ⟨by omega, by omega⟩
          have bp669862' : gB p669862 1 8192 := ⟨by omega, by omega⟩
          refine G_aload_n 2 dr_cX14_word_197 rfl ?_
          refine Gp_get 0 hm671372 he671366 dr_cX14_word_198 (gk_X14 D I) (Nat.le_of_ble_eq_true rfl) wr_9_36 rfl ?_
          refine G_aload_n 2 dr_cX14_word_201 rfl ?_
          refine Gp_get 2 hm671372 he671366 dr_cX14_word_202 (gk_X14 D I) (Nat.le_of_ble_eq_true rfl) wr_9_38 rfl ?_
          refine Gp_bald 1 hm671373 he671367 dr_cX14_word_205 rfl (gB_in bg671359' (by decide) (by decide)) (G_nam fun z671668 hz671668 => ?_)
          have bz671668 : gB z671668 (-128) 127 := by rw [hz671668]; exact bf669875 _
          refine Gw_callS (As := [.int z671668]) (gV_ok D I) (cp_670225_Reader_isLetter l hl0 D I P671371 F671365 z671668 ) dr_cX14_word_206 ⟨wr_7_222, wr_1_32, wr_7_224, by decide, rfl, (Nat.le_of_ble_eq_true rfl), (Nat.le_of_ble_eq_true rfl)⟩ wr_7_223 (show 2 + (g671360.toInt : Int).toNat + 0 ≤ ((16 * (p669862.toInt - p669863.toInt)).toNat) by first | omega | decide) (show 4 + 2 * n671362 + 0 ≤ ((160 * (p669862.toInt - p669863.toInt)).toNat) by first | omega | decide) (Nat.le_of_ble_eq_true rfl) (fun r671672 w671673 dc671669 ds671670 hp671671 => ?_) (fun _ _ _ _ _ z => z.elim)
          obtain ⟨o671674, rfl, rfl, hdc, hds, bo671674, x671675, ht671676⟩ := hp671671
          change G _ _ _ _ _ _ _ (.int o671674 :: _) _ _ _
          refine G_widen (cs' := 2 + (g671360.toInt : Int).toNat + 0) (sl' := 4 + 2 * n671362 + 0) (by omega) (by omega) ?_
          refine G_if_eq 240 dr_cX14_word_209 (by decide +kernel) (fun hc671677 => ?_) (fun hc671677 => ?_)
          · have r671678 : o671674.toInt = 0 := gj_eq hc671677 (show Int32.toInt 0 = 0 by decide)
            have bo671674' : gB o671674 0 0 := ⟨by omega, by omega⟩
            have hx671679 : tl_RReader_word_186 p669862 f669875 p669863 (0 : Int32) 16 (fun _ => 0 : Nat → Int32) 240 g671359 g671360 n671362 f671363 := kt186_671381 240 g671359 g671360 n671362 f671363 (fun R c1 c2 c3 => c2 g671359 g671360 n671362 f671363 z671668 o671674 bg671359 bg671360 r671667 hz671668 bz671668 bo671674 ht671676 r671678)
            have x671680 : p669863.toInt < g671359.toInt := by first | omega | exact cLt_lt x669878 (by assumption) (isP_0 (by assumption) (by omega)) (by omega)
            refine G_aload_n 2 dr_cX14_word_240 rfl ?_
            refine G_aload_n 0 dr_cX14_word_241 rfl ?_
            refine Gw_callV (As := []) (gV_ok D I) (cp_659890_StringBuilder_toString l hl0 D I P671371 F671365 q669891 q671361 0 g671360 f671363 n671362 hm671374 hm671375 he671368 he671369 (gB_w (gBl (show Int32.toInt 0 = 0 by decide)) (by decide) (by decide)) bg671360 bf671363 (by have qa0 : Int32.toInt 0 = 0 := (by decide); have qa1 : Int32.toInt 6 = 6 := (by decide); omega) (by have qa0 : Int32.toInt 0 = 0 := (by decide); have qa1 : Int32.toInt 6 = 6 := (by decide); omega)) dr_cX14_word_242 ⟨wr_8_66, wr_1_20, wr_8_69, by decide, rfl, (Nat.le_of_ble_eq_true rfl), (Nat.le_of_ble_eq_true rfl)⟩ wr_8_67 wr_8_68 hm671374 he671368 rfl (show 2 + (g671360.toInt : Int).toNat + 0 + 2 ≤ ((16 * (p669862.toInt - p669863.toInt)).toNat) by first | omega | decide) (show 4 + 2 * n671362 + 0 + (g671360.toInt.toNat + 4) ≤ ((160 * (p669862.toInt - p669863.toInt)).toNat) by first | omega | decide) (Nat.le_of_ble_eq_true rfl) (fun r671684 w671685 dc671681 ds671682 hp671683 => ?_) (fun _ _ _ _ _ z => z.elim)
            obtain ⟨P671693, F671694, q671686, q671687, n671688, f671689, rfl, rfl, hsb671695, hfr671696, he671697, he671698, he671699, he671700, hm671701, hq671702, hm671703, hq671704, hdc, hds, bf671689, x671690, x671691, ht671692⟩ := hp671683
            have hm671705 : q669860 ∈ P671693 := hsb671695 q669860 hm671372
            have hm671706 : q669861 ∈ P671693 := hsb671695 q669861 hm671373
            have hm671707 : q669891 ∈ P671693 := hsb671695 q669891 hm671374
            have hm671708 : q671361 ∈ P671693 := hsb671695 q671361 hm671375
            have hq671709 : q671686 ∉ P669858 := fun z => hq671702 (hsb671376 q671686 z)
            have hq671710 : q671687 ∉ P669858 := fun z => hq671704 (hsb671376 q671687 z)
            have hsb671711 : rSub P669858 P671693 := rSub_tr hsb671376 hsb671695
            have he671712 : F671694 q669860 = .inr (19, [.ref q669861, .int p669862, .int g671359, .int 6, .int p669865, .int p669866, .int p669867, .ref qo669868, .int p669869, .int p669870, .int p669871, .ref qo669872, .ref qo669873, .int p669874]) := (hfr671696 q669860 hm671372 nm_n).trans he671366
            have he671713 : F671694 q669861 = .inl (I .byte, 8192, .inl f669875) := (hfr671696 q669861 hm671373 nm_n).trans he671367
            have hfr671714 : rFr [q669860] P669858 F669859 F671694 := rFr_call hsb671376 hfr671370 hfr671696 (fun b hb hn => ⟨(nm_c (fun e => hn (e ▸ List.mem_cons_self)) nm_n), nm_n⟩)
            have hne671715 : q671361 ≠ q671687 := fun h => hq671704 (h ▸ hm671375)
            change G _ _ _ _ _ _ _ (.ref q671686 :: _) _ _ _
            refine G_widen (cs' := 2 + (g671360.toInt : Int).toNat + 0 + 2) (sl' := 4 + 2 * n671362 + 0 + (g671360.toInt.toNat + 4)) (by omega) (by omega) ?_
            have x671716 : (n671688 : Int) = g671359.toInt - p669863.toInt := by omega
            clear he669886 he669887 hfr669888 he669898 he669899 he669900 hm669901 hm669902 hm669903 hfr669905 hsb669906 hsb669915 hfr669916 he669917 he669918 hm669919 hq669920 hm669921 hm669922 hm669923 hq669924 hsb669925 he669926 he669927 hfr669928 bo671674 ht671676 bo671674' hsb671695 hfr671696 hq671702 hq671704; try clear r669910; try clear w669911; try clear dc669907; try clear ds669908; try clear hp669909; try clear r671672; try clear w671673; try clear dc671669; try clear ds671670; try clear hp671671; try clear x671675; try clear r671678; try clear r671684; try clear w671685; try clear dc671681; try clear ds671682; try clear hp671683
            refine Gp_put 7 hm671705 he671712 dr_cX14_word_245 (gk_X14 D I) (Nat.le_of_ble_eq_true rfl) wr_9_43 rfl rfl rfl (Nat.le_of_ble_eq_true rfl) (fun F671717 e671718 n671719 => ?_)
            have he671720 : F671717 q669861 = .inl (I .byte, 8192, .inl f669875) := (n671719 q669861 (rn_ao he671713 he671712)).trans he671713
            have he671721 : F671717 q671686 = .inr (0, [.ref q671687, .int 0, .int 0, .int 0]) := (n671719 q671686 (fun h => hq671709 (h ▸ hmq669860))).trans he671697
            have he671722 : F671717 q669891 = .inr (1, [.ref q671361, .int 0, .int 0, .int g671360]) := (n671719 q669891 (fun h => hq669904 (h ▸ hmq669860))).trans he671698
            have he671723 : F671717 q671361 = .inl (I .byte, n671362, .inl f671363) := (n671719 q671361 (fun h => hq671364 (h ▸ hmq669860))).trans he671699
            have he671724 : F671717 q671687 = .inl (I .byte, n671688, .inl f671689) := (n671719 q671687 (fun h => hq671710 (h ▸ hmq669860))).trans he671700
            have he671725 : F671717 q669860 = .inr (19, [.ref q669861, .int p669862, .int g671359, .int 6, .int p669865, .int p669866, .int p669867, .ref q671686, .int p669869, .int p669870, .int p669871, .ref qo669872, .ref qo669873, .int p669874]) := e671718
            have hfr671726 : rFr [q669860] P669858 F669859 F671717 := rFr_put' List.mem_cons_self hfr671714 n671719
            refine G_widen (cs' := (4 + (g671359.toInt - p669863.toInt) : Int).toNat) (sl' := (40 + 5 * (g671359.toInt - p669863.toInt) : Int).toNat) (by omega) (by omega) ?_
            clear he671697 he671698 he671699 he671700 he671712 he671713 hfr671714
            refine G_ldcK (a := D.2 1000 34) dr_cX14_word_248 (fun _ _ _ h => gx_vk 34 rfl rfl h) ?_
            have hl34_671726 : (sb_34.length : Int) = 25 := rfl
            refine G_new [.null, .int 0, .int 0, .int 0] dr_cX14_word_250 (gk_J4 D I) wr_7_235 wr_7_44 wr_1_20 (gfs_J4) (show (4 + (g671359.toInt - p669863.toInt) : Int).toNat + 1 ≤ ((16 * (p669862.toInt - p669863.toInt)).toNat) by first | omega | decide) (show (40 + 5 * (g671359.toInt - p669863.toInt) : Int).toNat + 4 ≤ ((160 * (p669862.toInt - p669863.toInt)).toNat) by first | omega | decide) (fun q671728 => Gp_in (fun P671729 F671730 hq671731 hP671732 e671733 n671734 => ?_))
            refine G_widen (cs' := (4 + (g671359.toInt - p669863.toInt) : Int).toNat + 1) (sl' := (40 + 5 * (g671359.toInt - p669863.toInt) : Int).toNat + 4) (by omega) (by omega) ?_
            have he671735 : F671730 q669860 = .inr (19, [.ref q669861, .int p669862, .int g671359, .int 6, .int p669865, .int p669866, .int p669867, .ref q671686, .int p669869, .int p669870, .int p669871, .ref qo669872, .ref qo669873, .int p669874]) := (n671734 q669860 (fun h => hq671731 (h ▸ hm671705))).trans he671725
            have he671736 : F671730 q669861 = .inl (I .byte, 8192, .inl f669875) := (n671734 q669861 (fun h => hq671731 (h ▸ hm671706))).trans he671720
            have he671737 : F671730 q671686 = .inr (0, [.ref q671687, .int 0, .int 0, .int 0]) := (n671734 q671686 (fun h => hq671731 (h ▸ hm671701))).trans he671721
            have he671738 : F671730 q669891 = .inr (1, [.ref q671361, .int 0, .int 0, .int g671360]) := (n671734 q669891 (fun h => hq671731 (h ▸ hm671707))).trans he671722
            have he671739 : F671730 q671361 = .inl (I .byte, n671362, .inl f671363) := (n671734 q671361 (fun h => hq671731 (h ▸ hm671708))).trans he671723
            have he671740 : F671730 q671687 = .inl (I .byte, n671688, .inl f671689) := (n671734 q671687 (fun h => hq671731 (h ▸ hm671703))).trans he671724
            have he671741 : F671730 q671728 = .inr (1, [.null, .int 0, .int 0, .int 0]) := e671733
            have hm671742 : q669860 ∈ P671729 := (hP671732 q669860).mpr (Or.inl hm671705)
            have hm671743 : q669861 ∈ P671729 := (hP671732 q669861).mpr (Or.inl hm671706)
            have hm671744 : q669891 ∈ P671729 := (hP671732 q669891).mpr (Or.inl hm671707)
            have hm671745 : q671361 ∈ P671729 := (hP671732 q671361).mpr (Or.inl hm671708)
            have hm671746 : q671686 ∈ P671729 := (hP671732 q671686).mpr (Or.inl hm671701)
            have hm671747 : q671687 ∈ P671729 := (hP671732 q671687).mpr (Or.inl hm671703)
            have hm671748 : q671728 ∈ P671729 := (hP671732 q671728).mpr (Or.inr rfl)
            have hq671749 : q671728 ∉ P669858 := fun z => hq671731 (hsb671711 q671728 z)
            have hfr671750 : rFr [q669860] P669858 F669859 F671730 := rFr_new hsb671711 hq671731 hfr671726 n671734
            have hsb671751 : rSub P669858 P671729 := rSub_new hsb671711 hP671732
            have hne671752 : q669891 ≠ q671728 := fun h => hq671731 (h ▸ hm671707)
            refine G_dup dr_cX14_word_253 rfl ?_
            refine Gw_callI (As := []) (gV_ok D I) (cp_659115_StringBuilder_init l hl0 D I P671729 F671730 q671728 0 0 hm671748 he671741 (gB_w (gBl (show Int32.toInt 0 = 0 by decide)) (by decide) (by decide)) (gB_w (gBl (show Int32.toInt 0 = 0 by decide)) (by decide) (by decide))) dr_cX14_word_254 ⟨wr_7_236, wr_1_20, wr_7_47, by decide, rfl, (Nat.le_of_ble_eq_true rfl), (Nat.le_of_ble_eq_true rfl)⟩ wr_7_46 rfl (show (4 + (g671359.toInt - p669863.toInt) : Int).toNat + 1 + 1 ≤ ((16 * (p669862.toInt - p669863.toInt)).toNat) by first | omega | decide) (show (40 + 5 * (g671359.toInt - p669863.toInt) : Int).toNat + 4 + 16 ≤ ((160 * (p669862.toInt - p669863.toInt)).toNat) by first | omega | decide) (Nat.le_of_ble_eq_true rfl) (fun r671756 w671757 dc671753 ds671754 hp671755 => ?_)
            obtain ⟨P671759, F671760, q671758, rfl, rfl, hsb671761, hfr671762, he671763, he671764, hm671765, hq671766, hdc, hds⟩ := hp671755
            have hm671767 : q669860 ∈ P671759 := hsb671761 q669860 hm671742
            have hm671768 : q669861 ∈ P671759 := hsb671761 q669861 hm671743
            have hm671769 : q669891 ∈ P671759 := hsb671761 q669891 hm671744
            have hm671770 : q671361 ∈ P671759 := hsb671761 q671361 hm671745
            have hm671771 : q671686 ∈ P671759 := hsb671761 q671686 hm671746
            have hm671772 : q671687 ∈ P671759 := hsb671761 q671687 hm671747
            have hm671773 : q671728 ∈ P671759 := hsb671761 q671728 hm671748
            have hq671774 : q671758 ∉ P669858 := fun z => hq671766 (hsb671751 q671758 z)
            have hsb671775 : rSub P669858 P671759 := rSub_tr hsb671751 hsb671761
            have he671776 : F671760 q669860 = .inr (19, [.ref q669861, .int p669862, .int g671359, .int 6, .int p669865, .int p669866, .int p669867, .ref q671686, .int p669869, .int p669870, .int p669871, .ref qo669872, .ref qo669873, .int p669874]) := (hfr671762 q669860 hm671742 (nm_c (fun h => hq671749 (h ▸ hmq669860)) nm_n)).trans he671735
            have he671777 : F671760 q669861 = .inl (I .byte, 8192, .inl f669875) := (hfr671762 q669861 hm671743 (nm_c (fun h => hq671749 (h ▸ hmq669861)) nm_n)).trans he671736
            have he671778 : F671760 q671686 = .inr (0, [.ref q671687, .int 0, .int 0, .int 0]) := (hfr671762 q671686 hm671746 (nm_c (rn_oo he671737 he671741 (by decide)) nm_n)).trans he671737
            have he671779 : F671760 q669891 = .inr (1, [.ref q671361, .int 0, .int 0, .int g671360]) := (hfr671762 q669891 hm671744 (nm_c hne671752 nm_n)).trans he671738
            have he671780 : F671760 q671361 = .inl (I .byte, n671362, .inl f671363) := (hfr671762 q671361 hm671745 (nm_c (rn_ao he671739 he671741) nm_n)).trans he671739
            have he671781 : F671760 q671687 = .inl (I .byte, n671688, .inl f671689) := (hfr671762 q671687 hm671747 (nm_c (rn_ao he671740 he671741) nm_n)).trans he671740
            have hfr671782 : rFr [q669860] P669858 F669859 F671760 := rFr_call hsb671751 hfr671750 hfr671762 (fun b hb hn => ⟨(nm_c (fun e => hn (e ▸ List.mem_cons_self)) nm_n), (nm_c (fun e => hq671749 (e ▸ hb)) nm_n)⟩)
            have hne671783 : q671361 ≠ q671758 := fun h => hq671766 (h ▸ hm671745)
            have hne671784 : q671687 ≠ q671758 := fun h => hq671766 (h ▸ hm671747)
            change G _ _ _ _ _ _ _ _ _ _ _
            refine G_widen (cs' := (4 + (g671359.toInt - p669863.toInt) : Int).toNat + 1 + 1) (sl' := (40 + 5 * (g671359.toInt - p669863.toInt) : Int).toNat + 4 + 16) (by omega) (by omega) ?_
            refine G_ldcK (a := D.2 1000 35) dr_cX14_word_257 (fun _ _ _ h => gx_vk 35 rfl rfl h) ?_
            have hl35_671784 : (sb_35.length : Int) = 1 := rfl
            refine Gw_callV (As := [.ref (D.2 1000 35)]) (gV_ok D I) (cp_659417_StringBuilder_append l hl0 D I P671759 F671760 q671728 q671758 (D.2 1000 35) (D.2 1001 35) sb_35 0 0 (fun _ => 0) 16 hm671773 hm671765 he671763 he671764 (gx_sc 35 rfl rfl) (by omega) (by decide +kernel) (gB_w (gBl (show Int32.toInt 0 = 0 by decide)) (by decide) (by decide)) (gB_w (gBl (show Int32.toInt 0 = 0 by decide)) (by decide) (by decide)) (gF_w gF_0 (by decide) (by decide)) (by have qa0 : Int32.toInt 0 = 0 := (by decide); have qa1 : Int32.toInt 6 = 6 := (by decide); omega) (by have qa0 : Int32.toInt 0 = 0 := (by decide); have qa1 : Int32.toInt 6 = 6 := (by decide); omega)) dr_cX14_word_259 ⟨wr_8_195, wr_1_20, wr_8_143, by decide, rfl, (Nat.le_of_ble_eq_true rfl), (Nat.le_of_ble_eq_true rfl)⟩ wr_8_141 wr_8_142 hm671773 he671763 rfl (show (4 + (g671359.toInt - p669863.toInt) : Int).toNat + 1 + 1 + 0 ≤ ((16 * (p669862.toInt - p669863.toInt)).toNat) by first | omega | decide) (show (40 + 5 * (g671359.toInt - p669863.toInt) : Int).toNat + 4 + 16 + 0 ≤ ((160 * (p669862.toInt - p669863.toInt)).toNat) by first | omega | decide) (Nat.le_of_ble_eq_true rfl) (fun r671789 w671790 dc671786 ds671787 hp671788 => ?_) (fun _ _ _ _ _ z => z.elim)
            obtain ⟨F671797, o671791, f671792, rfl, rfl, hfr671799, he671800, he671801, hdc, hds, bo671791, bf671792, x671793, x671794, x671795, ht671796⟩ := hp671788
            have he671802 : F671797 q669860 = .inr (19, [.ref q669861, .int p669862, .int g671359, .int 6, .int p669865, .int p669866, .int p669867, .ref q671686, .int p669869, .int p669870, .int p669871, .ref qo669872, .ref qo669873, .int p669874]) := (hfr671799 q669860 hm671767 (nm_c (fun h => hq671749 (h ▸ hmq669860)) (nm_c (fun h => hq671774 (h ▸ hmq669860)) nm_n))).trans he671776
            have he671803 : F671797 q669861 = .inl (I .byte, 8192, .inl f669875) := (hfr671799 q669861 hm671768 (nm_c (fun h => hq671749 (h ▸ hmq669861)) (nm_c (fun h => hq671774 (h ▸ hmq669861)) nm_n))).trans he671777
            have he671804 : F671797 q671686 = .inr (0, [.ref q671687, .int 0, .int 0, .int 0]) := (hfr671799 q671686 hm671771 (nm_c (rn_oo he671778 he671763 (by decide)) (nm_c (rn_oa he671778 he671764) nm_n))).trans he671778
            have he671805 : F671797 q669891 = .inr (1, [.ref q671361, .int 0, .int 0, .int g671360]) := (hfr671799 q669891 hm671769 (nm_c hne671752 (nm_c (rn_oa he671779 he671764) nm_n))).trans he671779
            have he671806 : F671797 q671361 = .inl (I .byte, n671362, .inl f671363) := (hfr671799 q671361 hm671770 (nm_c (rn_ao he671780 he671763) (nm_c hne671783 nm_n))).trans he671780
            have he671807 : F671797 q671687 = .inl (I .byte, n671688, .inl f671689) := (hfr671799 q671687 hm671772 (nm_c (rn_ao he671781 he671763) (nm_c hne671784 nm_n))).trans he671781
            have hfr671808 : rFr [q669860] P669858 F669859 F671797 := rFr_call hsb671775 hfr671782 hfr671799 (fun b hb hn => ⟨(nm_c (fun e => hn (e ▸ List.mem_cons_self)) nm_n), (nm_c (fun e => hq671749 (e ▸ hb)) (nm_c (fun e => hq671774 (e ▸ hb)) nm_n))⟩)
            rw [show Int32.toInt 0 = 0 from by decide] at x671793
            have bo671791' : gB o671791 1 1 := ⟨by omega, by omega⟩
            rw [show Int32.toInt 0 = 0 from by decide] at x671794
            rw [show Int32.toInt 0 = 0 from by decide] at x671795
            change G _ _ _ _ _ _ _ (.ref q671728 :: _) _ _ _
            refine G_widen (cs' := (4 + (g671359.toInt - p669863.toInt) : Int).toNat + 1 + 1 + 0) (sl' := (40 + 5 * (g671359.toInt - p669863.toInt) : Int).toNat + 4 + 16 + 0) (by omega) (by omega) ?_
            refine G_aload_n 2 dr_cX14_word_262 rfl ?_
            clear hm671701 hm671703 hm671705 hm671706 hm671707 hm671708 hsb671711 he671720 he671721 he671722 he671723 he671724 he671725 hfr671726 he671735 he671736 he671737 he671738 he671739 he671740 he671741 hm671742 hm671743 hm671744 hm671745 hm671746 hm671747 hm671748 hfr671750 hsb671751 hsb671761 hfr671762 he671763 he671764 hq671766 he671776 he671777 he671778 he671779 he671780 he671781 hfr671782 hfr671799; try clear r671756; try clear w671757; try clear dc671753; try clear ds671754; try clear hp671755; try clear r671789; try clear w671790; try clear dc671786; try clear ds671787; try clear hp671788
            refine Gp_get 7 hm671767 he671802 dr_cX14_word_263 (gk_X14 D I) (Nat.le_of_ble_eq_true rfl) wr_9_43 rfl ?_
            refine Gw_callV (As := [.ref q671686]) (gV_ok D I) (cp_659617_StringBuilder_append l hl0 D I P671759 F671797 q671728 q671686 q671758 q671687 0 o671791 0 0 f671792 16 f671689 n671688 hm671773 hm671771 hm671765 hm671772 he671800 he671804 he671801 he671807 (Ne.symm hne671784) (gB_w (gBl (show Int32.toInt 0 = 0 by decide)) (by decide) (by decide)) (gB_w bo671791' (by decide) (by decide)) (gB_w (gBl (show Int32.toInt 0 = 0 by decide)) (by decide) (by decide)) bf671792 bf671689 (by have qa0 : Int32.toInt 0 = 0 := (by decide); have qa1 : Int32.toInt 6 = 6 := (by decide); omega) (by have qa0 : Int32.toInt 0 = 0 := (by decide); have qa1 : Int32.toInt 6 = 6 := (by decide); omega) (by have qa0 : Int32.toInt 0 = 0 := (by decide); have qa1 : Int32.toInt 6 = 6 := (by decide); omega) (by have qa0 : Int32.toInt 0 = 0 := (by decide); have qa1 : Int32.toInt 6 = 6 := (by decide); omega) (by have qa0 : Int32.toInt 0 = 0 := (by decide); have qa1 : Int32.toInt 6 = 6 := (by decide); omega)) dr_cX14_word_266 ⟨wr_8_195, wr_1_20, wr_8_143, by decide, rfl, (Nat.le_of_ble_eq_true rfl), (Nat.le_of_ble_eq_true rfl)⟩ wr_8_141 wr_8_142 hm671773 he671800 rfl (show (4 + (g671359.toInt - p669863.toInt) : Int).toNat + 1 + 1 + 0 + 1 ≤ ((16 * (p669862.toInt - p669863.toInt)).toNat) by first | omega | decide) (show (40 + 5 * (g671359.toInt - p669863.toInt) : Int).toNat + 4 + 16 + 0 + (4 * 16 + 4 + 2 * n671688) ≤ ((160 * (p669862.toInt - p669863.toInt)).toNat) by first | omega | decide) (Nat.le_of_ble_eq_true rfl) (fun r671812 w671813 dc671809 ds671810 hp671811 => ?_) (fun _ _ _ _ _ z => z.elim)
            obtain ⟨P671824, F671825, o671814, q671815, n671816, f671817, rfl, rfl, hsb671826, hfr671827, he671828, he671829, he671830, he671831, hm671832, hq671833, hdc, hds, bo671814, bf671817, x671818, x671819, x671820, x671821, x671822, ht671823⟩ := hp671811
            have hm671834 : q669860 ∈ P671824 := hsb671826 q669860 hm671767
            have hm671835 : q669861 ∈ P671824 := hsb671826 q669861 hm671768
            have hm671836 : q669891 ∈ P671824 := hsb671826 q669891 hm671769
            have hm671837 : q671361 ∈ P671824 := hsb671826 q671361 hm671770
            have hm671838 : q671686 ∈ P671824 := hsb671826 q671686 hm671771
            have hm671839 : q671687 ∈ P671824 := hsb671826 q671687 hm671772
            have hm671840 : q671728 ∈ P671824 := hsb671826 q671728 hm671773
            have hm671841 : q671758 ∈ P671824 := hsb671826 q671758 hm671765
            have hq671842 : q671815 ∉ P669858 := fun z => hq671833.elim (fun e => hq671774 (e ▸ z)) (fun n => n (hsb671775 _ z))
            have hsb671843 : rSub P669858 P671824 := rSub_tr hsb671775 hsb671826
            have he671844 : F671825 q669860 = .inr (19, [.ref q669861, .int p669862, .int g671359, .int 6, .int p669865, .int p669866, .int p669867, .ref q671686, .int p669869, .int p669870, .int p669871, .ref qo669872, .ref qo669873, .int p669874]) := (hfr671827 q669860 hm671767 (nm_c (fun h => hq671749 (h ▸ hmq669860)) (nm_c (fun h => hq671774 (h ▸ hmq669860)) nm_n))).trans he671802
            have he671845 : F671825 q669861 = .inl (I .byte, 8192, .inl f669875) := (hfr671827 q669861 hm671768 (nm_c (fun h => hq671749 (h ▸ hmq669861)) (nm_c (fun h => hq671774 (h ▸ hmq669861)) nm_n))).trans he671803
            have he671846 : F671825 q669891 = .inr (1, [.ref q671361, .int 0, .int 0, .int g671360]) := (hfr671827 q669891 hm671769 (nm_c hne671752 (nm_c (rn_oa he671805 he671801) nm_n))).trans he671805
            have he671847 : F671825 q671361 = .inl (I .byte, n671362, .inl f671363) := (hfr671827 q671361 hm671770 (nm_c (rn_ao he671806 he671800) (nm_c hne671783 nm_n))).trans he671806
            have hfr671848 : rFr [q669860] P669858 F669859 F671825 := rFr_call hsb671775 hfr671808 hfr671827 (fun b hb hn => ⟨(nm_c (fun e => hn (e ▸ List.mem_cons_self)) nm_n), (nm_c (fun e => hq671749 (e ▸ hb)) (nm_c (fun e => hq671774 (e ▸ hb)) nm_n))⟩)
            have hne671849 : q671361 ≠ q671815 := fun e => hq671833.elim (fun e2 => hne671783 (e.trans e2)) (fun n => n (e ▸ hm671770))
            have hne671850 : q671687 ≠ q671815 := fun e => hq671833.elim (fun e2 => hne671784 (e.trans e2)) (fun n => n (e ▸ hm671772))
            have bo671814' : gB o671814 1 16777216 := ⟨by omega, by omega⟩
            change G _ _ _ _ _ _ _ (.ref q671728 :: _) _ _ _
            refine G_widen (cs' := (4 + (g671359.toInt - p669863.toInt) : Int).toNat + 1 + 1 + 0 + 1) (sl' := (40 + 5 * (g671359.toInt - p669863.toInt) : Int).toNat + 4 + 16 + 0 + (2 * (n671816 - 16))) (by omega) (by omega) ?_
            refine G_widen (cs' := (7 + (g671359.toInt - p669863.toInt) : Int).toNat) (sl' := (60 + 10 * (g671359.toInt - p669863.toInt) : Int).toNat) (by omega) (by omega) ?_
            clear hm671765 hm671767 hm671768 hm671769 hm671770 hm671771 hm671772 hm671773 hq671774 hsb671775 hne671783 hne671784 he671800 he671801 bf671792 he671802 he671803 he671804 he671805 he671806 he671807 hfr671808 hsb671826 hfr671827 hq671833 hm671841; try clear x671794; try clear x671795; try clear r671812; try clear w671813; try clear dc671809; try clear ds671810; try clear hp671811
            refine G_ldcK (a := D.2 1000 35) dr_cX14_word_269 (fun _ _ _ h => gx_vk 35 rfl rfl h) ?_
            have hl35_671850 : (sb_35.length : Int) = 1 := rfl
            refine Gw_callV (As := [.ref (D.2 1000 35)]) (gV_ok D I) (cp_659765_StringBuilder_append l hl0 D I P671824 F671825 q671728 q671815 (D.2 1000 35) (D.2 1001 35) sb_35 0 o671814 f671817 n671816 hm671840 hm671832 he671828 he671830 (gx_sc 35 rfl rfl) (by omega) (by decide +kernel) (gB_w (gBl (show Int32.toInt 0 = 0 by decide)) (by decide) (by decide)) (gB_w bo671814' (by decide) (by decide)) bf671817 (by have qa0 : Int32.toInt 0 = 0 := (by decide); have qa1 : Int32.toInt 6 = 6 := (by decide); omega) (by have qa0 : Int32.toInt 0 = 0 := (by decide); have qa1 : Int32.toInt 6 = 6 := (by decide); omega) (by have qa0 : Int32.toInt 0 = 0 := (by decide); have qa1 : Int32.toInt 6 = 6 := (by decide); omega) (by have qa0 : Int32.toInt 0 = 0 := (by decide); have qa1 : Int32.toInt 6 = 6 := (by decide); omega)) dr_cX14_word_271 ⟨wr_8_195, wr_1_20, wr_8_143, by decide, rfl, (Nat.le_of_ble_eq_true rfl), (Nat.le_of_ble_eq_true rfl)⟩ wr_8_141 wr_8_142 hm671840 he671828 rfl (show (7 + (g671359.toInt - p669863.toInt) : Int).toNat + 1 ≤ ((16 * (p669862.toInt - p669863.toInt)).toNat) by first | omega | decide) (show (60 + 10 * (g671359.toInt - p669863.toInt) : Int).toNat + (4 * n671816 + 4 + 2 * sb_35.length) ≤ ((160 * (p669862.toInt - p669863.toInt)).toNat) by first | omega | decide) (Nat.le_of_ble_eq_true rfl) (fun r671855 w671856 dc671852 ds671853 hp671854 => ?_) (fun _ _ _ _ _ z => z.elim)
            obtain ⟨P671867, F671868, o671857, q671858, n671859, f671860, rfl, rfl, hsb671869, hfr671870, he671871, he671872, hm671873, hq671874, hdc, hds, bo671857, bf671860, x671861, x671862, x671863, x671864, x671865, ht671866⟩ := hp671854
            have hm671875 : q669860 ∈ P671867 := hsb671869 q669860 hm671834
            have hm671876 : q669861 ∈ P671867 := hsb671869 q669861 hm671835
            have hm671877 : q669891 ∈ P671867 := hsb671869 q669891 hm671836
            have hm671878 : q671361 ∈ P671867 := hsb671869 q671361 hm671837
            have hm671879 : q671686 ∈ P671867 := hsb671869 q671686 hm671838
            have hm671880 : q671687 ∈ P671867 := hsb671869 q671687 hm671839
            have hm671881 : q671728 ∈ P671867 := hsb671869 q671728 hm671840
            have hm671882 : q671815 ∈ P671867 := hsb671869 q671815 hm671832
            have hq671883 : q671858 ∉ P669858 := fun z => hq671874.elim (fun e => hq671842 (e ▸ z)) (fun n => n (hsb671843 _ z))
            have hsb671884 : rSub P669858 P671867 := rSub_tr hsb671843 hsb671869
            have he671885 : F671868 q669860 = .inr (19, [.ref q669861, .int p669862, .int g671359, .int 6, .int p669865, .int p669866, .int p669867, .ref q671686, .int p669869, .int p669870, .int p669871, .ref qo669872, .ref qo669873, .int p669874]) := (hfr671870 q669860 hm671834 (nm_c (fun h => hq671749 (h ▸ hmq669860)) (nm_c (fun h => hq671842 (h ▸ hmq669860)) nm_n))).trans he671844
            have he671886 : F671868 q669861 = .inl (I .byte, 8192, .inl f669875) := (hfr671870 q669861 hm671835 (nm_c (fun h => hq671749 (h ▸ hmq669861)) (nm_c (fun h => hq671842 (h ▸ hmq669861)) nm_n))).trans he671845
            have he671887 : F671868 q669891 = .inr (1, [.ref q671361, .int 0, .int 0, .int g671360]) := (hfr671870 q669891 hm671836 (nm_c hne671752 (nm_c (rn_oa he671846 he671830) nm_n))).trans he671846
            have he671888 : F671868 q671361 = .inl (I .byte, n671362, .inl f671363) := (hfr671870 q671361 hm671837 (nm_c (rn_ao he671847 he671828) (nm_c hne671849 nm_n))).trans he671847
            have he671889 : F671868 q671686 = .inr (0, [.ref q671687, .int 0, .int 0, .int 0]) := (hfr671870 q671686 hm671838 (nm_c (rn_oo he671829 he671828 (by decide)) (nm_c (rn_oa he671829 he671830) nm_n))).trans he671829
            have he671890 : F671868 q671687 = .inl (I .byte, n671688, .inl f671689) := (hfr671870 q671687 hm671839 (nm_c (rn_ao he671831 he671828) (nm_c hne671850 nm_n))).trans he671831
            have hfr671891 : rFr [q669860] P669858 F669859 F671868 := rFr_call hsb671843 hfr671848 hfr671870 (fun b hb hn => ⟨(nm_c (fun e => hn (e ▸ List.mem_cons_self)) nm_n), (nm_c (fun e => hq671749 (e ▸ hb)) (nm_c (fun e => hq671842 (e ▸ hb)) nm_n))⟩)
            have hne671892 : q671361 ≠ q671858 := fun e => hq671874.elim (fun e2 => hne671849 (e.trans e2)) (fun n => n (e ▸ hm671837))
            have hne671893 : q671687 ≠ q671858 := fun e => hq671874.elim (fun e2 => hne671850 (e.trans e2)) (fun n => n (e ▸ hm671839))
            have bo671857' : gB o671857 2 16777216 := ⟨by omega, by omega⟩
            change G _ _ _ _ _ _ _ (.ref q671728 :: _) _ _ _
            refine G_widen (cs' := (7 + (g671359.toInt - p669863.toInt) : Int).toNat + 1) (sl' := (60 + 10 * (g671359.toInt - p669863.toInt) : Int).toNat + (2 * (n671859 - n671816))) (by omega) (by omega) ?_
            refine G_widen (cs' := (8 + (g671359.toInt - p669863.toInt) : Int).toNat) (sl' := (60 + 15 * (g671359.toInt - p669863.toInt) : Int).toNat) (by omega) (by omega) ?_
            clear he671828 he671829 he671830 he671831 hm671832 bf671817 hm671834 hm671835 hm671836 hm671837 hm671838 hm671839 hm671840 hq671842 hsb671843 he671844 he671845 he671846 he671847 hfr671848 hne671849 hne671850 hsb671869 hfr671870 hq671874 hm671882; try clear r671855; try clear w671856; try clear dc671852; try clear ds671853; try clear hp671854
            refine Gw_callV (As := []) (gV_ok D I) (cp_659890_StringBuilder_toString l hl0 D I P671867 F671868 q671728 q671858 0 o671857 f671860 n671859 hm671881 hm671873 he671871 he671872 (gB_w (gBl (show Int32.toInt 0 = 0 by decide)) (by decide) (by decide)) (gB_w bo671857' (by decide) (by decide)) bf671860 (by have qa0 : Int32.toInt 0 = 0 := (by decide); have qa1 : Int32.toInt 6 = 6 := (by decide); omega) (by have qa0 : Int32.toInt 0 = 0 := (by decide); have qa1 : Int32.toInt 6 = 6 := (by decide); omega)) dr_cX14_word_274 ⟨wr_8_66, wr_1_20, wr_8_69, by decide, rfl, (Nat.le_of_ble_eq_true rfl), (Nat.le_of_ble_eq_true rfl)⟩ wr_8_67 wr_8_68 hm671881 he671871 rfl (show (8 + (g671359.toInt - p669863.toInt) : Int).toNat + 2 ≤ ((16 * (p669862.toInt - p669863.toInt)).toNat) by first | omega | decide) (show (60 + 15 * (g671359.toInt - p669863.toInt) : Int).toNat + (o671857.toInt.toNat + 4) ≤ ((160 * (p669862.toInt - p669863.toInt)).toNat) by first | omega | decide) (Nat.le_of_ble_eq_true rfl) (fun r671897 w671898 dc671894 ds671895 hp671896 => ?_) (fun _ _ _ _ _ z => z.elim)
            obtain ⟨P671906, F671907, q671899, q671900, n671901, f671902, rfl, rfl, hsb671908, hfr671909, he671910, he671911, he671912, he671913, hm671914, hq671915, hm671916, hq671917, hdc, hds, bf671902, x671903, x671904, ht671905⟩ := hp671896
            have hm671918 : q669860 ∈ P671906 := hsb671908 q669860 hm671875
            have hm671919 : q669861 ∈ P671906 := hsb671908 q669861 hm671876
            have hm671920 : q669891 ∈ P671906 := hsb671908 q669891 hm671877
            have hm671921 : q671361 ∈ P671906 := hsb671908 q671361 hm671878
            have hm671922 : q671686 ∈ P671906 := hsb671908 q671686 hm671879
            have hm671923 : q671687 ∈ P671906 := hsb671908 q671687 hm671880
            have hm671924 : q671728 ∈ P671906 := hsb671908 q671728 hm671881
            have hm671925 : q671858 ∈ P671906 := hsb671908 q671858 hm671873
            have hq671926 : q671899 ∉ P669858 := fun z => hq671915 (hsb671884 q671899 z)
            have hq671927 : q671900 ∉ P669858 := fun z => hq671917 (hsb671884 q671900 z)
            have hsb671928 : rSub P669858 P671906 := rSub_tr hsb671884 hsb671908
            have he671929 : F671907 q669860 = .inr (19, [.ref q669861, .int p669862, .int g671359, .int 6, .int p669865, .int p669866, .int p669867, .ref q671686, .int p669869, .int p669870, .int p669871, .ref qo669872, .ref qo669873, .int p669874]) := (hfr671909 q669860 hm671875 nm_n).trans he671885
            have he671930 : F671907 q669861 = .inl (I .byte, 8192, .inl f669875) := (hfr671909 q669861 hm671876 nm_n).trans he671886
            have he671931 : F671907 q669891 = .inr (1, [.ref q671361, .int 0, .int 0, .int g671360]) := (hfr671909 q669891 hm671877 nm_n).trans he671887
            have he671932 : F671907 q671361 = .inl (I .byte, n671362, .inl f671363) := (hfr671909 q671361 hm671878 nm_n).trans he671888
            have he671933 : F671907 q671686 = .inr (0, [.ref q671687, .int 0, .int 0, .int 0]) := (hfr671909 q671686 hm671879 nm_n).trans he671889
            have he671934 : F671907 q671687 = .inl (I .byte, n671688, .inl f671689) := (hfr671909 q671687 hm671880 nm_n).trans he671890
            have hfr671935 : rFr [q669860] P669858 F669859 F671907 := rFr_call hsb671884 hfr671891 hfr671909 (fun b hb hn => ⟨(nm_c (fun e => hn (e ▸ List.mem_cons_self)) nm_n), nm_n⟩)
            have hne671936 : q671686 ≠ q671899 := fun h => hq671915 (h ▸ hm671879)
            have hne671937 : q671361 ≠ q671900 := fun h => hq671917 (h ▸ hm671878)
            have hne671938 : q671687 ≠ q671900 := fun h => hq671917 (h ▸ hm671880)
            have hne671939 : q671858 ≠ q671900 := fun h => hq671917 (h ▸ hm671873)
            change G _ _ _ _ _ _ _ (.ref q671899 :: _) _ _ _
            refine G_widen (cs' := (8 + (g671359.toInt - p669863.toInt) : Int).toNat + 2) (sl' := (60 + 15 * (g671359.toInt - p669863.toInt) : Int).toNat + (o671857.toInt.toNat + 4)) (by omega) (by omega) ?_
            refine G_widen (cs' := (10 + (g671359.toInt - p669863.toInt) : Int).toNat) (sl' := (66 + 16 * (g671359.toInt - p669863.toInt) : Int).toNat) (by omega) (by omega) ?_
            clear hq671749 hne671752 he671871 he671872 hm671873 bf671860 hm671875 hm671876 hm671877 hm671878 hm671879 hm671880 hm671881 hq671883 hsb671884 he671885 he671886 he671887 he671888 he671889 he671890 hfr671891 hne671892 hne671893 hsb671908 hfr671909 he671911 he671912 hq671915 hq671917 hm671924 hm671925 hne671939; try clear r671897; try clear w671898; try clear dc671894; try clear ds671895; try clear hp671896; try clear x671904
            refine Gw_callVk (As := [.ref q671899]) (gV_ok D I) (cp_660349_String_indexOf l hl0 D I P671906 F671907 q671899 q671900 (D.2 1000 34) (D.2 1001 34) sb_34 0 0 f671902 n671901 hm671914 hm671916 he671910 he671913 (gx_sc 34 rfl rfl) (by omega) (by decide +kernel) (gB_w (gBl (show Int32.toInt 0 = 0 by decide)) (by decide) (by decide)) bf671902 (by have qa0 : Int32.toInt 0 = 0 := (by decide); have qa1 : Int32.toInt 6 = 6 := (by decide); omega) (by have qa0 : Int32.toInt 0 = 0 := (by decide); have qa1 : Int32.toInt 6 = 6 := (by decide); omega)) dr_cX14_word_277 ⟨wr_8_196, wr_1_21, wr_8_199, by decide, rfl, (Nat.le_of_ble_eq_true rfl), (Nat.le_of_ble_eq_true rfl)⟩ wr_8_197 wr_8_198 (fun _ _ _ h => ((gx_sc 34 rfl rfl) _ _ _ h).1) (show (10 + (g671359.toInt - p669863.toInt) : Int).toNat + 0 ≤ ((16 * (p669862.toInt - p669863.toInt)).toNat) by first | omega | decide) (show (66 + 16 * (g671359.toInt - p669863.toInt) : Int).toNat + 0 ≤ ((160 * (p669862.toInt - p669863.toInt)).toNat) by first | omega | decide) (Nat.le_of_ble_eq_true rfl) (fun r671943 w671944 dc671940 ds671941 hp671942 => ?_) (fun _ _ _ _ _ z => z.elim)
            obtain ⟨o671945, rfl, rfl, hdc, hds, bo671945, x671946, x671947, ht671948⟩ := hp671942
            change G _ _ _ _ _ _ _ (.int o671945 :: _) _ _ _
            refine G_widen (cs' := (10 + (g671359.toInt - p669863.toInt) : Int).toNat + 0) (sl' := (66 + 16 * (g671359.toInt - p669863.toInt) : Int).toNat + 0) (by omega) (by omega) ?_
            clear he671910 he671913 hm671914 hm671916 bf671902 hq671926 hq671927 hne671936 hne671937 hne671938; try clear r671943; try clear w671944; try clear dc671940; try clear ds671941; try clear hp671942; try clear x671947
            refine G_if_lt 288 dr_cX14_word_280 (by decide +kernel) (fun hc671949 => ?_) (fun hc671949 => ?_)
            · have r671950 : o671945.toInt < 0 := gj_lt hc671949 (show Int32.toInt 0 = 0 by decide)
              have bo671945' : gB o671945 (-2147483646) (-1) := ⟨by omega, by omega⟩
              exact G_vretA dr_cX14_word_288 rfl (show (10 + (g671359.toInt - p669863.toInt) : Int).toNat + 0 ≤ ((16 * (p669862.toInt - p669863.toInt)).toNat) by omega) (show (66 + 16 * (g671359.toInt - p669863.toInt) : Int).toNat + 0 ≤ ((160 * (p669862.toInt - p669863.toInt)).toNat) by omega) ⟨P671906, F671907, g671359, 6, p669866, q671686, (0, fun _ => 0), rfl, rfl, hsb671928, hfr671935, he671929, he671930, (by omega), (by omega), (gB_w bg671359' (by decide) (by decide)), (gB_w (gBl (show Int32.toInt 6 = 6 by decide)) (by decide) (by decide)), (by have qa0 : Int32.toInt 0 = 0 := (by decide); have qa1 : Int32.toInt 6 = 6 := (by decide); omega), (by have qa0 : Int32.toInt 0 = 0 := (by decide); have qa1 : Int32.toInt 6 = 6 := (by decide); omega), (tP_no (by decide) (by decide)), (vP_no (by decide) (by decide)), (fun R c1 c2 c3 c4 c5 c6 => c1 z669882 g671359 g671360 n671362 f671363 n671688 f671689 o671791 f671792 o671814 n671816 f671817 o671857 n671859 f671860 n671901 f671902 o671945 hz669882 bz669882 hJ669890 hx671679 ht671692 bo671791 ht671796 bo671814 ht671823 bo671857 ht671866 ht671905 bo671945 ht671948 r671950)⟩
            · have r671951 : 0 ≤ o671945.toInt := gj_nlt hc671949 (show Int32.toInt 0 = 0 by decide)
              have bo671945' : gB o671945 0 16777215 := ⟨by omega, by omega⟩
              refine G_aload_n 2 dr_cX14_word_283 rfl ?_
              refine G_iconst 1 dr_cX14_word_284 (by decide +kernel) ?_
              refine Gp_put 3 hm671918 he671929 dr_cX14_word_285 (gk_X14 D I) (Nat.le_of_ble_eq_true rfl) wr_9_39 rfl rfl rfl (Nat.le_of_ble_eq_true rfl) (fun F671952 e671953 n671954 => ?_)
              have he671955 : F671952 q669861 = .inl (I .byte, 8192, .inl f669875) := (n671954 q669861 (rn_ao he671930 he671929)).trans he671930
              have he671956 : F671952 q669891 = .inr (1, [.ref q671361, .int 0, .int 0, .int g671360]) := (n671954 q669891 (fun h => hq669904 (h ▸ hmq669860))).trans he671931
              have he671957 : F671952 q671361 = .inl (I .byte, n671362, .inl f671363) := (n671954 q671361 (fun h => hq671364 (h ▸ hmq669860))).trans he671932
              have he671958 : F671952 q671686 = .inr (0, [.ref q671687, .int 0, .int 0, .int 0]) := (n671954 q671686 (fun h => hq671709 (h ▸ hmq669860))).trans he671933
              have he671959 : F671952 q671687 = .inl (I .byte, n671688, .inl f671689) := (n671954 q671687 (fun h => hq671710 (h ▸ hmq669860))).trans he671934
              have he671960 : F671952 q669860 = .inr (19, [.ref q669861, .int p669862, .int g671359, .int 1, .int p669865, .int p669866, .int p669867, .ref q671686, .int p669869, .int p669870, .int p669871, .ref qo669872, .ref qo669873, .int p669874]) := e671953
              have hfr671961 : rFr [q669860] P669858 F669859 F671952 := rFr_put' List.mem_cons_self hfr671935 n671954
              exact G_vretA dr_cX14_word_288 rfl (show (10 + (g671359.toInt - p669863.toInt) : Int).toNat + 0 ≤ ((16 * (p669862.toInt - p669863.toInt)).toNat) by omega) (show (66 + 16 * (g671359.toInt - p669863.toInt) : Int).toNat + 0 ≤ ((160 * (p669862.toInt - p669863.toInt)).toNat) by omega) ⟨P671906, F671952, g671359, 1, p669866, q671686, (n671688, f671689), rfl, rfl, hsb671928, hfr671961, he671960, he671955, (by omega), (by omega), (gB_w bg671359' (by decide) (by decide)), (gB_w (gBl (show Int32.toInt 1 = 1 by decide)) (by decide) (by decide)), (by have qa0 : Int32.toInt 0 = 0 := (by decide); have qa1 : Int32.toInt 1 = 1 := (by decide); omega), (by have qa0 : Int32.toInt 0 = 0 := (by decide); have qa1 : Int32.toInt 1 = 1 := (by decide); omega), (tP_1 hm671922 he671958 hm671923 he671959 bf671689 (by omega) (gB_w (gBl (show Int32.toInt 0 = 0 by decide)) (by decide) (by decide)) (fun e => hq671710 (e ▸ x669879)) (fun e => hq671710 (e ▸ x669880))), (vP_no (by decide) (by decide)), (fun R c1 c2 c3 c4 c5 c6 => c2 z669882 g671359 g671360 n671362 f671363 n671688 f671689 o671791 f671792 o671814 n671816 f671817 o671857 n671859 f671860 n671901 f671902 o671945 hz669882 bz669882 hJ669890 hx671679 ht671692 bo671791 ht671796 bo671814 ht671823 bo671857 ht671866 ht671905 bo671945 ht671948 r671951)⟩
          · have r671962 : o671674.toInt ≠ 0 := gj_neq hc671677 (show Int32.toInt 0 = 0 by decide)
            have bo671674' : gB o671674 1 1 := ⟨by omega, by omega⟩
            have bi671963 : gB z671668 97 122 := isP_1 x671675 (by omega)
            refine G_aload_n 0 dr_cX14_word_212 rfl ?_
            refine G_aload_n 2 dr_cX14_word_213 rfl ?_
            refine Gp_get 0 hm671372 he671366 dr_cX14_word_214 (gk_X14 D I) (Nat.le_of_ble_eq_true rfl) wr_9_36 rfl ?_
            refine G_aload_n 2 dr_cX14_word_217 rfl ?_
            refine Gp_get 2 hm671372 he671366 dr_cX14_word_218 (gk_X14 D I) (Nat.le_of_ble_eq_true rfl) wr_9_38 rfl ?_
            refine Gp_bald 1 hm671373 he671367 dr_cX14_word_221 rfl (gB_in bg671359' (by decide) (by decide)) (G_eqi (y := z671668) hz671668.symm ?_)
            refine G_i2c dr_cX14_word_222 (G_nam fun z671964 hz671964 => ?_)
            have ez671964 : z671964.toInt = z671668.toInt := gI_i2c hz671964 (by omega) (by omega)
            have bz671964 : gB z671964 97 122 := ⟨by omega, by omega⟩
            refine Gw_callV (As := [.int z671964]) (gV_ok D I) (cp_670549_StringBuilder_append l hl0 D I P671371 F671365 q669891 q671361 z671964 0 g671360 f671363 n671362 hm671374 hm671375 he671368 he671369 (gB_w bz671964 (by decide) (by decide)) (gB_w (gBl (show Int32.toInt 0 = 0 by decide)) (by decide) (by decide)) bg671360 bf671363 (by have qa0 : Int32.toInt 0 = 0 := (by decide); have qa1 : Int32.toInt 6 = 6 := (by decide); omega) (by have qa0 : Int32.toInt 0 = 0 := (by decide); have qa1 : Int32.toInt 6 = 6 := (by decide); omega) (by have qa0 : Int32.toInt 0 = 0 := (by decide); have qa1 : Int32.toInt 6 = 6 := (by decide); omega) (by have qa0 : Int32.toInt 0 = 0 := (by decide); have qa1 : Int32.toInt 6 = 6 := (by decide); omega)) dr_cX14_word_223 ⟨wr_7_237, wr_1_20, wr_8_0, by decide, rfl, (Nat.le_of_ble_eq_true rfl), (Nat.le_of_ble_eq_true rfl)⟩ wr_7_238 wr_7_239 hm671374 he671368 rfl (show 2 + (g671360.toInt : Int).toNat + 0 + 1 ≤ ((16 * (p669862.toInt - p669863.toInt)).toNat) by first | omega | decide) (show 4 + 2 * n671362 + 0 + (4 * n671362 + 8) ≤ ((160 * (p669862.toInt - p669863.toInt)).toNat) by first | omega | decide) (Nat.le_of_ble_eq_true rfl) (fun r671968 w671969 dc671965 ds671966 hp671967 => ?_) (fun _ _ _ _ _ z => z.elim)
            obtain ⟨P671980, F671981, o671970, q671971, n671972, f671973, rfl, rfl, hsb671982, hfr671983, he671984, he671985, hm671986, hq671987, hdc, hds, bo671970, bf671973, x671974, x671975, x671976, x671977, x671978, ht671979⟩ := hp671967
            have hm671988 : q669860 ∈ P671980 := hsb671982 q669860 hm671372
            have hm671989 : q669861 ∈ P671980 := hsb671982 q669861 hm671373
            have hm671990 : q669891 ∈ P671980 := hsb671982 q669891 hm671374
            have hm671991 : q671361 ∈ P671980 := hsb671982 q671361 hm671375
            have hq671992 : q671971 ∉ P669858 := fun z => hq671987.elim (fun e => hq671364 (e ▸ z)) (fun n => n (hsb671376 _ z))
            have hsb671993 : rSub P669858 P671980 := rSub_tr hsb671376 hsb671982
            have he671994 : F671981 q669860 = .inr (19, [.ref q669861, .int p669862, .int g671359, .int 6, .int p669865, .int p669866, .int p669867, .ref qo669868, .int p669869, .int p669870, .int p669871, .ref qo669872, .ref qo669873, .int p669874]) := (hfr671983 q669860 hm671372 (nm_c (fun h => hq671364 (h ▸ hmq669860)) (nm_c (fun h => hq669904 (h ▸ hmq669860)) nm_n))).trans he671366
            have he671995 : F671981 q669861 = .inl (I .byte, 8192, .inl f669875) := (hfr671983 q669861 hm671373 (nm_c (fun h => hq671364 (h ▸ hmq669861)) (nm_c (fun h => hq669904 (h ▸ hmq669861)) nm_n))).trans he671367
            have hfr671996 : rFr [q669860] P669858 F669859 F671981 := rFr_call hsb671376 hfr671370 hfr671983 (fun b hb hn => ⟨(nm_c (fun e => hn (e ▸ List.mem_cons_self)) nm_n), (nm_c (fun e => hq671364 (e ▸ hb)) (nm_c (fun e => hq669904 (e ▸ hb)) nm_n))⟩)
            change G _ _ _ _ _ _ _ (.ref q669891 :: _) _ _ _
            refine G_widen (cs' := 2 + (g671360.toInt : Int).toNat + 0 + 1) (sl' := 4 + 2 * n671362 + 0 + (2 * (n671972 - n671362))) (by omega) (by omega) ?_
            refine G_pop dr_cX14_word_226 rfl ?_
            refine G_aload_n 2 dr_cX14_word_227 rfl ?_
            refine G_dup dr_cX14_word_228 rfl ?_
            refine Gp_get 2 hm671988 he671994 dr_cX14_word_229 (gk_X14 D I) (Nat.le_of_ble_eq_true rfl) wr_9_38 rfl ?_
            refine G_iconst 1 dr_cX14_word_232 (by decide +kernel) ?_
            refine G_iadd dr_cX14_word_233 (G_nam fun z671997 hz671997 => ?_)
            have ez671997 : z671997.toInt = g671359.toInt + 1 := by rw [gI_add hz671997 bg671359' (gBl (show Int32.toInt 1 = 1 by decide)) (by decide) (by decide), show Int32.toInt 1 = 1 from by decide]
            have bz671997 : gB z671997 1 8192 := gB_add (gI_add hz671997 bg671359' (gBl (show Int32.toInt 1 = 1 by decide)) (by decide) (by decide)) bg671359' (gBl (show Int32.toInt 1 = 1 by decide)) (by decide) (by decide)
            refine Gp_put 2 hm671988 he671994 dr_cX14_word_234 (gk_X14 D I) (Nat.le_of_ble_eq_true rfl) wr_9_38 rfl rfl rfl (Nat.le_of_ble_eq_true rfl) (fun F671998 e671999 n672000 => ?_)
            have he672001 : F671998 q669861 = .inl (I .byte, 8192, .inl f669875) := (n672000 q669861 (rn_ao he671995 he671994)).trans he671995
            have he672002 : F671998 q669891 = .inr (1, [.ref q671971, .int 0, .int 0, .int o671970]) := (n672000 q669891 (fun h => hq669904 (h ▸ hmq669860))).trans he671984
            have he672003 : F671998 q671971 = .inl (I .byte, n671972, .inl f671973) := (n672000 q671971 (fun h => hq671992 (h ▸ hmq669860))).trans he671985
            have he672004 : F671998 q669860 = .inr (19, [.ref q669861, .int p669862, .int z671997, .int 6, .int p669865, .int p669866, .int p669867, .ref qo669868, .int p669869, .int p669870, .int p669871, .ref qo669872, .ref qo669873, .int p669874]) := e671999
            have hfr672005 : rFr [q669860] P669858 F669859 F671998 := rFr_put' List.mem_cons_self hfr671996 n672000
            refine G_goto 186 dr_cX14_word_237 (by decide +kernel) ?_
            refine G_widen (cs' := 2 + (o671970.toInt : Int).toNat) (sl' := 4 + 2 * n671972) (by omega) (by omega) ?_
            exact ih186_671381 P671980 F671998 z671997 o671970 q671971 n671972 f671973 (gB_w bz671997 (by decide) (by decide)) (gB_w bo671970 (by decide) (by decide)) bf671973 hsb671993 hfr672005 hm671988 he672004 hm671989 he672001 hm671990 he672002 hm671986 he672003 hq671992 (by have qa0 : Int32.toInt 0 = 0 := (by decide); have qa1 : Int32.toInt 6 = 6 := (by decide); omega) (by have qa0 : Int32.toInt 0 = 0 := (by decide); have qa1 : Int32.toInt 6 = 6 := (by decide); omega) (by have qa0 : Int32.toInt 0 = 0 := (by decide); have qa1 : Int32.toInt 6 = 6 := (by decide); omega) (by have qa0 : Int32.toInt 0 = 0 := (by decide); have qa1 : Int32.toInt 6 = 6 := (by decide); omega) (by have qa0 : Int32.toInt 0 = 0 := (by decide); have qa1 : Int32.toInt 6 = 6 := (by decide); omega) (fun k e1 e2 e3 e4 ht => kt186_671381 k e1 e2 e3 e4 (fun R c1 c2 c3 => c3 g671359 g671360 n671362 f671363 z671668 o671674 z671964 o671970 n671972 f671973 z671997 k e1 e2 e3 e4 bg671359 bg671360 r671667 hz671668 bz671668 bo671674 ht671676 r671962 hz671964 bo671970 ht671979 ez671997 (ht R c1 c2 c3))) (by have qa0 : Int32.toInt 0 = 0 := (by decide); have qa1 : Int32.toInt 6 = 6 := (by decide); omega)
    exact hlp186_671381 (((8193 : Int) - p669863.toInt).toNat + 1) P669913 F669914 p669863 0 q669912 16 (fun _ => 0) bp669863 (gB_w (gBl (show Int32.toInt 0 = 0 by decide)) (by decide) (by decide)) (gF_w gF_0 (by decide) (by decide)) hsb669925 hfr669928 hm669921 he669926 hm669922 he669927 hm669923 he669917 hm669919 he669918 hq669924 (by have qa0 : Int32.toInt 0 = 0 := (by decide); have qa1 : Int32.toInt 6 = 6 := (by decide); omega) (by have qa0 : Int32.toInt 0 = 0 := (by decide); have qa1 : Int32.toInt 6 = 6 := (by decide); omega) (by have qa0 : Int32.toInt 0 = 0 := (by decide); have qa1 : Int32.toInt 6 = 6 := (by decide); omega) (by have qa0 : Int32.toInt 0 = 0 := (by decide); have qa1 : Int32.toInt 6 = 6 := (by decide); omega) (by have qa0 : Int32.toInt 0 = 0 := (by decide); have qa1 : Int32.toInt 6 = 6 := (by decide); omega) (fun k e1 e2 e3 e4 ht => ht) (Nat.lt_succ_self _)
  refine G_iload_n 0 dr_cX14_word_16 rfl ?_
  refine G_bipush 118 dr_cX14_word_17 (by decide +kernel) ?_
  refine G_icmp_eq 28 dr_cX14_word_19 (by decide +kernel) (fun hc672006 => ?_) (fun hc672006 => ?_)
  · have r672007 : z669882.toInt = 118 := gj_eq hc672006 (show Int32.toInt 118 = 118 by decide)
    have bz669882' : gB z669882 118 118 := ⟨by omega, by omega⟩
    refine G_aload_n 1 dr_cX14_word_28 rfl ?_
    refine Gp_get 2 hmq669860 he669887 dr_cX14_word_29 (gk_X14 D I) (Nat.le_of_ble_eq_true rfl) wr_9_38 rfl ?_
    refine G_iconst 1 dr_cX14_word_32 (by decide +kernel) ?_
    refine G_iadd dr_cX14_word_33 (G_nam fun z672008 hz672008 => ?_)
    have ez672008 : z672008.toInt = p669863.toInt + 1 := by rw [gI_add hz672008 bp669863 (gBl (show Int32.toInt 1 = 1 by decide)) (by decide) (by decide), show Int32.toInt 1 = 1 from by decide]
    have bz672008 : gB z672008 1 8193 := gB_add (gI_add hz672008 bp669863 (gBl (show Int32.toInt 1 = 1 by decide)) (by decide) (by decide)) bp669863 (gBl (show Int32.toInt 1 = 1 by decide)) (by decide) (by decide)
    refine G_aload_n 1 dr_cX14_word_34 rfl ?_
    refine Gp_get 1 hmq669860 he669887 dr_cX14_word_35 (gk_X14 D I) (Nat.le_of_ble_eq_true rfl) wr_9_37 rfl ?_
    refine G_icmp_ge 178 dr_cX14_word_38 (by decide +kernel) (fun hc672009 => ?_) (fun hc672009 => ?_)
    · have r672010 : p669862.toInt ≤ z672008.toInt := gC_le hc672009
      refine G_lv (L' := [(1, .int z669882), (0, .ref q669860)]) [0, 1] rfl ?_
      exact jn669889 (Or.inl ⟨z672008, r672007, ez672008, r672010⟩)
    · have r672011 : z672008.toInt < p669862.toInt := gC_nle hc672009
      have bz672008' : gB z672008 1 8191 := ⟨by omega, by omega⟩
      have bp669862' : gB p669862 2 8192 := ⟨by omega, by omega⟩
      refine G_aload_n 1 dr_cX14_word_41 rfl ?_
      refine Gp_get 0 hmq669860 he669887 dr_cX14_word_42 (gk_X14 D I) (Nat.le_of_ble_eq_true rfl) wr_9_36 rfl ?_
      refine G_aload_n 1 dr_cX14_word_45 rfl ?_
      refine Gp_get 2 hmq669860 he669887 dr_cX14_word_46 (gk_X14 D I) (Nat.le_of_ble_eq_true rfl) wr_9_38 rfl ?_
      refine G_iconst 1 dr_cX14_word_49 (by decide +kernel) ?_
      refine G_iadd dr_cX14_word_50 (G_eqi (y := z672008) hz672008.symm ?_)
      refine Gp_bald 1 hmq669861 he669886 dr_cX14_word_51 rfl (gB_in bz672008' (by decide) (by decide)) (G_nam fun z672012 hz672012 => ?_)
      have bz672012 : gB z672012 (-128) 127 := by rw [hz672012]; exact bf669875 _
      refine Gw_callS (As := [.int z672012]) (gV_ok D I) (cp_668275_Reader_isDigit l hl0 D I P669858 F669883 z672012 ) dr_cX14_word_52 ⟨wr_7_219, wr_1_32, wr_7_221, by decide, rfl, (Nat.le_of_ble_eq_true rfl), (Nat.le_of_ble_eq_true rfl)⟩ wr_7_220 (show 0 + 0 ≤ ((16 * (p669862.toInt - p669863.toInt)).toNat) by first | omega | decide) (show 0 + 0 ≤ ((160 * (p669862.toInt - p669863.toInt)).toNat) by first | omega | decide) (Nat.le_of_ble_eq_true rfl) (fun r672016 w672017 dc672013 ds672014 hp672015 => ?_) (fun _ _ _ _ _ z => z.elim)
      obtain ⟨o672018, rfl, rfl, hdc, hds, bo672018, x672019, ht672020⟩ := hp672015
      change G _ _ _ _ _ _ _ (.int o672018 :: _) _ _ _
      refine G_widen (cs' := 0) (sl' := 0) (by omega) (by omega) ?_
      refine G_if_eq 178 dr_cX14_word_55 (by decide +kernel) (fun hc672021 => ?_) (fun hc672021 => ?_)
      · have r672022 : o672018.toInt = 0 := gj_eq hc672021 (show Int32.toInt 0 = 0 by decide)
        have bo672018' : gB o672018 0 0 := ⟨by omega, by omega⟩
        refine G_lv (L' := [(1, .int z669882), (0, .ref q669860)]) [0, 1] rfl ?_
        exact jn669889 (Or.inr (Or.inl ⟨z672008, z672012, o672018, r672007, ez672008, r672011, hz672012, bz672012, bo672018, ht672020, r672022⟩))
      · have r672023 : o672018.toInt ≠ 0 := gj_neq hc672021 (show Int32.toInt 0 = 0 by decide)
        have bo672018' : gB o672018 1 1 := ⟨by omega, by omega⟩
        have bi672024 : gB z672012 48 57 := isP_1 x672019 (by omega)
        refine G_lconst 0 dr_cX14_word_58 rfl ?_
        refine G_lstore_n (L' := [(2, .long 0), (1, .int z669882), (0, .ref q669860)]) dr_cX14_word_59 (Nat.le_of_ble_eq_true rfl) rfl ?_
        refine G_aload_n 2 dr_cX14_word_60 rfl ?_
        refine G_dup dr_cX14_word_61 rfl ?_
        refine Gp_get 2 hmq669860 he669887 dr_cX14_word_62 (gk_X14 D I) (Nat.le_of_ble_eq_true rfl) wr_9_38 rfl ?_
        refine G_iconst 1 dr_cX14_word_65 (by decide +kernel) ?_
        refine G_iadd dr_cX14_word_66 (G_eqi (y := z672008) hz672008.symm ?_)
        refine Gp_put 2 hmq669860 he669887 dr_cX14_word_67 (gk_X14 D I) (Nat.le_of_ble_eq_true rfl) wr_9_38 rfl rfl rfl (Nat.le_of_ble_eq_true rfl) (fun F672025 e672026 n672027 => ?_)
        have he672028 : F672025 q669861 = .inl (I .byte, 8192, .inl f669875) := (n672027 q669861 (rn_ao he669886 he669887)).trans he669886
        have he672029 : F672025 q669860 = .inr (19, [.ref q669861, .int p669862, .int z672008, .int 6, .int p669865, .int p669866, .int p669867, .ref qo669868, .int p669869, .int p669870, .int p669871, .ref qo669872, .ref qo669873, .int p669874]) := e672026
        have hfr672030 : rFr [q669860] P669858 F669859 F672025 := rFr_put' List.mem_cons_self hfr669888 n672027
        have hlp70_672181 : ∀ (n70_672181 : Nat) (F672175 : Nat → va_E) (gl672173 : Int64) (g672174 : Int32), gB g672174 0 8192 → rFr [q669860] P669858 F669859 F672175 → F672175 q669860 = .inr (19, [.ref q669861, .int p669862, .int g672174, .int 6, .int p669865, .int p669866, .int p669867, .ref qo669868, .int p669869, .int p669870, .int p669871, .ref qo669872, .ref qo669873, .int p669874]) → F672175 q669861 = .inl (I .byte, 8192, .inl f669875) → LG gl672173 0 1000000 → p669863.toInt < g672174.toInt → g672174.toInt ≤ p669862.toInt → (∀ (k : Nat) (e1 : Int64) (e2 : Int32), tl_RReader_word_70 p669862 f669875 gl672173 g672174 k e1 e2 → tl_RReader_word_70 p669862 f669875 (0 : Int64) z672008 k e1 e2) → ((8193 : Int) - g672174.toInt).toNat < n70_672181 → G (gV D I) l (gRm 6 132 ((16 * (p669862.toInt - p669863.toInt)).toNat) ((160 * (p669862.toInt - p669863.toInt)).toNat)) (gMA (gV D I) (pp_669881_Reader_word D I P669858 F669859 q669860 q669861 p669862 p669863 p669864 p669865 p669866 p669867 qo669868 p669869 p669870 p669871 qo669872 qo669873 p669874 f669875) gNA ((16 * (p669862.toInt - p669863.toInt)).toNat) ((160 * (p669862.toInt - p669863.toInt)).toNat)) ky_669881_Reader_word 70 [(2, .long gl672173), (1, .int z669882), (0, .ref q669860)] [] (va_pl P669858 F672175) 0 0 := by
          intro n70_672181
          induction n70_672181 with
          | zero => intro F672175 gl672173 g672174 bg672174 hfr672178 he672176 he672177 x672179 x672180 x672181 kt70_672181 hm70_672181; exact absurd hm70_672181 (Nat.not_lt_zero _)
          | succ n70_672181 ih70_672181 =>
            intro F672175 gl672173 g672174 bg672174 hfr672178 he672176 he672177 x672179 x672180 x672181 kt70_672181 hm70_672181
            refine G_aload_n 2 dr_cX14_word_70 rfl ?_
            refine Gp_get 2 hmq669860 he672176 dr_cX14_word_71 (gk_X14 D I) (Nat.le_of_ble_eq_true rfl) wr_9_38 rfl ?_
            refine G_aload_n 2 dr_cX14_word_74 rfl ?_
            refine Gp_get 1 hmq669860 he672176 dr_cX14_word_75 (gk_X14 D I) (Nat.le_of_ble_eq_true rfl) wr_9_37 rfl ?_
            refine G_icmp_ge 136 dr_cX14_word_78 (by decide +kernel) (fun hc672182 => ?_) (fun hc672182 => ?_)
            · have r672183 : p669862.toInt ≤ g672174.toInt := gC_le hc672182
              have bg672174' : gB g672174 2 8192 := ⟨by omega, by omega⟩
              have hx672184 : tl_RReader_word_70 p669862 f669875 (0 : Int64) z672008 136 gl672173 g672174 := kt70_672181 136 gl672173 g672174 (fun R c1 c2 c3 => c1 gl672173 g672174 bg672174 r672183)
              clear he669886 he669887 hfr669888 jn669889 bz672008 bo672018' he672028 he672029 hfr672030; try clear r672016; try clear w672017; try clear dc672013; try clear ds672014; try clear hp672015; try clear x672019
              refine G_aload_n 2 dr_cX14_word_136 rfl ?_
              refine G_lload_n 0 dr_cX14_word_137 rfl ?_
              refine G_l2i dr_cX14_word_138 (G_nam fun z672185 hz672185 => ?_)
              have bz672185 : gB z672185 (-2147483648) 2147483647 := gB_any z672185
              refine Gp_put 5 hmq669860 he672176 dr_cX14_word_139 (gk_X14 D I) (Nat.le_of_ble_eq_true rfl) wr_9_41 rfl rfl rfl (Nat.le_of_ble_eq_true rfl) (fun F672186 e672187 n672188 => ?_)
              have he672189 : F672186 q669861 = .inl (I .byte, 8192, .inl f669875) := (n672188 q669861 (rn_ao he672177 he672176)).trans he672177
              have he672190 : F672186 q669860 = .inr (19, [.ref q669861, .int p669862, .int g672174, .int 6, .int p669865, .int z672185, .int p669867, .ref qo669868, .int p669869, .int p669870, .int p669871, .ref qo669872, .ref qo669873, .int p669874]) := e672187
              have hfr672191 : rFr [q669860] P669858 F669859 F672186 := rFr_put' List.mem_cons_self hfr672178 n672188
              refine G_lload_n 0 dr_cX14_word_142 rfl ?_
              refine G_iload_n 1 dr_cX14_word_143 rfl ?_
              refine G_bipush 118 dr_cX14_word_144 (by decide +kernel) ?_
              refine G_icmp_ne 155 dr_cX14_word_146 (by decide +kernel) (fun hc => absurd (show False by have := gj_neq hc (show Int32.toInt 118 = 118 by decide); omega) not_false) (fun _ => ?_)
              refine G_ldc2 99 dr_cX14_word_149 wr_7_233 ?_
              refine G_goto 158 dr_cX14_word_152 (by decide +kernel) ?_
              refine G_lcmp dr_cX14_word_158 (G_nam fun z672192 hz672192 => ?_)
              have bz672192 : gB z672192 (-1) 1 := gB_cmp hz672192
              refine G_if_gt 177 dr_cX14_word_159 (by decide +kernel) (fun hc672193 => ?_) (fun hc672193 => ?_)
              · have r672194 : 0 < z672192.toInt := gj_ltL hc672193 (show Int32.toInt 0 = 0 by decide)
                have bz672192' : gB z672192 1 1 := ⟨by omega, by omega⟩
                have lhc672193 := gC_cmpS hz672192 (by omega)
                exact G_vretA dr_cX14_word_177 rfl (show 0 ≤ ((16 * (p669862.toInt - p669863.toInt)).toNat) by omega) (show 0 ≤ ((160 * (p669862.toInt - p669863.toInt)).toNat) by omega) ⟨P669858, F672186, g672174, 6, z672185, qo669868, (0, fun _ => 0), rfl, rfl, (rSub_rf (P := P669858)), hfr672191, he672190, he672189, (by omega), (by omega), (gB_w bg672174' (by decide) (by decide)), (gB_w (gBl (show Int32.toInt 6 = 6 by decide)) (by decide) (by decide)), (by have qa0 : Int32.toInt 6 = 6 := (by decide); omega), (by have qa0 : Int32.toInt 6 = 6 := (by decide); omega), (tP_no (by decide) (by decide)), (vP_no (by decide) (by decide)), (fun R c1 c2 c3 c4 c5 c6 => c3 z669882 z672008 z672012 o672018 gl672173 g672174 z672185 z672192 hz669882 bz669882 r672007 ez672008 r672011 hz672012 bz672012 bo672018 ht672020 r672023 hx672184 hz672185 hz672192 r672194)⟩
              · have r672195 : z672192.toInt ≤ 0 := gj_nltL hc672193 (show Int32.toInt 0 = 0 by decide)
                have bz672192' : gB z672192 (-1) 0 := ⟨by omega, by omega⟩
                refine G_aload_n 2 dr_cX14_word_162 rfl ?_
                refine G_iload_n 1 dr_cX14_word_163 rfl ?_
                refine G_bipush 118 dr_cX14_word_164 (by decide +kernel) ?_
                refine G_icmp_ne 173 dr_cX14_word_166 (by decide +kernel) (fun hc => absurd (show False by have := gj_neq hc (show Int32.toInt 118 = 118 by decide); omega) not_false) (fun _ => ?_)
                refine G_iconst 2 dr_cX14_word_169 (by decide +kernel) ?_
                refine G_goto 174 dr_cX14_word_170 (by decide +kernel) ?_
                refine Gp_put 3 hmq669860 he672190 dr_cX14_word_174 (gk_X14 D I) (Nat.le_of_ble_eq_true rfl) wr_9_39 rfl rfl rfl (Nat.le_of_ble_eq_true rfl) (fun F672196 e672197 n672198 => ?_)
                have he672199 : F672196 q669861 = .inl (I .byte, 8192, .inl f669875) := (n672198 q669861 (rn_ao he672189 he672190)).trans he672189
                have he672200 : F672196 q669860 = .inr (19, [.ref q669861, .int p669862, .int g672174, .int 2, .int p669865, .int z672185, .int p669867, .ref qo669868, .int p669869, .int p669870, .int p669871, .ref qo669872, .ref qo669873, .int p669874]) := e672197
                have hfr672201 : rFr [q669860] P669858 F669859 F672196 := rFr_put' List.mem_cons_self hfr672191 n672198
                exact G_vretA dr_cX14_word_177 rfl (show 0 ≤ ((16 * (p669862.toInt - p669863.toInt)).toNat) by omega) (show 0 ≤ ((160 * (p669862.toInt - p669863.toInt)).toNat) by omega) ⟨P669858, F672196, g672174, 2, z672185, qo669868, (0, fun _ => 0), rfl, rfl, (rSub_rf (P := P669858)), hfr672201, he672200, he672199, (by omega), (by omega), (gB_w bg672174' (by decide) (by decide)), (gB_w (gBl (show Int32.toInt 2 = 2 by decide)) (by decide) (by decide)), (by have qa0 : Int32.toInt 2 = 2 := (by decide); omega), (by have qa0 : Int32.toInt 2 = 2 := (by decide); omega), (tP_no (by decide) (by decide)), (vP_r (by assumption) (by assumption) (by assumption) (by omega)), (fun R c1 c2 c3 c4 c5 c6 => c4 z669882 z672008 z672012 o672018 gl672173 g672174 z672185 z672192 hz669882 bz669882 r672007 ez672008 r672011 hz672012 bz672012 bo672018 ht672020 r672023 hx672184 hz672185 hz672192 r672195)⟩
            · have r672202 : g672174.toInt < p669862.toInt := gC_nle hc672182
              have bg672174' : gB g672174 0 8191 := ⟨by omega, by omega⟩
              refine G_aload_n 2 dr_cX14_word_81 rfl ?_
              refine Gp_get 0 hmq669860 he672176 dr_cX14_word_82 (gk_X14 D I) (Nat.le_of_ble_eq_true rfl) wr_9_36 rfl ?_
              refine G_aload_n 2 dr_cX14_word_85 rfl ?_
              refine Gp_get 2 hmq669860 he672176 dr_cX14_word_86 (gk_X14 D I) (Nat.le_of_ble_eq_true rfl) wr_9_38 rfl ?_
              refine Gp_bald 1 hmq669861 he672177 dr_cX14_word_89 rfl (gB_in bg672174' (by decide) (by decide)) (G_nam fun z672203 hz672203 => ?_)
              have bz672203 : gB z672203 (-128) 127 := by rw [hz672203]; exact bf669875 _
              refine Gw_callS (As := [.int z672203]) (gV_ok D I) (cp_668275_Reader_isDigit l hl0 D I P669858 F672175 z672203 ) dr_cX14_word_90 ⟨wr_7_219, wr_1_32, wr_7_221, by decide, rfl, (Nat.le_of_ble_eq_true rfl), (Nat.le_of_ble_eq_true rfl)⟩ wr_7_220 (show 0 + 0 ≤ ((16 * (p669862.toInt - p669863.toInt)).toNat) by first | omega | decide) (show 0 + 0 ≤ ((160 * (p669862.toInt - p669863.toInt)).toNat) by first | omega | decide) (Nat.le_of_ble_eq_true rfl) (fun r672207 w672208 dc672204 ds672205 hp672206 => ?_) (fun _ _ _ _ _ z => z.elim)
              obtain ⟨o672209, rfl, rfl, hdc, hds, bo672209, x672210, ht672211⟩ := hp672206
              change G _ _ _ _ _ _ _ (.int o672209 :: _) _ _ _
              refine G_widen (cs' := 0) (sl' := 0) (by omega) (by omega) ?_
              refine G_if_eq 136 dr_cX14_word_93 (by decide +kernel) (fun hc672212 => ?_) (fun hc672212 => ?_)
              · have r672213 : o672209.toInt = 0 := gj_eq hc672212 (show Int32.toInt 0 = 0 by decide)
                have bo672209' : gB o672209 0 0 := ⟨by omega, by omega⟩
                have hx672214 : tl_RReader_word_70 p669862 f669875 (0 : Int64) z672008 136 gl672173 g672174 := kt70_672181 136 gl672173 g672174 (fun R c1 c2 c3 => c2 gl672173 g672174 z672203 o672209 bg672174 r672202 hz672203 bz672203 bo672209 ht672211 r672213)
                clear he669886 he669887 hfr669888 jn669889 bz672008 bo672018' he672028 he672029 hfr672030 bo672209 ht672211 bo672209'; try clear r672016; try clear w672017; try clear dc672013; try clear ds672014; try clear hp672015; try clear x672019; try clear r672207; try clear w672208; try clear dc672204; try clear ds672205; try clear hp672206; try clear x672210; try clear r672213
                refine G_aload_n 2 dr_cX14_word_136 rfl ?_
                refine G_lload_n 0 dr_cX14_word_137 rfl ?_
                refine G_l2i dr_cX14_word_138 (G_nam fun z672215 hz672215 => ?_)
                have bz672215 : gB z672215 (-2147483648) 2147483647 := gB_any z672215
                refine Gp_put 5 hmq669860 he672176 dr_cX14_word_139 (gk_X14 D I) (Nat.le_of_ble_eq_true rfl) wr_9_41 rfl rfl rfl (Nat.le_of_ble_eq_true rfl) (fun F672216 e672217 n672218 => ?_)
                have he672219 : F672216 q669861 = .inl (I .byte, 8192, .inl f669875) := (n672218 q669861 (rn_ao he672177 he672176)).trans he672177
                have he672220 : F672216 q669860 = .inr (19, [.ref q669861, .int p669862, .int g672174, .int 6, .int p669865, .int z672215, .int p669867, .ref qo669868, .int p669869, .int p669870, .int p669871, .ref qo669872, .ref qo669873, .int p669874]) := e672217
                have hfr672221 : rFr [q669860] P669858 F669859 F672216 := rFr_put' List.mem_cons_self hfr672178 n672218
                refine G_lload_n 0 dr_cX14_word_142 rfl ?_
                refine G_iload_n 1 dr_cX14_word_143 rfl ?_
                refine G_bipush 118 dr_cX14_word_144 (by decide +kernel) ?_
                refine G_icmp_ne 155 dr_cX14_word_146 (by decide +kernel) (fun hc => absurd (show False by have := gj_neq hc (show Int32.toInt 118 = 118 by decide); omega) not_false) (fun _ => ?_)
                refine G_ldc2 99 dr_cX14_word_149 wr_7_233 ?_
                refine G_goto 158 dr_cX14_word_152 (by decide +kernel) ?_
                refine G_lcmp dr_cX14_word_158 (G_nam fun z672222 hz672222 => ?_)
                have bz672222 : gB z672222 (-1) 1 := gB_cmp hz672222
                refine G_if_gt 177 dr_cX14_word_159 (by decide +kernel) (fun hc672223 => ?_) (fun hc672223 => ?_)
                · have r672224 : 0 < z672222.toInt := gj_ltL hc672223 (show Int32.toInt 0 = 0 by decide)
                  have bz672222' : gB z672222 1 1 := ⟨by omega, by omega⟩
                  have lhc672223 := gC_cmpS hz672222 (by omega)
                  exact G_vretA dr_cX14_word_177 rfl (show 0 ≤ ((16 * (p669862.toInt - p669863.toInt)).toNat) by omega) (show 0 ≤ ((160 * (p669862.toInt - p669863.toInt)).toNat) by omega) ⟨P669858, F672216, g672174, 6, z672215, qo669868, (0, fun _ => 0), rfl, rfl, (rSub_rf (P := P669858)), hfr672221, he672220, he672219, (by omega), (by omega), (gB_w bg672174' (by decide) (by decide)), (gB_w (gBl (show Int32.toInt 6 = 6 by decide)) (by decide) (by decide)), (by have qa0 : Int32.toInt 6 = 6 := (by decide); omega), (by have qa0 : Int32.toInt 6 = 6 := (by decide); omega), (tP_no (by decide) (by decide)), (vP_no (by decide) (by decide)), (fun R c1 c2 c3 c4 c5 c6 => c3 z669882 z672008 z672012 o672018 gl672173 g672174 z672215 z672222 hz669882 bz669882 r672007 ez672008 r672011 hz672012 bz672012 bo672018 ht672020 r672023 hx672214 hz672215 hz672222 r672224)⟩
                · have r672225 : z672222.toInt ≤ 0 := gj_nltL hc672223 (show Int32.toInt 0 = 0 by decide)
                  have bz672222' : gB z672222 (-1) 0 := ⟨by omega, by omega⟩
                  refine G_aload_n 2 dr_cX14_word_162 rfl ?_
                  refine G_iload_n 1 dr_cX14_word_163 rfl ?_
                  refine G_bipush 118 dr_cX14_word_164 (by decide +kernel) ?_
                  refine G_icmp_ne 173 dr_cX14_word_166 (by decide +kernel) (fun hc => absurd (show False by have := gj_neq hc (show Int32.toInt 118 = 118 by decide); omega) not_false) (fun _ => ?_)
                  refine G_iconst 2 dr_cX14_word_169 (by decide +kernel) ?_
                  refine G_goto 174 dr_cX14_word_170 (by decide +kernel) ?_
                  refine Gp_put 3 hmq669860 he672220 dr_cX14_word_174 (gk_X14 D I) (Nat.le_of_ble_eq_true rfl) wr_9_39 rfl rfl rfl (Nat.le_of_ble_eq_true rfl) (fun F672226 e672227 n672228 => ?_)
                  have he672229 : F672226 q669861 = .inl (I .byte, 8192, .inl f669875) := (n672228 q669861 (rn_ao he672219 he672220)).trans he672219
                  have he672230 : F672226 q669860 = .inr (19, [.ref q669861, .int p669862, .int g672174, .int 2, .int p669865, .int z672215, .int p669867, .ref qo669868, .int p669869, .int p669870, .int p669871, .ref qo669872, .ref qo669873, .int p669874]) := e672227
                  have hfr672231 : rFr [q669860] P669858 F669859 F672226 := rFr_put' List.mem_cons_self hfr672221 n672228
                  exact G_vretA dr_cX14_word_177 rfl (show 0 ≤ ((16 * (p669862.toInt - p669863.toInt)).toNat) by omega) (show 0 ≤ ((160 * (p669862.toInt - p669863.toInt)).toNat) by omega) ⟨P669858, F672226, g672174, 2, z672215, qo669868, (0, fun _ => 0), rfl, rfl, (rSub_rf (P := P669858)), hfr672231, he672230, he672229, (by omega), (by omega), (gB_w bg672174' (by decide) (by decide)), (gB_w (gBl (show Int32.toInt 2 = 2 by decide)) (by decide) (by decide)), (by have qa0 : Int32.toInt 2 = 2 := (by decide); omega), (by have qa0 : Int32.toInt 2 = 2 := (by decide); omega), (tP_no (by decide) (by decide)), (vP_r (by assumption) (by assumption) (by assumption) (by omega)), (fun R c1 c2 c3 c4 c5 c6 => c4 z669882 z672008 z672012 o672018 gl672173 g672174 z672215 z672222 hz669882 bz669882 r672007 ez672008 r672011 hz672012 bz672012 bo672018 ht672020 r672023 hx672214 hz672215 hz672222 r672225)⟩
              · have r672232 : o672209.toInt ≠ 0 := gj_neq hc672212 (show Int32.toInt 0 = 0 by decide)
                have bo672209' : gB o672209 1 1 := ⟨by omega, by omega⟩
                have bi672233 : gB z672203 48 57 := isP_1 x672210 (by omega)
                refine G_lload_n 0 dr_cX14_word_96 rfl ?_
                refine G_ldc2 10 dr_cX14_word_97 wr_7_229 ?_
                refine G_lmul dr_cX14_word_100 (G_namL fun u672234 hu672234 => ?_)
                refine G_aload_n 2 dr_cX14_word_101 rfl ?_
                refine Gp_get 0 hmq669860 he672176 dr_cX14_word_102 (gk_X14 D I) (Nat.le_of_ble_eq_true rfl) wr_9_36 rfl ?_
                refine G_aload_n 2 dr_cX14_word_105 rfl ?_
                refine Gp_get 2 hmq669860 he672176 dr_cX14_word_106 (gk_X14 D I) (Nat.le_of_ble_eq_true rfl) wr_9_38 rfl ?_
                refine Gp_bald 1 hmq669861 he672177 dr_cX14_word_109 rfl (gB_in bg672174' (by decide) (by decide)) (G_eqi (y := z672203) hz672203.symm ?_)
                refine G_i2l dr_cX14_word_110 (G_namL fun u672235 hu672235 => ?_)
                refine G_ladd dr_cX14_word_111 (G_namL fun u672236 hu672236 => ?_)
                refine G_ldc2 48 dr_cX14_word_112 wr_7_230 ?_
                refine G_lsub dr_cX14_word_115 (G_namL fun u672237 hu672237 => ?_)
                refine G_ldc2 1000000 dr_cX14_word_116 wr_7_231 ?_
                refine Gw_callS (As := [.long u672237, .long 1000000]) (gV_ok D I) (cp_668329_Math_min l hl0 D I P669858 F672175 u672237 1000000 ) dr_cX14_word_119 ⟨wr_7_232, wr_1_6, wr_3_40, by decide, rfl, (Nat.le_of_ble_eq_true rfl), (Nat.le_of_ble_eq_true rfl)⟩ wr_3_39 (show 0 + 0 ≤ ((16 * (p669862.toInt - p669863.toInt)).toNat) by first | omega | decide) (show 0 + 0 ≤ ((160 * (p669862.toInt - p669863.toInt)).toNat) by first | omega | decide) (Nat.le_of_ble_eq_true rfl) (fun r672241 w672242 dc672238 ds672239 hp672240 => ?_) (fun _ _ _ _ _ z => z.elim)
                obtain ⟨ol672243, rfl, rfl, hdc, hds, x672244, ht672245⟩ := hp672240
                change G _ _ _ _ _ _ _ (.long ol672243 :: _) _ _ _
                refine G_widen (cs' := 0) (sl' := 0) (by omega) (by omega) ?_
                refine G_lstore_n (L' := [(2, .long ol672243), (1, .int z669882), (0, .ref q669860)]) dr_cX14_word_122 (Nat.le_of_ble_eq_true rfl) rfl ?_
                refine G_aload_n 2 dr_cX14_word_123 rfl ?_
                refine G_dup dr_cX14_word_124 rfl ?_
                refine Gp_get 2 hmq669860 he672176 dr_cX14_word_125 (gk_X14 D I) (Nat.le_of_ble_eq_true rfl) wr_9_38 rfl ?_
                refine G_iconst 1 dr_cX14_word_128 (by decide +kernel) ?_
                refine G_iadd dr_cX14_word_129 (G_nam fun z672246 hz672246 => ?_)
                have ez672246 : z672246.toInt = g672174.toInt + 1 := by rw [gI_add hz672246 bg672174' (gBl (show Int32.toInt 1 = 1 by decide)) (by decide) (by decide), show Int32.toInt 1 = 1 from by decide]
                have bz672246 : gB z672246 1 8192 := gB_add (gI_add hz672246 bg672174' (gBl (show Int32.toInt 1 = 1 by decide)) (by decide) (by decide)) bg672174' (gBl (show Int32.toInt 1 = 1 by decide)) (by decide) (by decide)
                refine Gp_put 2 hmq669860 he672176 dr_cX14_word_130 (gk_X14 D I) (Nat.le_of_ble_eq_true rfl) wr_9_38 rfl rfl rfl (Nat.le_of_ble_eq_true rfl) (fun F672247 e672248 n672249 => ?_)
                have he672250 : F672247 q669861 = .inl (I .byte, 8192, .inl f669875) := (n672249 q669861 (rn_ao he672177 he672176)).trans he672177
                have he672251 : F672247 q669860 = .inr (19, [.ref q669861, .int p669862, .int z672246, .int 6, .int p669865, .int p669866, .int p669867, .ref qo669868, .int p669869, .int p669870, .int p669871, .ref qo669872, .ref qo669873, .int p669874]) := e672248
                have hfr672252 : rFr [q669860] P669858 F669859 F672247 := rFr_put' List.mem_cons_self hfr672178 n672249
                refine G_goto 70 dr_cX14_word_133 (by decide +kernel) ?_
                exact ih70_672181 F672247 ol672243 z672246 (gB_w bz672246 (by decide) (by decide)) hfr672252 he672251 he672250 (lgSt (by assumption) (by assumption) (by assumption) (by assumption) (by assumption) (by assumption) (by omega) (by omega)) (by have qa0 : Int32.toInt 6 = 6 := (by decide); omega) (by have qa0 : Int32.toInt 6 = 6 := (by decide); omega) (fun k e1 e2 ht => kt70_672181 k e1 e2 (fun R c1 c2 c3 => c3 gl672173 g672174 z672203 o672209 u672234 u672235 u672236 u672237 ol672243 z672246 k e1 e2 bg672174 r672202 hz672203 bz672203 bo672209 ht672211 r672232 hu672234 hu672235 hu672236 hu672237 ht672245 ez672246 (ht R c1 c2 c3))) (by have qa0 : Int32.toInt 6 = 6 := (by decide); omega)
        exact hlp70_672181 (((8193 : Int) - z672008.toInt).toNat + 1) F672025 0 z672008 (gB_w bz672008' (by decide) (by decide)) hfr672030 he672029 he672028 LG_0 (by have qa0 : Int32.toInt 6 = 6 := (by decide); omega) (by have qa0 : Int32.toInt 6 = 6 := (by decide); omega) (fun k e1 e2 ht => ht) (Nat.lt_succ_self _)
  · have r672253 : z669882.toInt ≠ 118 := gj_neq hc672006 (show Int32.toInt 118 = 118 by decide)
    refine G_iload_n 0 dr_cX14_word_22 rfl ?_
    refine G_bipush 98 dr_cX14_word_23 (by decide +kernel) ?_
    refine G_icmp_ne 178 dr_cX14_word_25 (by decide +kernel) (fun hc672254 => ?_) (fun hc672254 => ?_)
    · have r672255 : z669882.toInt ≠ 98 := gj_neq hc672254 (show Int32.toInt 98 = 98 by decide)
      refine G_lv (L' := [(1, .int z669882), (0, .ref q669860)]) [0, 1] rfl ?_
      exact jn669889 (Or.inr (Or.inr (Or.inl ⟨r672253, r672255⟩)))
    · have r672256 : z669882.toInt = 98 := gj_eq hc672254 (show Int32.toInt 98 = 98 by decide)
      have bz669882' : gB z669882 98 98 := ⟨by omega, by omega⟩
      refine G_aload_n 1 dr_cX14_word_28 rfl ?_
      refine Gp_get 2 hmq669860 he669887 dr_cX14_word_29 (gk_X14 D I) (Nat.le_of_ble_eq_true rfl) wr_9_38 rfl ?_
      refine G_iconst 1 dr_cX14_word_32 (by decide +kernel) ?_
      refine G_iadd dr_cX14_word_33 (G_nam fun z672257 hz672257 => ?_)
      have ez672257 : z672257.toInt = p669863.toInt + 1 := by rw [gI_add hz672257 bp669863 (gBl (show Int32.toInt 1 = 1 by decide)) (by decide) (by decide), show Int32.toInt 1 = 1 from by decide]
      have bz672257 : gB z672257 1 8193 := gB_add (gI_add hz672257 bp669863 (gBl (show Int32.toInt 1 = 1 by decide)) (by decide) (by decide)) bp669863 (gBl (show Int32.toInt 1 = 1 by decide)) (by decide) (by decide)
      refine G_aload_n 1 dr_cX14_word_34 rfl ?_
      refine Gp_get 1 hmq669860 he669887 dr_cX14_word_35 (gk_X14 D I) (Nat.le_of_ble_eq_true rfl) wr_9_37 rfl ?_
      refine G_icmp_ge 178 dr_cX14_word_38 (by decide +kernel) (fun hc672258 => ?_) (fun hc672258 => ?_)
      · have r672259 : p669862.toInt ≤ z672257.toInt := gC_le hc672258
        refine G_lv (L' := [(1, .int z669882), (0, .ref q669860)]) [0, 1] rfl ?_
        exact jn669889 (Or.inr (Or.inr (Or.inr (Or.inl ⟨z672257, r672253, r672256, ez672257, r672259⟩))))
      · have r672260 : z672257.toInt < p669862.toInt := gC_nle hc672258
        have bz672257' : gB z672257 1 8191 := ⟨by omega, by omega⟩
        have bp669862' : gB p669862 2 8192 := ⟨by omega, by omega⟩
        refine G_aload_n 1 dr_cX14_word_41 rfl ?_
        refine Gp_get 0 hmq669860 he669887 dr_cX14_word_42 (gk_X14 D I) (Nat.le_of_ble_eq_true rfl) wr_9_36 rfl ?_
        refine G_aload_n 1 dr_cX14_word_45 rfl ?_
        refine Gp_get 2 hmq669860 he669887 dr_cX14_word_46 (gk_X14 D I) (Nat.le_of_ble_eq_true rfl) wr_9_38 rfl ?_
        refine G_iconst 1 dr_cX14_word_49 (by decide +kernel) ?_
        refine G_iadd dr_cX14_word_50 (G_eqi (y := z672257) hz672257.symm ?_)
        refine Gp_bald 1 hmq669861 he669886 dr_cX14_word_51 rfl (gB_in bz672257' (by decide) (by decide)) (G_nam fun z672261 hz672261 => ?_)
        have bz672261 : gB z672261 (-128) 127 := by rw [hz672261]; exact bf669875 _
        refine Gw_callS (As := [.int z672261]) (gV_ok D I) (cp_668275_Reader_isDigit l hl0 D I P669858 F669883 z672261 ) dr_cX14_word_52 ⟨wr_7_219, wr_1_32, wr_7_221, by decide, rfl, (Nat.le_of_ble_eq_true rfl), (Nat.le_of_ble_eq_true rfl)⟩ wr_7_220 (show 0 + 0 ≤ ((16 * (p669862.toInt - p669863.toInt)).toNat) by first | omega | decide) (show 0 + 0 ≤ ((160 * (p669862.toInt - p669863.toInt)).toNat) by first | omega | decide) (Nat.le_of_ble_eq_true rfl) (fun r672265 w672266 dc672262 ds672263 hp672264 => ?_) (fun _ _ _ _ _ z => z.elim)
        obtain ⟨o672267, rfl, rfl, hdc, hds, bo672267, x672268, ht672269⟩ := hp672264
        change G _ _ _ _ _ _ _ (.int o672267 :: _) _ _ _
        refine G_widen (cs' := 0) (sl' := 0) (by omega) (by omega) ?_
        refine G_if_eq 178 dr_cX14_word_55 (by decide +kernel) (fun hc672270 => ?_) (fun hc672270 => ?_)
        · have r672271 : o672267.toInt = 0 := gj_eq hc672270 (show Int32.toInt 0 = 0 by decide)
          have bo672267' : gB o672267 0 0 := ⟨by omega, by omega⟩
          refine G_lv (L' := [(1, .int z669882), (0, .ref q669860)]) [0, 1] rfl ?_
          exact jn669889 (Or.inr (Or.inr (Or.inr (Or.inr (⟨z672257, z672261, o672267, r672253, r672256, ez672257, r672260, hz672261, bz672261, bo672267, ht672269, r672271⟩)))))
        · have r672272 : o672267.toInt ≠ 0 := gj_neq hc672270 (show Int32.toInt 0 = 0 by decide)
          have bo672267' : gB o672267 1 1 := ⟨by omega, by omega⟩
          have bi672273 : gB z672261 48 57 := isP_1 x672268 (by omega)
          refine G_lconst 0 dr_cX14_word_58 rfl ?_
          refine G_lstore_n (L' := [(2, .long 0), (1, .int z669882), (0, .ref q669860)]) dr_cX14_word_59 (Nat.le_of_ble_eq_true rfl) rfl ?_
          refine G_aload_n 2 dr_cX14_word_60 rfl ?_
          refine G_dup dr_cX14_word_61 rfl ?_
          refine Gp_get 2 hmq669860 he669887 dr_cX14_word_62 (gk_X14 D I) (Nat.le_of_ble_eq_true rfl) wr_9_38 rfl ?_
          refine G_iconst 1 dr_cX14_word_65 (by decide +kernel) ?_
          refine G_iadd dr_cX14_word_66 (G_eqi (y := z672257) hz672257.symm ?_)
          refine Gp_put 2 hmq669860 he669887 dr_cX14_word_67 (gk_X14 D I) (Nat.le_of_ble_eq_true rfl) wr_9_38 rfl rfl rfl (Nat.le_of_ble_eq_true rfl) (fun F672274 e672275 n672276 => ?_)
          have he672277 : F672274 q669861 = .inl (I .byte, 8192, .inl f669875) := (n672276 q669861 (rn_ao he669886 he669887)).trans he669886
          have he672278 : F672274 q669860 = .inr (19, [.ref q669861, .int p669862, .int z672257, .int 6, .int p669865, .int p669866, .int p669867, .ref qo669868, .int p669869, .int p669870, .int p669871, .ref qo669872, .ref qo669873, .int p669874]) := e672275
          have hfr672279 : rFr [q669860] P669858 F669859 F672274 := rFr_put' List.mem_cons_self hfr669888 n672276
          have hlp70_672430 : ∀ (n70_672430 : Nat) (F672424 : Nat → va_E) (gl672422 : Int64) (g672423 : Int32), gB g672423 0 8192 → rFr [q669860] P669858 F669859 F672424 → F672424 q669860 = .inr (19, [.ref q669861, .int p669862, .int g672423, .int 6, .int p669865, .int p669866, .int p669867, .ref qo669868, .int p669869, .int p669870, .int p669871, .ref qo669872, .ref qo669873, .int p669874]) → F672424 q669861 = .inl (I .byte, 8192, .inl f669875) → LG gl672422 0 1000000 → p669863.toInt < g672423.toInt → g672423.toInt ≤ p669862.toInt → (∀ (k : Nat) (e1 : Int64) (e2 : Int32), tl_RReader_word_70_2 p669862 f669875 gl672422 g672423 k e1 e2 → tl_RReader_word_70_2 p669862 f669875 (0 : Int64) z672257 k e1 e2) → ((8193 : Int) - g672423.toInt).toNat < n70_672430 → G (gV D I) l (gRm 6 132 ((16 * (p669862.toInt - p669863.toInt)).toNat) ((160 * (p669862.toInt - p669863.toInt)).toNat)) (gMA (gV D I) (pp_669881_Reader_word D I P669858 F669859 q669860 q669861 p669862 p669863 p669864 p669865 p669866 p669867 qo669868 p669869 p669870 p669871 qo669872 qo669873 p669874 f669875) gNA ((16 * (p669862.toInt - p669863.toInt)).toNat) ((160 * (p669862.toInt - p669863.toInt)).toNat)) ky_669881_Reader_word 70 [(2, .long gl672422), (1, .int z669882), (0, .ref q669860)] [] (va_pl P669858 F672424) 0 0 := by
            intro n70_672430
            induction n70_672430 with
            | zero => intro F672424 gl672422 g672423 bg672423 hfr672427 he672425 he672426 x672428 x672429 x672430 kt70_672430 hm70_672430; exact absurd hm70_672430 (Nat.not_lt_zero _)
            | succ n70_672430 ih70_672430 =>
              intro F672424 gl672422 g672423 bg672423 hfr672427 he672425 he672426 x672428 x672429 x672430 kt70_672430 hm70_672430
              refine G_aload_n 2 dr_cX14_word_70 rfl ?_
              refine Gp_get 2 hmq669860 he672425 dr_cX14_word_71 (gk_X14 D I) (Nat.le_of_ble_eq_true rfl) wr_9_38 rfl ?_
              refine G_aload_n 2 dr_cX14_word_74 rfl ?_
              refine Gp_get 1 hmq669860 he672425 dr_cX14_word_75 (gk_X14 D I) (Nat.le_of_ble_eq_true rfl) wr_9_37 rfl ?_
              refine G_icmp_ge 136 dr_cX14_word_78 (by decide +kernel) (fun hc672431 => ?_) (fun hc672431 => ?_)
              · have r672432 : p669862.toInt ≤ g672423.toInt := gC_le hc672431
                have bg672423' : gB g672423 2 8192 := ⟨by omega, by omega⟩
                have hx672433 : tl_RReader_word_70_2 p669862 f669875 (0 : Int64) z672257 136 gl672422 g672423 := kt70_672430 136 gl672422 g672423 (fun R c1 c2 c3 => c1 gl672422 g672423 bg672423 r672432)
                clear he669886 he669887 hfr669888 jn669889 bz672257 bo672267' he672277 he672278 hfr672279; try clear r672265; try clear w672266; try clear dc672262; try clear ds672263; try clear hp672264; try clear x672268
                refine G_aload_n 2 dr_cX14_word_136 rfl ?_
                refine G_lload_n 0 dr_cX14_word_137 rfl ?_
                refine G_l2i dr_cX14_word_138 (G_nam fun z672434 hz672434 => ?_)
                have bz672434 : gB z672434 (-2147483648) 2147483647 := gB_any z672434
                refine Gp_put 5 hmq669860 he672425 dr_cX14_word_139 (gk_X14 D I) (Nat.le_of_ble_eq_true rfl) wr_9_41 rfl rfl rfl (Nat.le_of_ble_eq_true rfl) (fun F672435 e672436 n672437 => ?_)
                have he672438 : F672435 q669861 = .inl (I .byte, 8192, .inl f669875) := (n672437 q669861 (rn_ao he672426 he672425)).trans he672426
                have he672439 : F672435 q669860 = .inr (19, [.ref q669861, .int p669862, .int g672423, .int 6, .int p669865, .int z672434, .int p669867, .ref qo669868, .int p669869, .int p669870, .int p669871, .ref qo669872, .ref qo669873, .int p669874]) := e672436
                have hfr672440 : rFr [q669860] P669858 F669859 F672435 := rFr_put' List.mem_cons_self hfr672427 n672437
                refine G_lload_n 0 dr_cX14_word_142 rfl ?_
                refine G_iload_n 1 dr_cX14_word_143 rfl ?_
                refine G_bipush 118 dr_cX14_word_144 (by decide +kernel) ?_
                refine G_icmp_ne 155 dr_cX14_word_146 (by decide +kernel) (fun _ => ?_) (fun hc => absurd (show False by have := gj_eq hc (show Int32.toInt 118 = 118 by decide); omega) not_false)
                refine G_ldc2 39 dr_cX14_word_155 wr_7_234 ?_
                refine G_lcmp dr_cX14_word_158 (G_nam fun z672441 hz672441 => ?_)
                have bz672441 : gB z672441 (-1) 1 := gB_cmp hz672441
                refine G_if_gt 177 dr_cX14_word_159 (by decide +kernel) (fun hc672442 => ?_) (fun hc672442 => ?_)
                · have r672443 : 0 < z672441.toInt := gj_ltL hc672442 (show Int32.toInt 0 = 0 by decide)
                  have bz672441' : gB z672441 1 1 := ⟨by omega, by omega⟩
                  have lhc672442 := gC_cmpS hz672441 (by omega)
                  exact G_vretA dr_cX14_word_177 rfl (show 0 ≤ ((16 * (p669862.toInt - p669863.toInt)).toNat) by omega) (show 0 ≤ ((160 * (p669862.toInt - p669863.toInt)).toNat) by omega) ⟨P669858, F672435, g672423, 6, z672434, qo669868, (0, fun _ => 0), rfl, rfl, (rSub_rf (P := P669858)), hfr672440, he672439, he672438, (by omega), (by omega), (gB_w bg672423' (by decide) (by decide)), (gB_w (gBl (show Int32.toInt 6 = 6 by decide)) (by decide) (by decide)), (by have qa0 : Int32.toInt 6 = 6 := (by decide); omega), (by have qa0 : Int32.toInt 6 = 6 := (by decide); omega), (tP_no (by decide) (by decide)), (vP_no (by decide) (by decide)), (fun R c1 c2 c3 c4 c5 c6 => c5 z669882 z672257 z672261 o672267 gl672422 g672423 z672434 z672441 hz669882 bz669882 r672253 r672256 ez672257 r672260 hz672261 bz672261 bo672267 ht672269 r672272 hx672433 hz672434 hz672441 r672443)⟩
                · have r672444 : z672441.toInt ≤ 0 := gj_nltL hc672442 (show Int32.toInt 0 = 0 by decide)
                  have bz672441' : gB z672441 (-1) 0 := ⟨by omega, by omega⟩
                  refine G_aload_n 2 dr_cX14_word_162 rfl ?_
                  refine G_iload_n 1 dr_cX14_word_163 rfl ?_
                  refine G_bipush 118 dr_cX14_word_164 (by decide +kernel) ?_
                  refine G_icmp_ne 173 dr_cX14_word_166 (by decide +kernel) (fun _ => ?_) (fun hc => absurd (show False by have := gj_eq hc (show Int32.toInt 118 = 118 by decide); omega) not_false)
                  refine G_iconst 3 dr_cX14_word_173 (by decide +kernel) ?_
                  refine Gp_put 3 hmq669860 he672439 dr_cX14_word_174 (gk_X14 D I) (Nat.le_of_ble_eq_true rfl) wr_9_39 rfl rfl rfl (Nat.le_of_ble_eq_true rfl) (fun F672445 e672446 n672447 => ?_)
                  have he672448 : F672445 q669861 = .inl (I .byte, 8192, .inl f669875) := (n672447 q669861 (rn_ao he672438 he672439)).trans he672438
                  have he672449 : F672445 q669860 = .inr (19, [.ref q669861, .int p669862, .int g672423, .int 3, .int p669865, .int z672434, .int p669867, .ref qo669868, .int p669869, .int p669870, .int p669871, .ref qo669872, .ref qo669873, .int p669874]) := e672446
                  have hfr672450 : rFr [q669860] P669858 F669859 F672445 := rFr_put' List.mem_cons_self hfr672440 n672447
                  exact G_vretA dr_cX14_word_177 rfl (show 0 ≤ ((16 * (p669862.toInt - p669863.toInt)).toNat) by omega) (show 0 ≤ ((160 * (p669862.toInt - p669863.toInt)).toNat) by omega) ⟨P669858, F672445, g672423, 3, z672434, qo669868, (0, fun _ => 0), rfl, rfl, (rSub_rf (P := P669858)), hfr672450, he672449, he672448, (by omega), (by omega), (gB_w bg672423' (by decide) (by decide)), (gB_w (gBl (show Int32.toInt 3 = 3 by decide)) (by decide) (by decide)), (by have qa0 : Int32.toInt 3 = 3 := (by decide); omega), (by have qa0 : Int32.toInt 3 = 3 := (by decide); omega), (tP_no (by decide) (by decide)), (vP_b (by assumption) (by assumption) (by assumption) (by omega)), (fun R c1 c2 c3 c4 c5 c6 => c6 z669882 z672257 z672261 o672267 gl672422 g672423 z672434 z672441 hz669882 bz669882 r672253 r672256 ez672257 r672260 hz672261 bz672261 bo672267 ht672269 r672272 hx672433 hz672434 hz672441 r672444)⟩
              · have r672451 : g672423.toInt < p669862.toInt := gC_nle hc672431
                have bg672423' : gB g672423 0 8191 := ⟨by omega, by omega⟩
                refine G_aload_n 2 dr_cX14_word_81 rfl ?_
                refine Gp_get 0 hmq669860 he672425 dr_cX14_word_82 (gk_X14 D I) (Nat.le_of_ble_eq_true rfl) wr_9_36 rfl ?_
                refine G_aload_n 2 dr_cX14_word_85 rfl ?_
                refine Gp_get 2 hmq669860 he672425 dr_cX14_word_86 (gk_X14 D I) (Nat.le_of_ble_eq_true rfl) wr_9_38 rfl ?_
                refine Gp_bald 1 hmq669861 he672426 dr_cX14_word_89 rfl (gB_in bg672423' (by decide) (by decide)) (G_nam fun z672452 hz672452 => ?_)
                have bz672452 : gB z672452 (-128) 127 := by rw [hz672452]; exact bf669875 _
                refine Gw_callS (As := [.int z672452]) (gV_ok D I) (cp_668275_Reader_isDigit l hl0 D I P669858 F672424 z672452 ) dr_cX14_word_90 ⟨wr_7_219, wr_1_32, wr_7_221, by decide, rfl, (Nat.le_of_ble_eq_true rfl), (Nat.le_of_ble_eq_true rfl)⟩ wr_7_220 (show 0 + 0 ≤ ((16 * (p669862.toInt - p669863.toInt)).toNat) by first | omega | decide) (show 0 + 0 ≤ ((160 * (p669862.toInt - p669863.toInt)).toNat) by first | omega | decide) (Nat.le_of_ble_eq_true rfl) (fun r672456 w672457 dc672453 ds672454 hp672455 => ?_) (fun _ _ _ _ _ z => z.elim)
                obtain ⟨o672458, rfl, rfl, hdc, hds, bo672458, x672459, ht672460⟩ := hp672455
                change G _ _ _ _ _ _ _ (.int o672458 :: _) _ _ _
                refine G_widen (cs' := 0) (sl' := 0) (by omega) (by omega) ?_
                refine G_if_eq 136 dr_cX14_word_93 (by decide +kernel) (fun hc672461 => ?_) (fun hc672461 => ?_)
                · have r672462 : o672458.toInt = 0 := gj_eq hc672461 (show Int32.toInt 0 = 0 by decide)
                  have bo672458' : gB o672458 0 0 := ⟨by omega, by omega⟩
                  have hx672463 : tl_RReader_word_70_2 p669862 f669875 (0 : Int64) z672257 136 gl672422 g672423 := kt70_672430 136 gl672422 g672423 (fun R c1 c2 c3 => c2 gl672422 g672423 z672452 o672458 bg672423 r672451 hz672452 bz672452 bo672458 ht672460 r672462)
                  clear he669886 he669887 hfr669888 jn669889 bz672257 bo672267' he672277 he672278 hfr672279 bo672458 ht672460 bo672458'; try clear r672265; try clear w672266; try clear dc672262; try clear ds672263; try clear hp672264; try clear x672268; try clear r672456; try clear w672457; try clear dc672453; try clear ds672454; try clear hp672455; try clear x672459; try clear r672462
                  refine G_aload_n 2 dr_cX14_word_136 rfl ?_
                  refine G_lload_n 0 dr_cX14_word_137 rfl ?_
                  refine G_l2i dr_cX14_word_138 (G_nam fun z672464 hz672464 => ?_)
                  have bz672464 : gB z672464 (-2147483648) 2147483647 := gB_any z672464
                  refine Gp_put 5 hmq669860 he672425 dr_cX14_word_139 (gk_X14 D I) (Nat.le_of_ble_eq_true rfl) wr_9_41 rfl rfl rfl (Nat.le_of_ble_eq_true rfl) (fun F672465 e672466 n672467 => ?_)
                  have he672468 : F672465 q669861 = .inl (I .byte, 8192, .inl f669875) := (n672467 q669861 (rn_ao he672426 he672425)).trans he672426
                  have he672469 : F672465 q669860 = .inr (19, [.ref q669861, .int p669862, .int g672423, .int 6, .int p669865, .int z672464, .int p669867, .ref qo669868, .int p669869, .int p669870, .int p669871, .ref qo669872, .ref qo669873, .int p669874]) := e672466
                  have hfr672470 : rFr [q669860] P669858 F669859 F672465 := rFr_put' List.mem_cons_self hfr672427 n672467
                  refine G_lload_n 0 dr_cX14_word_142 rfl ?_
                  refine G_iload_n 1 dr_cX14_word_143 rfl ?_
                  refine G_bipush 118 dr_cX14_word_144 (by decide +kernel) ?_
                  refine G_icmp_ne 155 dr_cX14_word_146 (by decide +kernel) (fun _ => ?_) (fun hc => absurd (show False by have := gj_eq hc (show Int32.toInt 118 = 118 by decide); omega) not_false)
                  refine G_ldc2 39 dr_cX14_word_155 wr_7_234 ?_
                  refine G_lcmp dr_cX14_word_158 (G_nam fun z672471 hz672471 => ?_)
                  have bz672471 : gB z672471 (-1) 1 := gB_cmp hz672471
                  refine G_if_gt 177 dr_cX14_word_159 (by decide +kernel) (fun hc672472 => ?_) (fun hc672472 => ?_)
                  · have r672473 : 0 < z672471.toInt := gj_ltL hc672472 (show Int32.toInt 0 = 0 by decide)
                    have bz672471' : gB z672471 1 1 := ⟨by omega, by omega⟩
                    have lhc672472 := gC_cmpS hz672471 (by omega)
                    exact G_vretA dr_cX14_word_177 rfl (show 0 ≤ ((16 * (p669862.toInt - p669863.toInt)).toNat) by omega) (show 0 ≤ ((160 * (p669862.toInt - p669863.toInt)).toNat) by omega) ⟨P669858, F672465, g672423, 6, z672464, qo669868, (0, fun _ => 0), rfl, rfl, (rSub_rf (P := P669858)), hfr672470, he672469, he672468, (by omega), (by omega), (gB_w bg672423' (by decide) (by decide)), (gB_w (gBl (show Int32.toInt 6 = 6 by decide)) (by decide) (by decide)), (by have qa0 : Int32.toInt 6 = 6 := (by decide); omega), (by have qa0 : Int32.toInt 6 = 6 := (by decide); omega), (tP_no (by decide) (by decide)), (vP_no (by decide) (by decide)), (fun R c1 c2 c3 c4 c5 c6 => c5 z669882 z672257 z672261 o672267 gl672422 g672423 z672464 z672471 hz669882 bz669882 r672253 r672256 ez672257 r672260 hz672261 bz672261 bo672267 ht672269 r672272 hx672463 hz672464 hz672471 r672473)⟩
                  · have r672474 : z672471.toInt ≤ 0 := gj_nltL hc672472 (show Int32.toInt 0 = 0 by decide)
                    have bz672471' : gB z672471 (-1) 0 := ⟨by omega, by omega⟩
                    refine G_aload_n 2 dr_cX14_word_162 rfl ?_
                    refine G_iload_n 1 dr_cX14_word_163 rfl ?_
                    refine G_bipush 118 dr_cX14_word_164 (by decide +kernel) ?_
                    refine G_icmp_ne 173 dr_cX14_word_166 (by decide +kernel) (fun _ => ?_) (fun hc => absurd (show False by have := gj_eq hc (show Int32.toInt 118 = 118 by decide); omega) not_false)
                    refine G_iconst 3 dr_cX14_word_173 (by decide +kernel) ?_
                    refine Gp_put 3 hmq669860 he672469 dr_cX14_word_174 (gk_X14 D I) (Nat.le_of_ble_eq_true rfl) wr_9_39 rfl rfl rfl (Nat.le_of_ble_eq_true rfl) (fun F672475 e672476 n672477 => ?_)
                    have he672478 : F672475 q669861 = .inl (I .byte, 8192, .inl f669875) := (n672477 q669861 (rn_ao he672468 he672469)).trans he672468
                    have he672479 : F672475 q669860 = .inr (19, [.ref q669861, .int p669862, .int g672423, .int 3, .int p669865, .int z672464, .int p669867, .ref qo669868, .int p669869, .int p669870, .int p669871, .ref qo669872, .ref qo669873, .int p669874]) := e672476
                    have hfr672480 : rFr [q669860] P669858 F669859 F672475 := rFr_put' List.mem_cons_self hfr672470 n672477
                    exact G_vretA dr_cX14_word_177 rfl (show 0 ≤ ((16 * (p669862.toInt - p669863.toInt)).toNat) by omega) (show 0 ≤ ((160 * (p669862.toInt - p669863.toInt)).toNat) by omega) ⟨P669858, F672475, g672423, 3, z672464, qo669868, (0, fun _ => 0), rfl, rfl, (rSub_rf (P := P669858)), hfr672480, he672479, he672478, (by omega), (by omega), (gB_w bg672423' (by decide) (by decide)), (gB_w (gBl (show Int32.toInt 3 = 3 by decide)) (by decide) (by decide)), (by have qa0 : Int32.toInt 3 = 3 := (by decide); omega), (by have qa0 : Int32.toInt 3 = 3 := (by decide); omega), (tP_no (by decide) (by decide)), (vP_b (by assumption) (by assumption) (by assumption) (by omega)), (fun R c1 c2 c3 c4 c5 c6 => c6 z669882 z672257 z672261 o672267 gl672422 g672423 z672464 z672471 hz669882 bz669882 r672253 r672256 ez672257 r672260 hz672261 bz672261 bo672267 ht672269 r672272 hx672463 hz672464 hz672471 r672474)⟩
                · have r672481 : o672458.toInt ≠ 0 := gj_neq hc672461 (show Int32.toInt 0 = 0 by decide)
                  have bo672458' : gB o672458 1 1 := ⟨by omega, by omega⟩
                  have bi672482 : gB z672452 48 57 := isP_1 x672459 (by omega)
                  refine G_lload_n 0 dr_cX14_word_96 rfl ?_
                  refine G_ldc2 10 dr_cX14_word_97 wr_7_229 ?_
                  refine G_lmul dr_cX14_word_100 (G_namL fun u672483 hu672483 => ?_)
                  refine G_aload_n 2 dr_cX14_word_101 rfl ?_
                  refine Gp_get 0 hmq669860 he672425 dr_cX14_word_102 (gk_X14 D I) (Nat.le_of_ble_eq_true rfl) wr_9_36 rfl ?_
                  refine G_aload_n 2 dr_cX14_word_105 rfl ?_
                  refine Gp_get 2 hmq669860 he672425 dr_cX14_word_106 (gk_X14 D I) (Nat.le_of_ble_eq_true rfl) wr_9_38 rfl ?_
                  refine Gp_bald 1 hmq669861 he672426 dr_cX14_word_109 rfl (gB_in bg672423' (by decide) (by decide)) (G_eqi (y := z672452) hz672452.symm ?_)
                  refine G_i2l dr_cX14_word_110 (G_namL fun u672484 hu672484 => ?_)
                  refine G_ladd dr_cX14_word_111 (G_namL fun u672485 hu672485 => ?_)
                  refine G_ldc2 48 dr_cX14_word_112 wr_7_230 ?_
                  refine G_lsub dr_cX14_word_115 (G_namL fun u672486 hu672486 => ?_)
                  refine G_ldc2 1000000 dr_cX14_word_116 wr_7_231 ?_
                  refine Gw_callS (As := [.long u672486, .long 1000000]) (gV_ok D I) (cp_668329_Math_min l hl0 D I P669858 F672424 u672486 1000000 ) dr_cX14_word_119 ⟨wr_7_232, wr_1_6, wr_3_40, by decide, rfl, (Nat.le_of_ble_eq_true rfl), (Nat.le_of_ble_eq_true rfl)⟩ wr_3_39 (show 0 + 0 ≤ ((16 * (p669862.toInt - p669863.toInt)).toNat) by first | omega | decide) (show 0 + 0 ≤ ((160 * (p669862.toInt - p669863.toInt)).toNat) by first | omega | decide) (Nat.le_of_ble_eq_true rfl) (fun r672490 w672491 dc672487 ds672488 hp672489 => ?_) (fun _ _ _ _ _ z => z.elim)
                  obtain ⟨ol672492, rfl, rfl, hdc, hds, x672493, ht672494⟩ := hp672489
                  change G _ _ _ _ _ _ _ (.long ol672492 :: _) _ _ _
                  refine G_widen (cs' := 0) (sl' := 0) (by omega) (by omega) ?_
                  refine G_lstore_n (L' := [(2, .long ol672492), (1, .int z669882), (0, .ref q669860)]) dr_cX14_word_122 (Nat.le_of_ble_eq_true rfl) rfl ?_
                  refine G_aload_n 2 dr_cX14_word_123 rfl ?_
                  refine G_dup dr_cX14_word_124 rfl ?_
                  refine Gp_get 2 hmq669860 he672425 dr_cX14_word_125 (gk_X14 D I) (Nat.le_of_ble_eq_true rfl) wr_9_38 rfl ?_
                  refine G_iconst 1 dr_cX14_word_128 (by decide +kernel) ?_
                  refine G_iadd dr_cX14_word_129 (G_nam fun z672495 hz672495 => ?_)
                  have ez672495 : z672495.toInt = g672423.toInt + 1 := by rw [gI_add hz672495 bg672423' (gBl (show Int32.toInt 1 = 1 by decide)) (by decide) (by decide), show Int32.toInt 1 = 1 from by decide]
                  have bz672495 : gB z672495 1 8192 := gB_add (gI_add hz672495 bg672423' (gBl (show Int32.toInt 1 = 1 by decide)) (by decide) (by decide)) bg672423' (gBl (show Int32.toInt 1 = 1 by decide)) (by decide) (by decide)
                  refine Gp_put 2 hmq669860 he672425 dr_cX14_word_130 (gk_X14 D I) (Nat.le_of_ble_eq_true rfl) wr_9_38 rfl rfl rfl (Nat.le_of_ble_eq_true rfl) (fun F672496 e672497 n672498 => ?_)
                  have he672499 : F672496 q669861 = .inl (I .byte, 8192, .inl f669875) := (n672498 q669861 (rn_ao he672426 he672425)).trans he672426
                  have he672500 : F672496 q669860 = .inr (19, [.ref q669861, .int p669862, .int z672495, .int 6, .int p669865, .int p669866, .int p669867, .ref qo669868, .int p669869, .int p669870, .int p669871, .ref qo669872, .ref qo669873, .int p669874]) := e672497
                  have hfr672501 : rFr [q669860] P669858 F669859 F672496 := rFr_put' List.mem_cons_self hfr672427 n672498
                  refine G_goto 70 dr_cX14_word_133 (by decide +kernel) ?_
                  exact ih70_672430 F672496 ol672492 z672495 (gB_w bz672495 (by decide) (by decide)) hfr672501 he672500 he672499 (lgSt (by assumption) (by assumption) (by assumption) (by assumption) (by assumption) (by assumption) (by omega) (by omega)) (by have qa0 : Int32.toInt 6 = 6 := (by decide); omega) (by have qa0 : Int32.toInt 6 = 6 := (by decide); omega) (fun k e1 e2 ht => kt70_672430 k e1 e2 (fun R c1 c2 c3 => c3 gl672422 g672423 z672452 o672458 u672483 u672484 u672485 u672486 ol672492 z672495 k e1 e2 bg672423 r672451 hz672452 bz672452 bo672458 ht672460 r672481 hu672483 hu672484 hu672485 hu672486 ht672494 ez672495 (ht R c1 c2 c3))) (by have qa0 : Int32.toInt 6 = 6 := (by decide); omega)
          exact hlp70_672430 (((8193 : Int) - z672257.toInt).toNat + 1) F672274 0 z672257 (gB_w bz672257' (by decide) (by decide)) hfr672279 he672278 he672277 LG_0 (by have qa0 : Int32.toInt 6 = 6 := (by decide); omega) (by have qa0 : Int32.toInt 6 = 6 := (by decide); omega) (fun k e1 e2 ht => ht) (Nat.lt_succ_self _)
/- tl_RReader_next_35: a0_at; out: a0_at -/
def tl_RReader_next_35 (a0_n : Int32) (a0_t_v : Nat → Int32) (s1 : Int32) (k : Nat) (e1 : Int32) : Prop := ∀ R : (Int32) → Nat → (Int32) → Prop,
  (∀ (a0_at_2 : Int32), gB a0_at_2 0 8192 → a0_n.toInt ≤ a0_at_2.toInt → R a0_at_2 107 a0_at_2) →
  (∀ (a0_at_2 : Int32) (x1 : Int32), gB a0_at_2 0 8192 → a0_at_2.toInt < a0_n.toInt → x1 = a0_t_v a0_at_2.toNatClampNeg → gB x1 (-128) 127 → x1.toInt = 10 → R a0_at_2 107 a0_at_2) →
  (∀ (a0_at_2 : Int32) (x1 : Int32) (x2 : Int32) (k : Nat) (e1 : Int32), gB a0_at_2 0 8192 → a0_at_2.toInt < a0_n.toInt → x1 = a0_t_v a0_at_2.toNatClampNeg → gB x1 (-128) 127 → x1.toInt ≠ 10 → x2.toInt = a0_at_2.toInt + 1 → R x2 k e1 → R a0_at_2 k e1) →
  R s1 k e1
/- tl_RReader_next_8: a0_at; out: a0_at -/
def tl_RReader_next_8 (a0_n : Int32) (a0_t_v : Nat → Int32) (s1 : Int32) (k : Nat) (e1 : Int32) : Prop := ∀ R : (Int32) → Nat → (Int32) → Prop,
  (∀ (a0_at_1 : Int32), gB a0_at_1 0 8192 → a0_n.toInt ≤ a0_at_1.toInt → R a0_at_1 110 a0_at_1) →
  (∀ (a0_at_1 : Int32) (x1 : Int32) (x2 : Int32) (k : Nat) (e1 : Int32), gB a0_at_1 0 8192 → a0_at_1.toInt < a0_n.toInt → x1 = a0_t_v a0_at_1.toNatClampNeg → gB x1 (-128) 127 → x1.toInt ≠ 59 → x1.toInt = 9 → x2.toInt = a0_at_1.toInt + 1 → R x2 k e1 → R a0_at_1 k e1) →
  (∀ (a0_at_1 : Int32) (x1 : Int32) (x2 : Int32) (k : Nat) (e1 : Int32), gB a0_at_1 0 8192 → a0_at_1.toInt < a0_n.toInt → x1 = a0_t_v a0_at_1.toNatClampNeg → gB x1 (-128) 127 → x1.toInt ≠ 59 → x1.toInt ≠ 9 → x1.toInt = 10 → x2.toInt = a0_at_1.toInt + 1 → R x2 k e1 → R a0_at_1 k e1) →
  (∀ (a0_at_1 : Int32) (x1 : Int32) (x2 : Int32) (k : Nat) (e1 : Int32), gB a0_at_1 0 8192 → a0_at_1.toInt < a0_n.toInt → x1 = a0_t_v a0_at_1.toNatClampNeg → gB x1 (-128) 127 → x1.toInt ≠ 59 → x1.toInt ≠ 9 → x1.toInt ≠ 10 → x1.toInt = 13 → x2.toInt = a0_at_1.toInt + 1 → R x2 k e1 → R a0_at_1 k e1) →
  (∀ (a0_at_1 : Int32) (x1 : Int32), gB a0_at_1 0 8192 → a0_at_1.toInt < a0_n.toInt → x1 = a0_t_v a0_at_1.toNatClampNeg → gB x1 (-128) 127 → x1.toInt ≠ 59 → x1.toInt ≠ 9 → x1.toInt ≠ 10 → x1.toInt ≠ 13 → x1.toInt ≠ 32 → R a0_at_1 110 a0_at_1) →
  (∀ (a0_at_1 : Int32) (x1 : Int32) (x2 : Int32) (k : Nat) (e1 : Int32), gB a0_at_1 0 8192 → a0_at_1.toInt < a0_n.toInt → x1 = a0_t_v a0_at_1.toNatClampNeg → gB x1 (-128) 127 → x1.toInt ≠ 59 → x1.toInt ≠ 9 → x1.toInt ≠ 10 → x1.toInt ≠ 13 → x1.toInt = 32 → x2.toInt = a0_at_1.toInt + 1 → R x2 k e1 → R a0_at_1 k e1) →
  (∀ (a0_at_1 : Int32) (x1 : Int32) (x2 : Int32) (k : Nat) (e1 : Int32), gB a0_at_1 0 8192 → a0_at_1.toInt < a0_n.toInt → x1 = a0_t_v a0_at_1.toNatClampNeg → gB x1 (-128) 127 → x1.toInt = 59 → tl_RReader_next_35 a0_n a0_t_v a0_at_1 107 x2 → R x2 k e1 → R a0_at_1 k e1) →
  R s1 k e1
/- tr_RReader_next: a.0...at, a.0...kind, a.0...place, a.0...value -/
def tr_RReader_next (a0_n : Int32) (a0_at : Int32) (a0_kind : Int32) (a0_value : Int32) (a0_t_v : Nat → Int32) (o1 : Int32) (o2 : Int32) (o3 : Int32) (o4 : Int32) (o5 : gTx) : Prop := ∀ R : (Int32) → (Int32) → (Int32) → (Int32) → (gTx) → Prop,
  (∀ (x1 : Int32) (x2 : Int32) (x3 : Int32) (x4 : Int32) (x5 : gTx) (x6 : Int32) (x7 : Int32) (x8 : Int32), tl_RReader_next_8 a0_n a0_t_v a0_at 110 x1 → x1.toInt ≠ a0_n.toInt → x2 = a0_t_v x1.toNatClampNeg → gB x2 (-128) 127 → (((x2.toInt ≠ 45) ∨ (∃ (y1 : Int32), x2.toInt = 45 ∧ y1.toInt = x1.toInt + 1 ∧ a0_n.toInt ≤ y1.toInt) ∨ (∃ (y1 : Int32) (y2 : Int32) (y3 : Int32), x2.toInt = 45 ∧ y1.toInt = x1.toInt + 1 ∧ y1.toInt < a0_n.toInt ∧ y2 = a0_t_v y1.toNatClampNeg ∧ gB y2 (-128) 127 ∧ gB y3 0 1 ∧ tr_RReader_isDigit2 y2 y3 ∧ y3.toInt = 0) ∨ (∃ (y1 : Int32) (y2 : Int32) (y3 : Int32), x2.toInt = 45 ∧ y1.toInt = x1.toInt + 1 ∧ y1.toInt < a0_n.toInt ∧ y2 = a0_t_v y1.toNatClampNeg ∧ gB y2 (-128) 127 ∧ gB y3 0 1 ∧ tr_RReader_isDigit2 y2 y3 ∧ y3.toInt ≠ 0 ∧ a0_kind.toInt = 2) ∨ (∃ (y1 : Int32) (y2 : Int32) (y3 : Int32), x2.toInt = 45 ∧ y1.toInt = x1.toInt + 1 ∧ y1.toInt < a0_n.toInt ∧ y2 = a0_t_v y1.toNatClampNeg ∧ gB y2 (-128) 127 ∧ gB y3 0 1 ∧ tr_RReader_isDigit2 y2 y3 ∧ y3.toInt ≠ 0 ∧ a0_kind.toInt ≠ 2 ∧ a0_kind.toInt = 4))) → gB x3 0 1 → tr_RReader_isLetter2 x2 x3 → x3.toInt = 0 → gB x4 0 1 → tr_RReader_isDigit2 x2 x4 → x4.toInt ≠ 0 → gB x6 0 8192 → gB x7 4 6 → tr_RReader_number (0 : Int32) a0_n x1 a0_t_v x6 x7 x8 x5 → R x6 x7 x1 x8 x5) →
  (∀ (x1 : Int32) (x2 : Int32) (x3 : Int32) (x4 : Int32) (x5 : gTx) (x6 : Int32) (x7 : Int32), tl_RReader_next_8 a0_n a0_t_v a0_at 110 x1 → x1.toInt ≠ a0_n.toInt → x2 = a0_t_v x1.toNatClampNeg → gB x2 (-128) 127 → (((x2.toInt ≠ 45) ∨ (∃ (y1 : Int32), x2.toInt = 45 ∧ y1.toInt = x1.toInt + 1 ∧ a0_n.toInt ≤ y1.toInt) ∨ (∃ (y1 : Int32) (y2 : Int32) (y3 : Int32), x2.toInt = 45 ∧ y1.toInt = x1.toInt + 1 ∧ y1.toInt < a0_n.toInt ∧ y2 = a0_t_v y1.toNatClampNeg ∧ gB y2 (-128) 127 ∧ gB y3 0 1 ∧ tr_RReader_isDigit2 y2 y3 ∧ y3.toInt = 0) ∨ (∃ (y1 : Int32) (y2 : Int32) (y3 : Int32), x2.toInt = 45 ∧ y1.toInt = x1.toInt + 1 ∧ y1.toInt < a0_n.toInt ∧ y2 = a0_t_v y1.toNatClampNeg ∧ gB y2 (-128) 127 ∧ gB y3 0 1 ∧ tr_RReader_isDigit2 y2 y3 ∧ y3.toInt ≠ 0 ∧ a0_kind.toInt = 2) ∨ (∃ (y1 : Int32) (y2 : Int32) (y3 : Int32), x2.toInt = 45 ∧ y1.toInt = x1.toInt + 1 ∧ y1.toInt < a0_n.toInt ∧ y2 = a0_t_v y1.toNatClampNeg ∧ gB y2 (-128) 127 ∧ gB y3 0 1 ∧ tr_RReader_isDigit2 y2 y3 ∧ y3.toInt ≠ 0 ∧ a0_kind.toInt ≠ 2 ∧ a0_kind.toInt = 4))) → gB x3 0 1 → tr_RReader_isLetter2 x2 x3 → x3.toInt = 0 → gB x4 0 1 → tr_RReader_isDigit2 x2 x4 → x4.toInt = 0 → gB x6 1 8192 → gB x7 5 6 → tr_RReader_symbol x2 a0_n x1 a0_t_v x6 x7 x5 → R x6 x7 x1 a0_value x5) →
  (∀ (x1 : Int32) (x2 : Int32) (x3 : Int32) (x4 : gTx) (x5 : Int32) (x6 : Int32) (x7 : Int32), tl_RReader_next_8 a0_n a0_t_v a0_at 110 x1 → x1.toInt ≠ a0_n.toInt → x2 = a0_t_v x1.toNatClampNeg → gB x2 (-128) 127 → (((x2.toInt ≠ 45) ∨ (∃ (y1 : Int32), x2.toInt = 45 ∧ y1.toInt = x1.toInt + 1 ∧ a0_n.toInt ≤ y1.toInt) ∨ (∃ (y1 : Int32) (y2 : Int32) (y3 : Int32), x2.toInt = 45 ∧ y1.toInt = x1.toInt + 1 ∧ y1.toInt < a0_n.toInt ∧ y2 = a0_t_v y1.toNatClampNeg ∧ gB y2 (-128) 127 ∧ gB y3 0 1 ∧ tr_RReader_isDigit2 y2 y3 ∧ y3.toInt = 0) ∨ (∃ (y1 : Int32) (y2 : Int32) (y3 : Int32), x2.toInt = 45 ∧ y1.toInt = x1.toInt + 1 ∧ y1.toInt < a0_n.toInt ∧ y2 = a0_t_v y1.toNatClampNeg ∧ gB y2 (-128) 127 ∧ gB y3 0 1 ∧ tr_RReader_isDigit2 y2 y3 ∧ y3.toInt ≠ 0 ∧ a0_kind.toInt = 2) ∨ (∃ (y1 : Int32) (y2 : Int32) (y3 : Int32), x2.toInt = 45 ∧ y1.toInt = x1.toInt + 1 ∧ y1.toInt < a0_n.toInt ∧ y2 = a0_t_v y1.toNatClampNeg ∧ gB y2 (-128) 127 ∧ gB y3 0 1 ∧ tr_RReader_isDigit2 y2 y3 ∧ y3.toInt ≠ 0 ∧ a0_kind.toInt ≠ 2 ∧ a0_kind.toInt = 4))) → gB x3 0 1 → tr_RReader_isLetter2 x2 x3 → x3.toInt ≠ 0 → gB x5 0 8192 → gB x6 1 6 → tr_RReader_word a0_n x1 a0_value a0_t_v x5 x6 x7 x4 → R x5 x6 x1 x7 x4) →
  (∀ (x1 : Int32) (x2 : Int32) (x3 : Int32) (x4 : Int32) (x5 : Int32) (x6 : Int32) (x7 : Int32) (x8 : gTx) (x9 : Int32) (x10 : Int32) (x11 : Int32), tl_RReader_next_8 a0_n a0_t_v a0_at 110 x1 → x1.toInt ≠ a0_n.toInt → x2 = a0_t_v x1.toNatClampNeg → gB x2 (-128) 127 → x2.toInt = 45 → x3.toInt = x1.toInt + 1 → x3.toInt < a0_n.toInt → x4 = a0_t_v x3.toNatClampNeg → gB x4 (-128) 127 → gB x5 0 1 → tr_RReader_isDigit2 x4 x5 → x5.toInt ≠ 0 → a0_kind.toInt ≠ 2 → a0_kind.toInt ≠ 4 → gB x6 0 1 → tr_RReader_isLetter2 x2 x6 → x6.toInt = 0 → gB x7 0 1 → tr_RReader_isDigit2 x2 x7 → x7.toInt ≠ 0 → gB x9 0 8192 → gB x10 4 6 → tr_RReader_number (1 : Int32) a0_n x1 a0_t_v x9 x10 x11 x8 → R x9 x10 x1 x11 x8) →
  (∀ (x1 : Int32) (x2 : Int32) (x3 : Int32) (x4 : Int32) (x5 : Int32) (x6 : Int32) (x7 : Int32) (x8 : gTx) (x9 : Int32) (x10 : Int32) (x11 : Int32), tl_RReader_next_8 a0_n a0_t_v a0_at 110 x1 → x1.toInt ≠ a0_n.toInt → x2 = a0_t_v x1.toNatClampNeg → gB x2 (-128) 127 → x2.toInt = 45 → x3.toInt = x1.toInt + 1 → x3.toInt < a0_n.toInt → x4 = a0_t_v x3.toNatClampNeg → gB x4 (-128) 127 → gB x5 0 1 → tr_RReader_isDigit2 x4 x5 → x5.toInt ≠ 0 → a0_kind.toInt ≠ 2 → a0_kind.toInt ≠ 4 → gB x6 0 1 → tr_RReader_isLetter2 x2 x6 → x6.toInt = 0 → gB x7 0 1 → tr_RReader_isDigit2 x2 x7 → x7.toInt = 0 → gB x9 0 8192 → gB x10 4 6 → tr_RReader_number (1 : Int32) a0_n x1 a0_t_v x9 x10 x11 x8 → R x9 x10 x1 x11 x8) →
  (∀ (x1 : Int32) (x2 : Int32) (x3 : Int32) (x4 : Int32) (x5 : Int32) (x6 : Int32) (x7 : gTx) (x8 : Int32) (x9 : Int32) (x10 : Int32), tl_RReader_next_8 a0_n a0_t_v a0_at 110 x1 → x1.toInt ≠ a0_n.toInt → x2 = a0_t_v x1.toNatClampNeg → gB x2 (-128) 127 → x2.toInt = 45 → x3.toInt = x1.toInt + 1 → x3.toInt < a0_n.toInt → x4 = a0_t_v x3.toNatClampNeg → gB x4 (-128) 127 → gB x5 0 1 → tr_RReader_isDigit2 x4 x5 → x5.toInt ≠ 0 → a0_kind.toInt ≠ 2 → a0_kind.toInt ≠ 4 → gB x6 0 1 → tr_RReader_isLetter2 x2 x6 → x6.toInt ≠ 0 → gB x8 0 8192 → gB x9 1 6 → tr_RReader_word a0_n x1 a0_value a0_t_v x8 x9 x10 x7 → R x8 x9 x1 x10 x7) →
  (∀ (x1 : Int32), tl_RReader_next_8 a0_n a0_t_v a0_at 110 x1 → x1.toInt = a0_n.toInt → R x1 (0 : Int32) x1 a0_value (0, fun _ => 0)) →
  (∀ (x1 : Int32) (x2 : Int32) (x3 : Int32) (x4 : Int32) (x5 : gTx) (x6 : Int32) (x7 : Int32) (x8 : Int32), tl_RReader_next_8 a0_n a0_t_v a0_at 110 x1 → x1.toInt ≠ a0_n.toInt → x2 = a0_t_v x1.toNatClampNeg → (((x2.toInt ≠ 45) ∨ (∃ (y1 : Int32), x2.toInt = 45 ∧ y1.toInt = x1.toInt + 1 ∧ a0_n.toInt ≤ y1.toInt) ∨ (∃ (y1 : Int32) (y2 : Int32) (y3 : Int32), x2.toInt = 45 ∧ y1.toInt = x1.toInt + 1 ∧ y1.toInt < a0_n.toInt ∧ y2 = a0_t_v y1.toNatClampNeg ∧ gB y2 (-128) 127 ∧ gB y3 0 1 ∧ tr_RReader_isDigit2 y2 y3 ∧ y3.toInt = 0) ∨ (∃ (y1 : Int32) (y2 : Int32) (y3 : Int32), x2.toInt = 45 ∧ y1.toInt = x1.toInt + 1 ∧ y1.toInt < a0_n.toInt ∧ y2 = a0_t_v y1.toNatClampNeg ∧ gB y2 (-128) 127 ∧ gB y3 0 1 ∧ tr_RReader_isDigit2 y2 y3 ∧ y3.toInt ≠ 0 ∧ a0_kind.toInt = 2) ∨ (∃ (y1 : Int32) (y2 : Int32) (y3 : Int32), x2.toInt = 45 ∧ y1.toInt = x1.toInt + 1 ∧ y1.toInt < a0_n.toInt ∧ y2 = a0_t_v y1.toNatClampNeg ∧ gB y2 (-128) 127 ∧ gB y3 0 1 ∧ tr_RReader_isDigit2 y2 y3 ∧ y3.toInt ≠ 0 ∧ a0_kind.toInt ≠ 2 ∧ a0_kind.toInt = 4))) → gB x3 0 1 → tr_RReader_isLetter2 x2 x3 → x3.toInt = 0 → gB x4 0 1 → tr_RReader_isDigit2 x2 x4 → x4.toInt ≠ 0 → gB x6 0 8192 → gB x7 4 6 → tr_RReader_number (0 : Int32) a0_n x1 a0_t_v x6 x7 x8 x5 → R x6 x7 x1 x8 x5) →
  (∀ (x1 : Int32) (x2 : Int32) (x3 : Int32) (x4 : Int32) (x5 : gTx) (x6 : Int32) (x7 : Int32), tl_RReader_next_8 a0_n a0_t_v a0_at 110 x1 → x1.toInt ≠ a0_n.toInt → x2 = a0_t_v x1.toNatClampNeg → (((x2.toInt ≠ 45) ∨ (∃ (y1 : Int32), x2.toInt = 45 ∧ y1.toInt = x1.toInt + 1 ∧ a0_n.toInt ≤ y1.toInt) ∨ (∃ (y1 : Int32) (y2 : Int32) (y3 : Int32), x2.toInt = 45 ∧ y1.toInt = x1.toInt + 1 ∧ y1.toInt < a0_n.toInt ∧ y2 = a0_t_v y1.toNatClampNeg ∧ gB y2 (-128) 127 ∧ gB y3 0 1 ∧ tr_RReader_isDigit2 y2 y3 ∧ y3.toInt = 0) ∨ (∃ (y1 : Int32) (y2 : Int32) (y3 : Int32), x2.toInt = 45 ∧ y1.toInt = x1.toInt + 1 ∧ y1.toInt < a0_n.toInt ∧ y2 = a0_t_v y1.toNatClampNeg ∧ gB y2 (-128) 127 ∧ gB y3 0 1 ∧ tr_RReader_isDigit2 y2 y3 ∧ y3.toInt ≠ 0 ∧ a0_kind.toInt = 2) ∨ (∃ (y1 : Int32) (y2 : Int32) (y3 : Int32), x2.toInt = 45 ∧ y1.toInt = x1.toInt + 1 ∧ y1.toInt < a0_n.toInt ∧ y2 = a0_t_v y1.toNatClampNeg ∧ gB y2 (-128) 127 ∧ gB y3 0 1 ∧ tr_RReader_isDigit2 y2 y3 ∧ y3.toInt ≠ 0 ∧ a0_kind.toInt ≠ 2 ∧ a0_kind.toInt = 4))) → gB x3 0 1 → tr_RReader_isLetter2 x2 x3 → x3.toInt = 0 → gB x4 0 1 → tr_RReader_isDigit2 x2 x4 → x4.toInt = 0 → gB x6 1 8192 → gB x7 5 6 → tr_RReader_symbol x2 a0_n x1 a0_t_v x6 x7 x5 → R x6 x7 x1 a0_value x5) →
  (∀ (x1 : Int32) (x2 : Int32) (x3 : Int32) (x4 : gTx) (x5 : Int32) (x6 : Int32) (x7 : Int32), tl_RReader_next_8 a0_n a0_t_v a0_at 110 x1 → x1.toInt ≠ a0_n.toInt → x2 = a0_t_v x1.toNatClampNeg → (((x2.toInt ≠ 45) ∨ (∃ (y1 : Int32), x2.toInt = 45 ∧ y1.toInt = x1.toInt + 1 ∧ a0_n.toInt ≤ y1.toInt) ∨ (∃ (y1 : Int32) (y2 : Int32) (y3 : Int32), x2.toInt = 45 ∧ y1.toInt = x1.toInt + 1 ∧ y1.toInt < a0_n.toInt ∧ y2 = a0_t_v y1.toNatClampNeg ∧ gB y2 (-128) 127 ∧ gB y3 0 1 ∧ tr_RReader_isDigit2 y2 y3 ∧ y3.toInt = 0) ∨ (∃ (y1 : Int32) (y2 : Int32) (y3 : Int32), x2.toInt = 45 ∧ y1.toInt = x1.toInt + 1 ∧ y1.toInt < a0_n.toInt ∧ y2 = a0_t_v y1.toNatClampNeg ∧ gB y2 (-128) 127 ∧ gB y3 0 1 ∧ tr_RReader_isDigit2 y2 y3 ∧ y3.toInt ≠ 0 ∧ a0_kind.toInt = 2) ∨ (∃ (y1 : Int32) (y2 : Int32) (y3 : Int32), x2.toInt = 45 ∧ y1.toInt = x1.toInt + 1 ∧ y1.toInt < a0_n.toInt ∧ y2 = a0_t_v y1.toNatClampNeg ∧ gB y2 (-128) 127 ∧ gB y3 0 1 ∧ tr_RReader_isDigit2 y2 y3 ∧ y3.toInt ≠ 0 ∧ a0_kind.toInt ≠ 2 ∧ a0_kind.toInt = 4))) → gB x3 0 1 → tr_RReader_isLetter2 x2 x3 → x3.toInt ≠ 0 → gB x5 0 8192 → gB x6 1 6 → tr_RReader_word a0_n x1 a0_value a0_t_v x5 x6 x7 x4 → R x5 x6 x1 x7 x4) →
  (∀ (x1 : Int32) (x2 : Int32) (x3 : Int32) (x4 : Int32) (x5 : Int32) (x6 : Int32) (x7 : Int32) (x8 : gTx) (x9 : Int32) (x10 : Int32) (x11 : Int32), tl_RReader_next_8 a0_n a0_t_v a0_at 110 x1 → x1.toInt ≠ a0_n.toInt → x2 = a0_t_v x1.toNatClampNeg → x2.toInt = 45 → x3.toInt = x1.toInt + 1 → x3.toInt < a0_n.toInt → x4 = a0_t_v x3.toNatClampNeg → gB x4 (-128) 127 → gB x5 0 1 → tr_RReader_isDigit2 x4 x5 → x5.toInt ≠ 0 → a0_kind.toInt ≠ 2 → a0_kind.toInt ≠ 4 → gB x6 0 1 → tr_RReader_isLetter2 x2 x6 → x6.toInt = 0 → gB x7 0 1 → tr_RReader_isDigit2 x2 x7 → x7.toInt ≠ 0 → gB x9 0 8192 → gB x10 4 6 → tr_RReader_number (1 : Int32) a0_n x1 a0_t_v x9 x10 x11 x8 → R x9 x10 x1 x11 x8) →
  (∀ (x1 : Int32) (x2 : Int32) (x3 : Int32) (x4 : Int32) (x5 : Int32) (x6 : Int32) (x7 : Int32) (x8 : gTx) (x9 : Int32) (x10 : Int32) (x11 : Int32), tl_RReader_next_8 a0_n a0_t_v a0_at 110 x1 → x1.toInt ≠ a0_n.toInt → x2 = a0_t_v x1.toNatClampNeg → x2.toInt = 45 → x3.toInt = x1.toInt + 1 → x3.toInt < a0_n.toInt → x4 = a0_t_v x3.toNatClampNeg → gB x4 (-128) 127 → gB x5 0 1 → tr_RReader_isDigit2 x4 x5 → x5.toInt ≠ 0 → a0_kind.toInt ≠ 2 → a0_kind.toInt ≠ 4 → gB x6 0 1 → tr_RReader_isLetter2 x2 x6 → x6.toInt = 0 → gB x7 0 1 → tr_RReader_isDigit2 x2 x7 → x7.toInt = 0 → gB x9 0 8192 → gB x10 4 6 → tr_RReader_number (1 : Int32) a0_n x1 a0_t_v x9 x10 x11 x8 → R x9 x10 x1 x11 x8) →
  (∀ (x1 : Int32) (x2 : Int32) (x3 : Int32) (x4 : Int32) (x5 : Int32) (x6 : Int32) (x7 : gTx) (x8 : Int32) (x9 : Int32) (x10 : Int32), tl_RReader_next_8 a0_n a0_t_v a0_at 110 x1 → x1.toInt ≠ a0_n.toInt → x2 = a0_t_v x1.toNatClampNeg → x2.toInt = 45 → x3.toInt = x1.toInt + 1 → x3.toInt < a0_n.toInt → x4 = a0_t_v x3.toNatClampNeg → gB x4 (-128) 127 → gB x5 0 1 → tr_RReader_isDigit2 x4 x5 → x5.toInt ≠ 0 → a0_kind.toInt ≠ 2 → a0_kind.toInt ≠ 4 → gB x6 0 1 → tr_RReader_isLetter2 x2 x6 → x6.toInt ≠ 0 → gB x8 0 8192 → gB x9 1 6 → tr_RReader_word a0_n x1 a0_value a0_t_v x8 x9 x10 x7 → R x8 x9 x1 x10 x7) →
  R o1 o2 o3 o4 o5
