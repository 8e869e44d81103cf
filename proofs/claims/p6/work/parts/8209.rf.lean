theorem dr_cX14_word_0 : decode cX14_word 0 = .ok (.aload_n 0, 1) := by decide +kernel
theorem dr_cX14_word_1 : decode cX14_word 1 = .ok (.getfield 28, 3) := by decide +kernel
theorem dr_cX14_word_4 : decode cX14_word 4 = .ok (.aload_n 0, 1) := by decide +kernel
theorem dr_cX14_word_5 : decode cX14_word 5 = .ok (.getfield 44, 3) := by decide +kernel
theorem dr_cX14_word_8 : decode cX14_word 8 = .ok (.baload, 1) := by decide +kernel
theorem dr_cX14_word_9 : decode cX14_word 9 = .ok (.istore_n 1, 1) := by decide +kernel
theorem dr_cX14_word_10 : decode cX14_word 10 = .ok (.aload_n 0, 1) := by decide +kernel
theorem dr_cX14_word_11 : decode cX14_word 11 = .ok (.bipush 6, 2) := by decide +kernel
theorem dr_cX14_word_13 : decode cX14_word 13 = .ok (.putfield 38, 3) := by decide +kernel
theorem dr_cX14_word_178 : decode cX14_word 178 = .ok (.new 87, 3) := by decide +kernel
theorem dr_cX14_word_181 : decode cX14_word 181 = .ok (.dup, 1) := by decide +kernel
theorem dr_cX14_word_182 : decode cX14_word 182 = .ok (.invokespecial 89, 3) := by decide +kernel
theorem dr_cX14_word_185 : decode cX14_word 185 = .ok (.astore_n 2, 1) := by decide +kernel
theorem dr_cX14_word_186 : decode cX14_word 186 = .ok (.aload_n 0, 1) := by decide +kernel
theorem dr_cX14_word_187 : decode cX14_word 187 = .ok (.getfield 44, 3) := by decide +kernel
theorem dr_cX14_word_190 : decode cX14_word 190 = .ok (.aload_n 0, 1) := by decide +kernel
theorem dr_cX14_word_191 : decode cX14_word 191 = .ok (.getfield 32, 3) := by decide +kernel
theorem dr_cX14_word_194 : decode cX14_word 194 = .ok (.if_icmp .ge 46, 3) := by decide +kernel
theorem dr_cX14_word_240 : decode cX14_word 240 = .ok (.aload_n 0, 1) := by decide +kernel
theorem dr_cX14_word_241 : decode cX14_word 241 = .ok (.aload_n 2, 1) := by decide +kernel
theorem dr_cX14_word_242 : decode cX14_word 242 = .ok (.invokevirtual 94, 3) := by decide +kernel
theorem dr_cX14_word_245 : decode cX14_word 245 = .ok (.putfield 11, 3) := by decide +kernel
theorem dr_cX14_word_248 : decode cX14_word 248 = .ok (.ldc 98, 2) := by decide +kernel
theorem dr_cX14_word_250 : decode cX14_word 250 = .ok (.new 87, 3) := by decide +kernel
theorem dr_cX14_word_253 : decode cX14_word 253 = .ok (.dup, 1) := by decide +kernel
theorem dr_cX14_word_254 : decode cX14_word 254 = .ok (.invokespecial 89, 3) := by decide +kernel
theorem dr_cX14_word_257 : decode cX14_word 257 = .ok (.ldc 100, 2) := by decide +kernel
theorem dr_cX14_word_259 : decode cX14_word 259 = .ok (.invokevirtual 102, 3) := by decide +kernel
theorem dr_cX14_word_262 : decode cX14_word 262 = .ok (.aload_n 0, 1) := by decide +kernel
theorem dr_cX14_word_263 : decode cX14_word 263 = .ok (.getfield 11, 3) := by decide +kernel
theorem dr_cX14_word_266 : decode cX14_word 266 = .ok (.invokevirtual 102, 3) := by decide +kernel
theorem dr_cX14_word_269 : decode cX14_word 269 = .ok (.ldc 100, 2) := by decide +kernel
theorem dr_cX14_word_271 : decode cX14_word 271 = .ok (.invokevirtual 102, 3) := by decide +kernel
theorem dr_cX14_word_274 : decode cX14_word 274 = .ok (.invokevirtual 94, 3) := by decide +kernel
theorem dr_cX14_word_277 : decode cX14_word 277 = .ok (.invokevirtual 105, 3) := by decide +kernel
theorem dr_cX14_word_280 : decode cX14_word 280 = .ok (.ifCond .lt 8, 3) := by decide +kernel
theorem dr_cX14_word_288 : decode cX14_word 288 = .ok (.return_, 1) := by decide +kernel
theorem dr_cX14_word_283 : decode cX14_word 283 = .ok (.aload_n 0, 1) := by decide +kernel
theorem dr_cX14_word_284 : decode cX14_word 284 = .ok (.iconst 1, 1) := by decide +kernel
theorem dr_cX14_word_285 : decode cX14_word 285 = .ok (.putfield 38, 3) := by decide +kernel
theorem dr_cX14_word_197 : decode cX14_word 197 = .ok (.aload_n 0, 1) := by decide +kernel
theorem dr_cX14_word_198 : decode cX14_word 198 = .ok (.getfield 28, 3) := by decide +kernel
theorem dr_cX14_word_201 : decode cX14_word 201 = .ok (.aload_n 0, 1) := by decide +kernel
theorem dr_cX14_word_202 : decode cX14_word 202 = .ok (.getfield 44, 3) := by decide +kernel
theorem dr_cX14_word_205 : decode cX14_word 205 = .ok (.baload, 1) := by decide +kernel
theorem dr_cX14_word_206 : decode cX14_word 206 = .ok (.invokestatic 54, 3) := by decide +kernel
theorem wr_7_222 : (Jvm.Cond.methodLink "SpillForgeModel$Reader" (54 : Nat) ({ cls := "SpillForgeModel$Reader", name := "isLetter", desc := "(I)Z" } : Jvm.MethodName)) ∈ gw := gw_7 222 rfl rfl
theorem wr_7_224 : (Jvm.Cond.code ({ cls := "SpillForgeModel$Reader", name := "isLetter", desc := "(I)Z" } : Jvm.MethodName) prog_17_method_3_code (1 : Nat) (Option.some Jvm.ClassFile.FieldType.boolean)) ∈ gw := gw_7 224 rfl rfl
theorem wr_7_223 : (Jvm.Cond.static ({ cls := "SpillForgeModel$Reader", name := "isLetter", desc := "(I)Z" } : Jvm.MethodName)) ∈ gw := gw_7 223 rfl rfl
theorem dr_cX14_word_209 : decode cX14_word 209 = .ok (.ifCond .eq 31, 3) := by decide +kernel
theorem dr_cX14_word_212 : decode cX14_word 212 = .ok (.aload_n 2, 1) := by decide +kernel
theorem dr_cX14_word_213 : decode cX14_word 213 = .ok (.aload_n 0, 1) := by decide +kernel
theorem dr_cX14_word_214 : decode cX14_word 214 = .ok (.getfield 28, 3) := by decide +kernel
theorem dr_cX14_word_217 : decode cX14_word 217 = .ok (.aload_n 0, 1) := by decide +kernel
theorem dr_cX14_word_218 : decode cX14_word 218 = .ok (.getfield 44, 3) := by decide +kernel
theorem dr_cX14_word_221 : decode cX14_word 221 = .ok (.baload, 1) := by decide +kernel
theorem dr_cX14_word_222 : decode cX14_word 222 = .ok (.i2c, 1) := by decide +kernel
theorem dr_cX14_word_223 : decode cX14_word 223 = .ok (.invokevirtual 90, 3) := by decide +kernel
theorem dr_cX14_word_226 : decode cX14_word 226 = .ok (.pop, 1) := by decide +kernel
theorem dr_cX14_word_227 : decode cX14_word 227 = .ok (.aload_n 0, 1) := by decide +kernel
theorem dr_cX14_word_228 : decode cX14_word 228 = .ok (.dup, 1) := by decide +kernel
theorem dr_cX14_word_229 : decode cX14_word 229 = .ok (.getfield 44, 3) := by decide +kernel
theorem dr_cX14_word_232 : decode cX14_word 232 = .ok (.iconst 1, 1) := by decide +kernel
theorem dr_cX14_word_233 : decode cX14_word 233 = .ok (.iadd, 1) := by decide +kernel
theorem dr_cX14_word_234 : decode cX14_word 234 = .ok (.putfield 44, 3) := by decide +kernel
theorem dr_cX14_word_237 : decode cX14_word 237 = .ok (.goto (-51), 3) := by decide +kernel
theorem dr_cX14_word_16 : decode cX14_word 16 = .ok (.iload_n 1, 1) := by decide +kernel
theorem dr_cX14_word_17 : decode cX14_word 17 = .ok (.bipush 118, 2) := by decide +kernel
theorem dr_cX14_word_19 : decode cX14_word 19 = .ok (.if_icmp .eq 9, 3) := by decide +kernel
theorem dr_cX14_word_28 : decode cX14_word 28 = .ok (.aload_n 0, 1) := by decide +kernel
theorem dr_cX14_word_29 : decode cX14_word 29 = .ok (.getfield 44, 3) := by decide +kernel
theorem dr_cX14_word_32 : decode cX14_word 32 = .ok (.iconst 1, 1) := by decide +kernel
theorem dr_cX14_word_33 : decode cX14_word 33 = .ok (.iadd, 1) := by decide +kernel
theorem dr_cX14_word_34 : decode cX14_word 34 = .ok (.aload_n 0, 1) := by decide +kernel
theorem dr_cX14_word_35 : decode cX14_word 35 = .ok (.getfield 32, 3) := by decide +kernel
theorem dr_cX14_word_38 : decode cX14_word 38 = .ok (.if_icmp .ge 140, 3) := by decide +kernel
theorem dr_cX14_word_41 : decode cX14_word 41 = .ok (.aload_n 0, 1) := by decide +kernel
theorem dr_cX14_word_42 : decode cX14_word 42 = .ok (.getfield 28, 3) := by decide +kernel
theorem dr_cX14_word_45 : decode cX14_word 45 = .ok (.aload_n 0, 1) := by decide +kernel
theorem dr_cX14_word_46 : decode cX14_word 46 = .ok (.getfield 44, 3) := by decide +kernel
theorem dr_cX14_word_49 : decode cX14_word 49 = .ok (.iconst 1, 1) := by decide +kernel
theorem dr_cX14_word_50 : decode cX14_word 50 = .ok (.iadd, 1) := by decide +kernel
theorem dr_cX14_word_51 : decode cX14_word 51 = .ok (.baload, 1) := by decide +kernel
theorem dr_cX14_word_52 : decode cX14_word 52 = .ok (.invokestatic 50, 3) := by decide +kernel
theorem dr_cX14_word_55 : decode cX14_word 55 = .ok (.ifCond .eq 123, 3) := by decide +kernel
theorem dr_cX14_word_58 : decode cX14_word 58 = .ok (.lconst 0, 1) := by decide +kernel
theorem dr_cX14_word_59 : decode cX14_word 59 = .ok (.lstore_n 2, 1) := by decide +kernel
theorem dr_cX14_word_60 : decode cX14_word 60 = .ok (.aload_n 0, 1) := by decide +kernel
theorem dr_cX14_word_61 : decode cX14_word 61 = .ok (.dup, 1) := by decide +kernel
theorem dr_cX14_word_62 : decode cX14_word 62 = .ok (.getfield 44, 3) := by decide +kernel
theorem dr_cX14_word_65 : decode cX14_word 65 = .ok (.iconst 1, 1) := by decide +kernel
theorem dr_cX14_word_66 : decode cX14_word 66 = .ok (.iadd, 1) := by decide +kernel
theorem dr_cX14_word_67 : decode cX14_word 67 = .ok (.putfield 44, 3) := by decide +kernel
theorem dr_cX14_word_70 : decode cX14_word 70 = .ok (.aload_n 0, 1) := by decide +kernel
theorem dr_cX14_word_71 : decode cX14_word 71 = .ok (.getfield 44, 3) := by decide +kernel
theorem dr_cX14_word_74 : decode cX14_word 74 = .ok (.aload_n 0, 1) := by decide +kernel
theorem dr_cX14_word_75 : decode cX14_word 75 = .ok (.getfield 32, 3) := by decide +kernel
theorem dr_cX14_word_78 : decode cX14_word 78 = .ok (.if_icmp .ge 58, 3) := by decide +kernel
theorem dr_cX14_word_136 : decode cX14_word 136 = .ok (.aload_n 0, 1) := by decide +kernel
theorem dr_cX14_word_137 : decode cX14_word 137 = .ok (.lload_n 2, 1) := by decide +kernel
theorem dr_cX14_word_138 : decode cX14_word 138 = .ok (.l2i, 1) := by decide +kernel
theorem dr_cX14_word_139 : decode cX14_word 139 = .ok (.putfield 80, 3) := by decide +kernel
theorem dr_cX14_word_142 : decode cX14_word 142 = .ok (.lload_n 2, 1) := by decide +kernel
theorem dr_cX14_word_143 : decode cX14_word 143 = .ok (.iload_n 1, 1) := by decide +kernel
theorem dr_cX14_word_144 : decode cX14_word 144 = .ok (.bipush 118, 2) := by decide +kernel
theorem dr_cX14_word_146 : decode cX14_word 146 = .ok (.if_icmp .ne 9, 3) := by decide +kernel
theorem dr_cX14_word_149 : decode cX14_word 149 = .ok (.ldc2_w 83, 3) := by decide +kernel
theorem wr_7_233 : (Jvm.Cond.constantLong "SpillForgeModel$Reader" (83 : Nat) (99 : Int64)) ∈ gw := gw_7 233 rfl rfl
theorem dr_cX14_word_152 : decode cX14_word 152 = .ok (.goto 6, 3) := by decide +kernel
theorem dr_cX14_word_158 : decode cX14_word 158 = .ok (.lcmp, 1) := by decide +kernel
theorem dr_cX14_word_159 : decode cX14_word 159 = .ok (.ifCond .gt 18, 3) := by decide +kernel
theorem dr_cX14_word_177 : decode cX14_word 177 = .ok (.return_, 1) := by decide +kernel
theorem dr_cX14_word_162 : decode cX14_word 162 = .ok (.aload_n 0, 1) := by decide +kernel
theorem dr_cX14_word_163 : decode cX14_word 163 = .ok (.iload_n 1, 1) := by decide +kernel
theorem dr_cX14_word_164 : decode cX14_word 164 = .ok (.bipush 118, 2) := by decide +kernel
theorem dr_cX14_word_166 : decode cX14_word 166 = .ok (.if_icmp .ne 7, 3) := by decide +kernel
theorem dr_cX14_word_169 : decode cX14_word 169 = .ok (.iconst 2, 1) := by decide +kernel
theorem dr_cX14_word_170 : decode cX14_word 170 = .ok (.goto 4, 3) := by decide +kernel
theorem dr_cX14_word_174 : decode cX14_word 174 = .ok (.putfield 38, 3) := by decide +kernel
theorem dr_cX14_word_81 : decode cX14_word 81 = .ok (.aload_n 0, 1) := by decide +kernel
theorem dr_cX14_word_82 : decode cX14_word 82 = .ok (.getfield 28, 3) := by decide +kernel
theorem dr_cX14_word_85 : decode cX14_word 85 = .ok (.aload_n 0, 1) := by decide +kernel
theorem dr_cX14_word_86 : decode cX14_word 86 = .ok (.getfield 44, 3) := by decide +kernel
theorem dr_cX14_word_89 : decode cX14_word 89 = .ok (.baload, 1) := by decide +kernel
theorem dr_cX14_word_90 : decode cX14_word 90 = .ok (.invokestatic 50, 3) := by decide +kernel
theorem dr_cX14_word_93 : decode cX14_word 93 = .ok (.ifCond .eq 43, 3) := by decide +kernel
theorem dr_cX14_word_96 : decode cX14_word 96 = .ok (.lload_n 2, 1) := by decide +kernel
theorem dr_cX14_word_97 : decode cX14_word 97 = .ok (.ldc2_w 68, 3) := by decide +kernel
theorem dr_cX14_word_100 : decode cX14_word 100 = .ok (.lmul, 1) := by decide +kernel
theorem dr_cX14_word_101 : decode cX14_word 101 = .ok (.aload_n 0, 1) := by decide +kernel
theorem dr_cX14_word_102 : decode cX14_word 102 = .ok (.getfield 28, 3) := by decide +kernel
theorem dr_cX14_word_105 : decode cX14_word 105 = .ok (.aload_n 0, 1) := by decide +kernel
theorem dr_cX14_word_106 : decode cX14_word 106 = .ok (.getfield 44, 3) := by decide +kernel
theorem dr_cX14_word_109 : decode cX14_word 109 = .ok (.baload, 1) := by decide +kernel
theorem dr_cX14_word_110 : decode cX14_word 110 = .ok (.i2l, 1) := by decide +kernel
theorem dr_cX14_word_111 : decode cX14_word 111 = .ok (.ladd, 1) := by decide +kernel
theorem dr_cX14_word_112 : decode cX14_word 112 = .ok (.ldc2_w 70, 3) := by decide +kernel
theorem dr_cX14_word_115 : decode cX14_word 115 = .ok (.lsub, 1) := by decide +kernel
theorem dr_cX14_word_116 : decode cX14_word 116 = .ok (.ldc2_w 72, 3) := by decide +kernel
theorem wr_7_231 : (Jvm.Cond.constantLong "SpillForgeModel$Reader" (72 : Nat) (1000000 : Int64)) ∈ gw := gw_7 231 rfl rfl
theorem dr_cX14_word_119 : decode cX14_word 119 = .ok (.invokestatic 74, 3) := by decide +kernel
theorem dr_cX14_word_122 : decode cX14_word 122 = .ok (.lstore_n 2, 1) := by decide +kernel
theorem dr_cX14_word_123 : decode cX14_word 123 = .ok (.aload_n 0, 1) := by decide +kernel
theorem dr_cX14_word_124 : decode cX14_word 124 = .ok (.dup, 1) := by decide +kernel
theorem dr_cX14_word_125 : decode cX14_word 125 = .ok (.getfield 44, 3) := by decide +kernel
theorem dr_cX14_word_128 : decode cX14_word 128 = .ok (.iconst 1, 1) := by decide +kernel
theorem dr_cX14_word_129 : decode cX14_word 129 = .ok (.iadd, 1) := by decide +kernel
theorem dr_cX14_word_130 : decode cX14_word 130 = .ok (.putfield 44, 3) := by decide +kernel
theorem dr_cX14_word_133 : decode cX14_word 133 = .ok (.goto (-63), 3) := by decide +kernel
theorem dr_cX14_word_22 : decode cX14_word 22 = .ok (.iload_n 1, 1) := by decide +kernel
theorem dr_cX14_word_23 : decode cX14_word 23 = .ok (.bipush 98, 2) := by decide +kernel
theorem dr_cX14_word_25 : decode cX14_word 25 = .ok (.if_icmp .ne 153, 3) := by decide +kernel
theorem dr_cX14_word_155 : decode cX14_word 155 = .ok (.ldc2_w 85, 3) := by decide +kernel
theorem wr_7_234 : (Jvm.Cond.constantLong "SpillForgeModel$Reader" (85 : Nat) (39 : Int64)) ∈ gw := gw_7 234 rfl rfl
theorem dr_cX14_word_173 : decode cX14_word 173 = .ok (.iconst 3, 1) := by decide +kernel
abbrev ky_670062_Reader_isLetter : gKey := (cX14_isLetter, 1, "SpillForgeModel$Reader", (some FieldType.boolean), [], "isLetter", fun _ _ => True)
def pp_670062_Reader_isLetter (D : va_G) (I : FieldType → ClassId) (P670059 : List Nat) (F670060 : Nat → va_E) (p670061 : Int32) : Option Value → va_W → Nat → Nat → Prop := fun r w dc ds => ∃ (o670069 : Int32), r = some (.int o670069) ∧ w = va_pl P670059 F670060 ∧ dc ≤ 0 ∧ ds ≤ 0 ∧ gB o670069 0 1 ∧ isP p670061 97 122 o670069 ∧ tr_RReader_isLetter2 p670061 o670069
set_option maxRecDepth 100000 in
set_option maxHeartbeats 4000000 in
theorem cp_670062_Reader_isLetter (l : Launch) (hl0 : l.stackTraces = false) (D : va_G) (I : FieldType → ClassId) (P670059 : List Nat) (F670060 : Nat → va_E) (p670061 : Int32)  : CtA (gV D I) l yX14_isLetter cX14_isLetter 1 (some FieldType.boolean) 0 0 0 0 [.int p670061] (va_pl P670059 F670060) (pp_670062_Reader_isLetter D I P670059 F670060 p670061) gNA := by
  refine CtA_of hl0 (by decide) (Nat.le_of_ble_eq_true rfl) ?_
  have bp670061 := gB_any p670061
  refine G_iload_n 0 dr_cX14_isLetter_0 rfl ?_
  refine G_bipush 97 dr_cX14_isLetter_1 (by decide +kernel) ?_
  refine G_icmp_lt 16 dr_cX14_isLetter_3 (by decide +kernel) (fun hc670063 => ?_) (fun hc670063 => ?_)
  · have r670064 : p670061.toInt < 97 := gj_lt hc670063 (show Int32.toInt 97 = 97 by decide)
    have bp670061' : gB p670061 (-2147483648) 96 := ⟨by omega, by omega⟩
    refine G_iconst 0 dr_cX14_isLetter_16 (by decide +kernel) ?_
    exact G_zretA FieldType.boolean dr_cX14_isLetter_17 rfl rfl (Nat.le_of_ble_eq_true rfl) (Nat.le_of_ble_eq_true rfl) ⟨0, rfl, rfl, (Nat.le_of_ble_eq_true rfl), (Nat.le_of_ble_eq_true rfl), (gB_w (gBl (show Int32.toInt 0 = 0 by decide)) (by decide) (by decide)), (isP_n (by omega)), (fun R c1 c2 c3 => c1 r670064)⟩
  · have r670065 : 97 ≤ p670061.toInt := gj_nlt hc670063 (show Int32.toInt 97 = 97 by decide)
    have bp670061' : gB p670061 97 2147483647 := ⟨by omega, by omega⟩
    refine G_iload_n 0 dr_cX14_isLetter_6 rfl ?_
    refine G_bipush 122 dr_cX14_isLetter_7 (by decide +kernel) ?_
    refine G_icmp_gt 16 dr_cX14_isLetter_9 (by decide +kernel) (fun hc670066 => ?_) (fun hc670066 => ?_)
    · have r670067 : 122 < p670061.toInt := gj_ltL hc670066 (show Int32.toInt 122 = 122 by decide)
      have bp670061'' : gB p670061 123 2147483647 := ⟨by omega, by omega⟩
      refine G_iconst 0 dr_cX14_isLetter_16 (by decide +kernel) ?_
      exact G_zretA FieldType.boolean dr_cX14_isLetter_17 rfl rfl (Nat.le_of_ble_eq_true rfl) (Nat.le_of_ble_eq_true rfl) ⟨0, rfl, rfl, (Nat.le_of_ble_eq_true rfl), (Nat.le_of_ble_eq_true rfl), (gB_w (gBl (show Int32.toInt 0 = 0 by decide)) (by decide) (by decide)), (isP_n (by omega)), (fun R c1 c2 c3 => c2 r670065 r670067)⟩
    · have r670068 : p670061.toInt ≤ 122 := gj_nltL hc670066 (show Int32.toInt 122 = 122 by decide)
      have bp670061'' : gB p670061 97 122 := ⟨by omega, by omega⟩
      refine G_iconst 1 dr_cX14_isLetter_12 (by decide +kernel) ?_
      refine G_goto 17 dr_cX14_isLetter_13 (by decide +kernel) ?_
      exact G_zretA FieldType.boolean dr_cX14_isLetter_17 rfl rfl (Nat.le_of_ble_eq_true rfl) (Nat.le_of_ble_eq_true rfl) ⟨1, rfl, rfl, (Nat.le_of_ble_eq_true rfl), (Nat.le_of_ble_eq_true rfl), (gB_w (gBl (show Int32.toInt 1 = 1 by decide)) (by decide) (by decide)), (isP_y (by omega) (by omega)), (fun R c1 c2 c3 => c3 r670065 r670068)⟩
/- tr_RAbstractStringBuilder_append8: a.0...count, a.0.value.#, a.0.value.[] -/
def tr_RAbstractStringBuilder_append8 (a1 : Int32) (a0_count : Int32) (a0_value_v : Nat → Int32) (a0_value_n : Nat) (o1 : Int32) (o2 : Nat) (o3 : Nat → Int32) : Prop := ∀ R : (Int32) → (Nat) → (Nat → Int32) → Prop,
  (∀ (x1 : Int32) (x2 : Nat) (x3 : Nat → Int32) (x4 : Int32) (x5 : Int32) (x6 : Nat → Int32), x1.toInt = a0_count.toInt + 1 → tr_RAbstractStringBuilder_ensureCapacityInternal2 x1 a0_value_v a0_value_n x2 x3 → tr_RStringLatin1_canEncode a1 (1 : Int32) → x4.toInt = a0_count.toInt + 1 → x5 = a1.toInt8.toInt32 → x6 = upd x3 a0_count.toNatClampNeg (vp_nar .byte x5) → R x4 x2 x6) →
  R o1 o2 o3
abbrev ky_670400_AbstractStringBuilder_append : gKey := (cJ5_append_3fe6f, 2, "java/lang/AbstractStringBuilder", (some (FieldType.object "java/lang/AbstractStringBuilder")), [], "append", fun _ _ => True)
def pp_670400_AbstractStringBuilder_append (D : va_G) (I : FieldType → ClassId) (P670387 : List Nat) (F670388 : Nat → va_E) (q670389 : Nat) (q670390 : Nat) (p670391 : Int32) (p670392 : Int32) (p670393 : Int32) (f670394 : Nat → Int32) (n670395 : Nat) : Option Value → va_W → Nat → Nat → Prop := fun r w dc ds => ∃ (P670465 : List Nat) (F670466 : Nat → va_E) (o670461 : Int32) (q670462 : Nat) (n670463 : Nat) (f670464 : Nat → Int32), r = some (.ref q670389) ∧ w = va_pl P670465 F670466 ∧ rSub P670387 P670465 ∧ rFr [q670390, q670389] P670387 F670388 F670466 ∧ F670466 q670389 = .inr (1, [.ref q670462, .int 0, .int p670392, .int o670461]) ∧ F670466 q670462 = .inl (I .byte, n670463, .inl f670464) ∧ q670462 ∈ P670465 ∧ (q670462 = q670390 ∨ q670462 ∉ P670387) ∧ dc ≤ 1 ∧ ds ≤ 2 * (n670463 - n670395) ∧ gB o670461 1 16777216 ∧ gF f670464 (-128) 127 ∧ o670461.toInt = p670393.toInt + 1 ∧ o670461.toInt ≤ (n670463 : Int) ∧ (n670395 : Int) ≤ (n670463 : Int) ∧ (n670463 : Int) ≤ 2 * o670461.toInt + 16 ∧ (n670463 : Int) ≤ 2 * (n670395 : Int) + 2 ∧ tr_RAbstractStringBuilder_append8 p670391 p670393 f670394 n670395 o670461 n670463 f670464
set_option maxRecDepth 100000 in
set_option maxHeartbeats 4000000 in
theorem cp_670400_AbstractStringBuilder_append (l : Launch) (hl0 : l.stackTraces = false) (D : va_G) (I : FieldType → ClassId) (P670387 : List Nat) (F670388 : Nat → va_E) (q670389 : Nat) (q670390 : Nat) (p670391 : Int32) (p670392 : Int32) (p670393 : Int32) (f670394 : Nat → Int32) (n670395 : Nat) (hmq670389 : q670389 ∈ P670387) (hmq670390 : q670390 ∈ P670387) (heq670389 : F670388 q670389 = .inr (1, [.ref q670390, .int 0, .int p670392, .int p670393])) (heq670390 : F670388 q670390 = .inl (I .byte, n670395, .inl f670394)) (bp670391 : gB p670391 0 255) (bp670392 : gB p670392 0 1) (bp670393 : gB p670393 0 16777216) (bf670394 : gF f670394 (-128) 127) (x670396 : (n670395 : Int) ≤ 8388608 - 100000) (x670397 : p670393.toInt ≤ (n670395 : Int)) (x670398 : (n670395 : Int) ≤ 2 * p670393.toInt + 16) (x670399 : ((n670395 : Int) ≤ 16777216)) : CtA (gV D I) l yJ5_append_3fe6f cJ5_append_3fe6f 2 (some (FieldType.object "java/lang/AbstractStringBuilder")) 4 84 1 (4 * n670395 + 8) [.ref q670389, .int p670391] (va_pl P670387 F670388) (pp_670400_AbstractStringBuilder_append D I P670387 F670388 q670389 q670390 p670391 p670392 p670393 f670394 n670395) gNA := by
  refine CtA_ofF hl0 (by decide +kernel) (Nat.le_of_ble_eq_true rfl) ?_
  refine G_aload_n 0 dr_cJ5_append_3fe6f_0 rfl ?_
  refine G_aload_n 0 dr_cJ5_append_3fe6f_1 rfl ?_
  refine Gp_get 3 hmq670389 heq670389 dr_cJ5_append_3fe6f_2 (gk_J4 D I) (Nat.le_of_ble_eq_true rfl) wr_7_64 rfl ?_
  refine G_iconst 1 dr_cJ5_append_3fe6f_5 (by decide +kernel) ?_
  refine G_iadd dr_cJ5_append_3fe6f_6 (G_nam fun z670401 hz670401 => ?_)
  have ez670401 : z670401.toInt = p670393.toInt + 1 := by rw [gI_add hz670401 bp670393 (gBl (show Int32.toInt 1 = 1 by decide)) (by decide) (by decide), show Int32.toInt 1 = 1 from by decide]
  have bz670401 : gB z670401 1 16777217 := gB_add (gI_add hz670401 bp670393 (gBl (show Int32.toInt 1 = 1 by decide)) (by decide) (by decide)) bp670393 (gBl (show Int32.toInt 1 = 1 by decide)) (by decide) (by decide)
  refine Gw_callVB (As := [.int z670401]) (gV_ok D I) (cp_658659_AbstractStringBuilder_ensureCapacityInternal l hl0 D I P670387 F670388 q670389 q670390 z670401 p670392 p670393 f670394 n670395 hmq670389 hmq670390 heq670389 heq670390 ⟨by omega, by omega⟩ bp670392 bp670393 bf670394 (by have qa0 : Int32.toInt 0 = 0 := (by decide); omega) (by have qa0 : Int32.toInt 0 = 0 := (by decide); omega)) dr_cJ5_append_3fe6f_7 ⟨wr_8_4, wr_1_19, wr_8_7, by decide, rfl, (Nat.le_of_ble_eq_true rfl), (Nat.le_of_ble_eq_true rfl)⟩ wr_8_6 wr_s_0 hmq670389 heq670389 rfl (show 0 + 1 ≤ 1 by first | omega | decide) (show 0 + (2 * n670395 + 2 + z670401.toInt.toNat) ≤ (4 * n670395 + 8) by first | omega | decide) (Nat.le_of_ble_eq_true rfl) (fun r670405 w670406 dc670402 ds670403 hp670404 => ?_) (fun _ _ _ _ _ z => z.elim)
  obtain ⟨P670415, F670416, q670407, n670408, f670409, rfl, rfl, hsb670417, hfr670418, he670419, he670420, hm670421, hq670422, hdc, hds, bf670409, x670410, x670411, x670412, x670413, ht670414⟩ := hp670404
  have hm670423 : q670389 ∈ P670415 := hsb670417 q670389 hmq670389
  have hm670424 : q670390 ∈ P670415 := hsb670417 q670390 hmq670390
  have hor670425 : q670407 = q670390 ∨ q670407 ∉ P670387 := hq670422.elim Or.inl (fun n => Or.inr (fun z => n ((rSub_rf (P := P670387)) _ z)))
  have hsb670426 : rSub P670387 P670415 := rSub_tr (rSub_rf (P := P670387)) hsb670417
  have he670427 : F670416 q670390 = .inl (I .byte, n670395, .inl f670394) := (hfr670418 q670390 hmq670390 (nm_c (rn_ao heq670390 heq670389) nm_n)).trans heq670390
  have hfr670428 : rFr [q670389] P670387 F670388 F670416 := rFr_call (rSub_rf (P := P670387)) (rFr_rf (W := []) (P := P670387) (F := F670388)) hfr670418 (fun b hb hn => ⟨nm_n, (nm_c (fun e => hn (e ▸ List.mem_cons_self)) nm_n)⟩)
  change G _ _ _ _ _ _ _ _ _ _ _
  refine G_widen (cs' := 1) (sl' := 2 * (n670408 - n670395)) (by omega) (by omega) ?_
  refine G_aload_n 0 dr_cJ5_append_3fe6f_10 rfl ?_
  refine Gw_callVB (As := []) (gV_ok D I) (cp_658560_AbstractStringBuilder_isLatin1 l hl0 D I P670415 F670416 q670389 q670407 p670392 p670393 f670409 n670408 hm670423 hm670421 he670419 he670420 bp670392 bp670393 bf670409 (by have qa0 : Int32.toInt 0 = 0 := (by decide); omega)) dr_cJ5_append_3fe6f_11 ⟨wr_8_33, wr_1_19, wr_8_37, by decide, rfl, (Nat.le_of_ble_eq_true rfl), (Nat.le_of_ble_eq_true rfl)⟩ wr_8_34 wr_8_36 hm670423 he670419 rfl (show 1 + 0 ≤ 1 by first | omega | decide) (show 2 * (n670408 - n670395) + 0 ≤ (4 * n670395 + 8) by first | omega | decide) (Nat.le_of_ble_eq_true rfl) (fun r670432 w670433 dc670429 ds670430 hp670431 => ?_) (fun _ _ _ _ _ z => z.elim)
  obtain ⟨rfl, rfl, hdc, hds⟩ := hp670431
  change G _ _ _ _ _ _ _ (.int 1 :: _) _ _ _
  refine G_widen (cs' := 1) (sl' := 2 * (n670408 - n670395) + 0) (by omega) (by omega) ?_
  refine G_if_eq 45 dr_cJ5_append_3fe6f_14 (by decide +kernel) (fun hc => absurd hc (by decide)) (fun _ => ?_)
  refine G_iload_n 1 dr_cJ5_append_3fe6f_17 rfl ?_
  refine Gw_callS (As := [.int p670391]) (gV_ok D I) (cp_658569_StringLatin1_canEncode l hl0 D I P670415 F670416 p670391 (gB_w bp670391 (by decide) (by decide))) dr_cJ5_append_3fe6f_18 ⟨wr_8_38, wr_1_28, wr_8_40, by decide, rfl, (Nat.le_of_ble_eq_true rfl), (Nat.le_of_ble_eq_true rfl)⟩ wr_8_39 (show 1 + 0 ≤ 1 by first | omega | decide) (show 2 * (n670408 - n670395) + 0 + 0 ≤ (4 * n670395 + 8) by first | omega | decide) (Nat.le_of_ble_eq_true rfl) (fun r670437 w670438 dc670434 ds670435 hp670436 => ?_) (fun _ _ _ _ _ z => z.elim)
  rcases hp670436 with ⟨rfl, rfl, hdc, hds, r670439, r670440⟩ | ⟨rfl, rfl, hdc, hds, r670441, r670442⟩
  · exact absurd (show False by omega) not_false
  · change G _ _ _ _ _ _ _ (.int 1 :: _) _ _ _
    refine G_widen (cs' := 1) (sl' := 2 * (n670408 - n670395) + 0 + 0) (by omega) (by omega) ?_
    refine G_if_eq 45 dr_cJ5_append_3fe6f_21 (by decide +kernel) (fun hc => absurd hc (by decide)) (fun _ => ?_)
    refine G_aload_n 0 dr_cJ5_append_3fe6f_24 rfl ?_
    refine Gp_get 0 hm670423 he670419 dr_cJ5_append_3fe6f_25 (gk_J4 D I) (Nat.le_of_ble_eq_true rfl) wr_7_60 rfl ?_
    refine G_aload_n 0 dr_cJ5_append_3fe6f_28 rfl ?_
    refine G_dup dr_cJ5_append_3fe6f_29 rfl ?_
    refine Gp_get 3 hm670423 he670419 dr_cJ5_append_3fe6f_30 (gk_J4 D I) (Nat.le_of_ble_eq_true rfl) wr_7_64 rfl ?_
    refine G_dup_x1 dr_cJ5_append_3fe6f_33 rfl rfl ?_
    refine G_iconst 1 dr_cJ5_append_3fe6f_34 (by decide +kernel) ?_
    refine G_iadd dr_cJ5_append_3fe6f_35 (G_nam fun z670444 hz670444 => ?_)
    have ez670444 : z670444.toInt = p670393.toInt + 1 := by rw [gI_add hz670444 bp670393 (gBl (show Int32.toInt 1 = 1 by decide)) (by decide) (by decide), show Int32.toInt 1 = 1 from by decide]
    have bz670444 : gB z670444 1 16777217 := gB_add (gI_add hz670444 bp670393 (gBl (show Int32.toInt 1 = 1 by decide)) (by decide) (by decide)) bp670393 (gBl (show Int32.toInt 1 = 1 by decide)) (by decide) (by decide)
    refine Gp_put 3 hm670423 he670419 dr_cJ5_append_3fe6f_36 (gk_J4 D I) (Nat.le_of_ble_eq_true rfl) wr_7_64 rfl rfl rfl (Nat.le_of_ble_eq_true rfl) (fun F670445 e670446 n670447 => ?_)
    have he670448 : F670445 q670390 = .inl (I .byte, n670395, .inl f670394) := (n670447 q670390 (rn_ao he670427 he670419)).trans he670427
    have he670449 : F670445 q670407 = .inl (I .byte, n670408, .inl f670409) := (n670447 q670407 (rn_ao he670420 he670419)).trans he670420
    have he670450 : F670445 q670389 = .inr (1, [.ref q670407, .int 0, .int p670392, .int z670444]) := e670446
    have hfr670451 : rFr [q670389] P670387 F670388 F670445 := rFr_put' List.mem_cons_self hfr670428 n670447
    refine G_iload_n 1 dr_cJ5_append_3fe6f_39 rfl ?_
    refine G_i2b dr_cJ5_append_3fe6f_40 (G_nam fun z670452 hz670452 => ?_)
    have bz670452 : gB z670452 (-128) 127 := gB_i2b hz670452
    refine Gp_bast 1 hm670421 he670449 dr_cJ5_append_3fe6f_41 rfl (gB_inr (by omega) (by omega)) (fun F670453 e670454 n670455 => ?_)
    obtain ⟨f670456, hf670456⟩ : ∃ z, z = upd f670409 p670393.toNatClampNeg (vp_nar .byte z670452) := ⟨_, rfl⟩
    rw [← hf670456] at e670454
    have he670458 : F670453 q670389 = .inr (1, [.ref q670407, .int 0, .int p670392, .int z670444]) := (n670455 q670389 (rn_oa he670450 he670449)).trans he670450
    have he670459 : F670453 q670407 = .inl (I .byte, n670408, .inl f670456) := e670454
    have hfr670460 : rFr [q670390, q670389] P670387 F670388 F670453 := rFr_eit hor670425 hfr670451 n670455
    have bf670456 : gF f670456 (-128) 127 := gF_upd hf670456 bf670409 gB_byte
    refine G_goto 75 dr_cJ5_append_3fe6f_42 (by decide +kernel) ?_
    refine G_aload_n 0 dr_cJ5_append_3fe6f_75 rfl ?_
    exact G_aretA (FieldType.object "java/lang/AbstractStringBuilder") dr_cJ5_append_3fe6f_76 rfl (by first | exact Or.inl ⟨_, rfl⟩ | exact Or.inr ⟨_, rfl⟩) (Or.inr ⟨_, rfl⟩) (Nat.le_of_ble_eq_true rfl) (show 2 * (n670408 - n670395) + 0 + 0 ≤ (4 * n670395 + 8) by omega) ⟨P670415, F670453, z670444, q670407, n670408, f670456, rfl, rfl, hsb670426, hfr670460, he670458, he670459, hm670421, hor670425, (Nat.le_of_ble_eq_true rfl), (by omega), ⟨by omega, by omega⟩, bf670456, (by have qa0 : Int32.toInt 0 = 0 := (by decide); omega), (by have qa0 : Int32.toInt 0 = 0 := (by decide); omega), (by have qa0 : Int32.toInt 0 = 0 := (by decide); omega), (by have qa0 : Int32.toInt 0 = 0 := (by decide); omega), (by have qa0 : Int32.toInt 0 = 0 := (by decide); omega), (fun R c1 => c1 z670401 n670408 f670409 z670444 z670452 f670456 ez670401 ht670414 r670442 ez670444 hz670452 hf670456)⟩
/- tr_RStringBuilder_append8: a.0...count, a.0.value.#, a.0.value.[] -/
def tr_RStringBuilder_append8 (a1 : Int32) (a0_count : Int32) (a0_value_v : Nat → Int32) (a0_value_n : Nat) (o1 : Int32) (o2 : Nat) (o3 : Nat → Int32) : Prop := ∀ R : (Int32) → (Nat) → (Nat → Int32) → Prop,
  (∀ (x1 : Int32) (x2 : Nat) (x3 : Nat → Int32), gB x1 1 16777216 → tr_RAbstractStringBuilder_append8 a1 a0_count a0_value_v a0_value_n x1 x2 x3 → R x1 x2 x3) →
  R o1 o2 o3
abbrev ky_670386_StringBuilder_append : gKey := (cJ4_append_cf468, 2, "java/lang/StringBuilder", (some (FieldType.object "java/lang/StringBuilder")), [], "append", fun _ _ => True)
def pp_670386_StringBuilder_append (D : va_G) (I : FieldType → ClassId) (P670373 : List Nat) (F670374 : Nat → va_E) (q670375 : Nat) (q670376 : Nat) (p670377 : Int32) (p670378 : Int32) (p670379 : Int32) (f670380 : Nat → Int32) (n670381 : Nat) : Option Value → va_W → Nat → Nat → Prop := fun r w dc ds => ∃ (P670499 : List Nat) (F670500 : Nat → va_E) (o670495 : Int32) (q670496 : Nat) (n670497 : Nat) (f670498 : Nat → Int32), r = some (.ref q670375) ∧ w = va_pl P670499 F670500 ∧ rSub P670373 P670499 ∧ rFr [q670376, q670375] P670373 F670374 F670500 ∧ F670500 q670375 = .inr (1, [.ref q670496, .int 0, .int p670378, .int o670495]) ∧ F670500 q670496 = .inl (I .byte, n670497, .inl f670498) ∧ q670496 ∈ P670499 ∧ (q670496 = q670376 ∨ q670496 ∉ P670373) ∧ dc ≤ 1 ∧ ds ≤ 2 * (n670497 - n670381) ∧ gB o670495 1 16777216 ∧ gF f670498 (-128) 127 ∧ o670495.toInt = p670379.toInt + 1 ∧ o670495.toInt ≤ (n670497 : Int) ∧ (n670381 : Int) ≤ (n670497 : Int) ∧ (n670497 : Int) ≤ 2 * o670495.toInt + 16 ∧ (n670497 : Int) ≤ 2 * (n670381 : Int) + 2 ∧ tr_RStringBuilder_append8 p670377 p670379 f670380 n670381 o670495 n670497 f670498
set_option maxRecDepth 100000 in
set_option maxHeartbeats 4000000 in
theorem cp_670386_StringBuilder_append (l : Launch) (hl0 : l.stackTraces = false) (D : va_G) (I : FieldType → ClassId) (P670373 : List Nat) (F670374 : Nat → va_E) (q670375 : Nat) (q670376 : Nat) (p670377 : Int32) (p670378 : Int32) (p670379 : Int32) (f670380 : Nat → Int32) (n670381 : Nat) (hmq670375 : q670375 ∈ P670373) (hmq670376 : q670376 ∈ P670373) (heq670375 : F670374 q670375 = .inr (1, [.ref q670376, .int 0, .int p670378, .int p670379])) (heq670376 : F670374 q670376 = .inl (I .byte, n670381, .inl f670380)) (bp670377 : gB p670377 0 255) (bp670378 : gB p670378 0 1) (bp670379 : gB p670379 0 16777216) (bf670380 : gF f670380 (-128) 127) (x670382 : (n670381 : Int) ≤ 8388608 - 100000) (x670383 : p670379.toInt ≤ (n670381 : Int)) (x670384 : (n670381 : Int) ≤ 2 * p670379.toInt + 16) (x670385 : ((n670381 : Int) ≤ 16777216)) : CtA (gV D I) l yJ4_append_cf468 cJ4_append_cf468 2 (some (FieldType.object "java/lang/StringBuilder")) 5 105 1 (4 * n670381 + 8) [.ref q670375, .int p670377] (va_pl P670373 F670374) (pp_670386_StringBuilder_append D I P670373 F670374 q670375 q670376 p670377 p670378 p670379 f670380 n670381) gNA := by
  refine CtA_ofF hl0 (by decide +kernel) (Nat.le_of_ble_eq_true rfl) ?_
  refine G_aload_n 0 dr_cJ4_append_cf468_0 rfl ?_
  refine G_iload_n 1 dr_cJ4_append_cf468_1 rfl ?_
  refine Gw_callSU (As := [.int p670377]) (gV_ok D I) (cp_670400_AbstractStringBuilder_append l hl0 D I P670373 F670374 q670375 q670376 p670377 p670378 p670379 f670380 n670381 hmq670375 hmq670376 heq670375 heq670376 bp670377 bp670378 bp670379 bf670380 (by have qa0 : Int32.toInt 0 = 0 := (by decide); omega) (by have qa0 : Int32.toInt 0 = 0 := (by decide); omega) (by have qa0 : Int32.toInt 0 = 0 := (by decide); omega) (by have qa0 : Int32.toInt 0 = 0 := (by decide); omega)) dr_cJ4_append_cf468_2 ⟨wr_8_1, wr_1_19, wr_8_3, by decide, rfl, (Nat.le_of_ble_eq_true rfl), (Nat.le_of_ble_eq_true rfl)⟩ wr_8_2 wr_11_224 wr_7_73 wr_7_44 (by decide) hmq670375 heq670375 rfl (show 0 + 1 ≤ 1 by first | omega | decide) (show 0 + (4 * n670381 + 8) ≤ (4 * n670381 + 8) by first | omega | decide) (Nat.le_of_ble_eq_true rfl) (fun r670470 w670471 dc670467 ds670468 hp670469 => ?_)
  obtain ⟨P670482, F670483, o670472, q670473, n670474, f670475, rfl, rfl, hsb670484, hfr670485, he670486, he670487, hm670488, hq670489, hdc, hds, bo670472, bf670475, x670476, x670477, x670478, x670479, x670480, ht670481⟩ := hp670469
  have hm670490 : q670375 ∈ P670482 := hsb670484 q670375 hmq670375
  have hm670491 : q670376 ∈ P670482 := hsb670484 q670376 hmq670376
  have hor670492 : q670473 = q670376 ∨ q670473 ∉ P670373 := hq670489.elim Or.inl (fun n => Or.inr (fun z => n ((rSub_rf (P := P670373)) _ z)))
  have hsb670493 : rSub P670373 P670482 := rSub_tr (rSub_rf (P := P670373)) hsb670484
  have hfr670494 : rFr [q670376, q670375] P670373 F670374 F670483 := rFr_call (rSub_rf (P := P670373)) (rFr_rf (W := []) (P := P670373) (F := F670374)) hfr670485 (fun b hb hn => ⟨nm_n, (nm_c (fun e => hn (e ▸ List.mem_cons_self)) (nm_c (fun e => hn (e ▸ (List.mem_cons_of_mem _ List.mem_cons_self))) nm_n))⟩)
  change G _ _ _ _ _ _ _ (.ref q670375 :: _) _ _ _
  refine G_widen (cs' := 1) (sl' := 2 * (n670474 - n670381)) (by omega) (by omega) ?_
  refine G_pop dr_cJ4_append_cf468_5 rfl ?_
  refine G_aload_n 0 dr_cJ4_append_cf468_6 rfl ?_
  exact G_aretA (FieldType.object "java/lang/StringBuilder") dr_cJ4_append_cf468_7 rfl (by first | exact Or.inl ⟨_, rfl⟩ | exact Or.inr ⟨_, rfl⟩) (Or.inr ⟨_, rfl⟩) (Nat.le_of_ble_eq_true rfl) (show 2 * (n670474 - n670381) ≤ (4 * n670381 + 8) by omega) ⟨P670482, F670483, o670472, q670473, n670474, f670475, rfl, rfl, hsb670493, hfr670494, he670486, he670487, hm670488, hor670492, (Nat.le_of_ble_eq_true rfl), (by omega), bo670472, bf670475, (by have qa0 : Int32.toInt 0 = 0 := (by decide); omega), (by have qa0 : Int32.toInt 0 = 0 := (by decide); omega), (by have qa0 : Int32.toInt 0 = 0 := (by decide); omega), (by have qa0 : Int32.toInt 0 = 0 := (by decide); omega), (by have qa0 : Int32.toInt 0 = 0 := (by decide); omega), (fun R c1 => c1 o670472 n670474 f670475 bo670472 ht670481)⟩
/- tl_RReader_word_186: a0_at, a3_count, a3_value_n, a3_value_v; out: a0_at, a3_count, a3_value_n, a3_value_v -/
def tl_RReader_word_186 (a0_n : Int32) (a0_t_v : Nat → Int32) (s1 : Int32) (s2 : Int32) (s3 : Nat) (s4 : Nat → Int32) (k : Nat) (e1 : Int32) (e2 : Int32) (e3 : Nat) (e4 : Nat → Int32) : Prop := ∀ R : (Int32) → (Int32) → (Nat) → (Nat → Int32) → Nat → (Int32) → (Int32) → (Nat) → (Nat → Int32) → Prop,
  (∀ (a0_at_1 : Int32) (a3_count_1 : Int32) (a3_value_n_1 : Nat) (a3_value_v_1 : Nat → Int32), gB a0_at_1 0 8192 → gB a3_count_1 0 16777216 → a0_n.toInt ≤ a0_at_1.toInt → R a0_at_1 a3_count_1 a3_value_n_1 a3_value_v_1 240 a0_at_1 a3_count_1 a3_value_n_1 a3_value_v_1) →
  (∀ (a0_at_1 : Int32) (a3_count_1 : Int32) (a3_value_n_1 : Nat) (a3_value_v_1 : Nat → Int32) (x1 : Int32) (x2 : Int32), gB a0_at_1 0 8192 → gB a3_count_1 0 16777216 → a0_at_1.toInt < a0_n.toInt → x1 = a0_t_v a0_at_1.toNatClampNeg → gB x1 (-128) 127 → gB x2 0 1 → tr_RReader_isLetter2 x1 x2 → x2.toInt = 0 → R a0_at_1 a3_count_1 a3_value_n_1 a3_value_v_1 240 a0_at_1 a3_count_1 a3_value_n_1 a3_value_v_1) →
  (∀ (a0_at_1 : Int32) (a3_count_1 : Int32) (a3_value_n_1 : Nat) (a3_value_v_1 : Nat → Int32) (x1 : Int32) (x2 : Int32) (x3 : Int32) (x4 : Int32) (x5 : Nat) (x6 : Nat → Int32) (x7 : Int32) (k : Nat) (e1 : Int32) (e2 : Int32) (e3 : Nat) (e4 : Nat → Int32), gB a0_at_1 0 8192 → gB a3_count_1 0 16777216 → a0_at_1.toInt < a0_n.toInt → x1 = a0_t_v a0_at_1.toNatClampNeg → gB x1 (-128) 127 → gB x2 0 1 → tr_RReader_isLetter2 x1 x2 → x2.toInt ≠ 0 → x3 = (x1.toUInt32 % 65536).toInt32 → gB x4 1 16777216 → tr_RStringBuilder_append8 x3 a3_count_1 a3_value_v_1 a3_value_n_1 x4 x5 x6 → x7.toInt = a0_at_1.toInt + 1 → R x7 x4 x5 x6 k e1 e2 e3 e4 → R a0_at_1 a3_count_1 a3_value_n_1 a3_value_v_1 k e1 e2 e3 e4) →
  R s1 s2 s3 s4 k e1 e2 e3 e4
/- tl_RReader_word_70: l2, a0_at; out: l2, a0_at -/
def tl_RReader_word_70 (a0_n : Int32) (a0_t_v : Nat → Int32) (s1 : Int64) (s2 : Int32) (k : Nat) (e1 : Int64) (e2 : Int32) : Prop := ∀ R : (Int64) → (Int32) → Nat → (Int64) → (Int32) → Prop,
  (∀ (l2_1 : Int64) (a0_at_1 : Int32), gB a0_at_1 0 8192 → a0_n.toInt ≤ a0_at_1.toInt → R l2_1 a0_at_1 136 l2_1 a0_at_1) →
  (∀ (l2_1 : Int64) (a0_at_1 : Int32) (x1 : Int32) (x2 : Int32), gB a0_at_1 0 8192 → a0_at_1.toInt < a0_n.toInt → x1 = a0_t_v a0_at_1.toNatClampNeg → gB x1 (-128) 127 → gB x2 0 1 → tr_RReader_isDigit2 x1 x2 → x2.toInt = 0 → R l2_1 a0_at_1 136 l2_1 a0_at_1) →
  (∀ (l2_1 : Int64) (a0_at_1 : Int32) (x1 : Int32) (x2 : Int32) (x3 : Int64) (x4 : Int64) (x5 : Int64) (x6 : Int64) (x7 : Int64) (x8 : Int32) (k : Nat) (e1 : Int64) (e2 : Int32), gB a0_at_1 0 8192 → a0_at_1.toInt < a0_n.toInt → x1 = a0_t_v a0_at_1.toNatClampNeg → gB x1 (-128) 127 → gB x2 0 1 → tr_RReader_isDigit2 x1 x2 → x2.toInt ≠ 0 → x3 = l2_1 * (10 : Int64) → x4 = x1.toInt64 → x5 = x3 + x4 → x6 = x5 - (48 : Int64) → tr_RMath_min x6 (1000000 : Int64) x7 → x8.toInt = a0_at_1.toInt + 1 → R x7 x8 k e1 e2 → R l2_1 a0_at_1 k e1 e2) →
  R s1 s2 k e1 e2
/- tl_RReader_word_70_2: l2, a0_at; out: l2, a0_at -/
def tl_RReader_word_70_2 (a0_n : Int32) (a0_t_v : Nat → Int32) (s1 : Int64) (s2 : Int32) (k : Nat) (e1 : Int64) (e2 : Int32) : Prop := ∀ R : (Int64) → (Int32) → Nat → (Int64) → (Int32) → Prop,
  (∀ (l2_1 : Int64) (a0_at_1 : Int32), gB a0_at_1 0 8192 → a0_n.toInt ≤ a0_at_1.toInt → R l2_1 a0_at_1 136 l2_1 a0_at_1) →
  (∀ (l2_1 : Int64) (a0_at_1 : Int32) (x1 : Int32) (x2 : Int32), gB a0_at_1 0 8192 → a0_at_1.toInt < a0_n.toInt → x1 = a0_t_v a0_at_1.toNatClampNeg → gB x1 (-128) 127 → gB x2 0 1 → tr_RReader_isDigit2 x1 x2 → x2.toInt = 0 → R l2_1 a0_at_1 136 l2_1 a0_at_1) →
  (∀ (l2_1 : Int64) (a0_at_1 : Int32) (x1 : Int32) (x2 : Int32) (x3 : Int64) (x4 : Int64) (x5 : Int64) (x6 : Int64) (x7 : Int64) (x8 : Int32) (k : Nat) (e1 : Int64) (e2 : Int32), gB a0_at_1 0 8192 → a0_at_1.toInt < a0_n.toInt → x1 = a0_t_v a0_at_1.toNatClampNeg → gB x1 (-128) 127 → gB x2 0 1 → tr_RReader_isDigit2 x1 x2 → x2.toInt ≠ 0 → x3 = l2_1 * (10 : Int64) → x4 = x1.toInt64 → x5 = x3 + x4 → x6 = x5 - (48 : Int64) → tr_RMath_min x6 (1000000 : Int64) x7 → x8.toInt = a0_at_1.toInt + 1 → R x7 x8 k e1 e2 → R l2_1 a0_at_1 k e1 e2) →
  R s1 s2 k e1 e2
/- tr_RReader_word: a.0...at, a.0...kind, a.0...value -/
def tr_RReader_word (a0_n : Int32) (a0_at : Int32) (a0_value : Int32) (a0_t_v : Nat → Int32) (o1 : Int32) (o2 : Int32) (o3 : Int32) (o4 : gTx) : Prop := ∀ R : (Int32) → (Int32) → (Int32) → (gTx) → Prop,
  (∀ (x1 : Int32) (x2 : Int32) (x3 : Int32) (x4 : Nat) (x5 : Nat → Int32) (x6 : Nat) (x7 : Nat → Int32) (x8 : Int32) (x9 : Nat → Int32) (x10 : Int32) (x11 : Nat) (x12 : Nat → Int32) (x13 : Int32) (x14 : Nat) (x15 : Nat → Int32) (x16 : Nat) (x17 : Nat → Int32) (x18 : Int32), x1 = a0_t_v a0_at.toNatClampNeg → gB x1 (-128) 127 → (((∃ (y1 : Int32), x1.toInt = 118 ∧ y1.toInt = a0_at.toInt + 1 ∧ a0_n.toInt ≤ y1.toInt) ∨ (∃ (y1 : Int32) (y2 : Int32) (y3 : Int32), x1.toInt = 118 ∧ y1.toInt = a0_at.toInt + 1 ∧ y1.toInt < a0_n.toInt ∧ y2 = a0_t_v y1.toNatClampNeg ∧ gB y2 (-128) 127 ∧ gB y3 0 1 ∧ tr_RReader_isDigit2 y2 y3 ∧ y3.toInt = 0) ∨ (x1.toInt ≠ 118 ∧ x1.toInt ≠ 98) ∨ (∃ (y1 : Int32), x1.toInt ≠ 118 ∧ x1.toInt = 98 ∧ y1.toInt = a0_at.toInt + 1 ∧ a0_n.toInt ≤ y1.toInt) ∨ (∃ (y1 : Int32) (y2 : Int32) (y3 : Int32), x1.toInt ≠ 118 ∧ x1.toInt = 98 ∧ y1.toInt = a0_at.toInt + 1 ∧ y1.toInt < a0_n.toInt ∧ y2 = a0_t_v y1.toNatClampNeg ∧ gB y2 (-128) 127 ∧ gB y3 0 1 ∧ tr_RReader_isDigit2 y2 y3 ∧ y3.toInt = 0))) → (tl_RReader_word_186 a0_n a0_t_v a0_at (0 : Int32) 16 (fun _ => 0 : Nat → Int32) 240 x2 x3 x4 x5) → tr_RStringBuilder_toString x3 x5 x4 x6 x7 → gB x8 0 16777216 → (tr_RStringBuilder_append4 sb_35 (0 : Int32) (fun _ => 0) 16 x8 x9) → gB x10 0 16777216 → tr_RStringBuilder_append5 x8 x9 16 x7 x6 x10 x11 x12 → gB x13 0 16777216 → tr_RStringBuilder_append6 sb_35 x10 x12 x11 x13 x14 x15 → tr_RStringBuilder_toString x13 x15 x14 x16 x17 → gB x18 (-2147483646) 16777215 → tr_RString_indexOf sb_34 x17 x16 x18 → x18.toInt < 0 → R x2 (6 : Int32) a0_value (0, fun _ => 0)) →
  (∀ (x1 : Int32) (x2 : Int32) (x3 : Int32) (x4 : Nat) (x5 : Nat → Int32) (x6 : Nat) (x7 : Nat → Int32) (x8 : Int32) (x9 : Nat → Int32) (x10 : Int32) (x11 : Nat) (x12 : Nat → Int32) (x13 : Int32) (x14 : Nat) (x15 : Nat → Int32) (x16 : Nat) (x17 : Nat → Int32) (x18 : Int32), x1 = a0_t_v a0_at.toNatClampNeg → gB x1 (-128) 127 → (((∃ (y1 : Int32), x1.toInt = 118 ∧ y1.toInt = a0_at.toInt + 1 ∧ a0_n.toInt ≤ y1.toInt) ∨ (∃ (y1 : Int32) (y2 : Int32) (y3 : Int32), x1.toInt = 118 ∧ y1.toInt = a0_at.toInt + 1 ∧ y1.toInt < a0_n.toInt ∧ y2 = a0_t_v y1.toNatClampNeg ∧ gB y2 (-128) 127 ∧ gB y3 0 1 ∧ tr_RReader_isDigit2 y2 y3 ∧ y3.toInt = 0) ∨ (x1.toInt ≠ 118 ∧ x1.toInt ≠ 98) ∨ (∃ (y1 : Int32), x1.toInt ≠ 118 ∧ x1.toInt = 98 ∧ y1.toInt = a0_at.toInt + 1 ∧ a0_n.toInt ≤ y1.toInt) ∨ (∃ (y1 : Int32) (y2 : Int32) (y3 : Int32), x1.toInt ≠ 118 ∧ x1.toInt = 98 ∧ y1.toInt = a0_at.toInt + 1 ∧ y1.toInt < a0_n.toInt ∧ y2 = a0_t_v y1.toNatClampNeg ∧ gB y2 (-128) 127 ∧ gB y3 0 1 ∧ tr_RReader_isDigit2 y2 y3 ∧ y3.toInt = 0))) → (tl_RReader_word_186 a0_n a0_t_v a0_at (0 : Int32) 16 (fun _ => 0 : Nat → Int32) 240 x2 x3 x4 x5) → tr_RStringBuilder_toString x3 x5 x4 x6 x7 → gB x8 0 16777216 → (tr_RStringBuilder_append4 sb_35 (0 : Int32) (fun _ => 0) 16 x8 x9) → gB x10 0 16777216 → tr_RStringBuilder_append5 x8 x9 16 x7 x6 x10 x11 x12 → gB x13 0 16777216 → tr_RStringBuilder_append6 sb_35 x10 x12 x11 x13 x14 x15 → tr_RStringBuilder_toString x13 x15 x14 x16 x17 → gB x18 (-2147483646) 16777215 → tr_RString_indexOf sb_34 x17 x16 x18 → 0 ≤ x18.toInt → R x2 (1 : Int32) a0_value (x6, x7)) →
  (∀ (x1 : Int32) (x2 : Int32) (x3 : Int32) (x4 : Int32) (x5 : Int64) (x6 : Int32) (x7 : Int32) (x8 : Int32), x1 = a0_t_v a0_at.toNatClampNeg → gB x1 (-128) 127 → x1.toInt = 118 → x2.toInt = a0_at.toInt + 1 → x2.toInt < a0_n.toInt → x3 = a0_t_v x2.toNatClampNeg → gB x3 (-128) 127 → gB x4 0 1 → tr_RReader_isDigit2 x3 x4 → x4.toInt ≠ 0 → tl_RReader_word_70 a0_n a0_t_v (0 : Int64) x2 136 x5 x6 → x7 = x5.toInt32 → x8 = lg_cmp x5 (99 : Int64) → 0 < x8.toInt → R x6 (6 : Int32) x7 (0, fun _ => 0)) →
  (∀ (x1 : Int32) (x2 : Int32) (x3 : Int32) (x4 : Int32) (x5 : Int64) (x6 : Int32) (x7 : Int32) (x8 : Int32), x1 = a0_t_v a0_at.toNatClampNeg → gB x1 (-128) 127 → x1.toInt = 118 → x2.toInt = a0_at.toInt + 1 → x2.toInt < a0_n.toInt → x3 = a0_t_v x2.toNatClampNeg → gB x3 (-128) 127 → gB x4 0 1 → tr_RReader_isDigit2 x3 x4 → x4.toInt ≠ 0 → tl_RReader_word_70 a0_n a0_t_v (0 : Int64) x2 136 x5 x6 → x7 = x5.toInt32 → x8 = lg_cmp x5 (99 : Int64) → x8.toInt ≤ 0 → R x6 (2 : Int32) x7 (0, fun _ => 0)) →
  (∀ (x1 : Int32) (x2 : Int32) (x3 : Int32) (x4 : Int32) (x5 : Int64) (x6 : Int32) (x7 : Int32) (x8 : Int32), x1 = a0_t_v a0_at.toNatClampNeg → gB x1 (-128) 127 → x1.toInt ≠ 118 → x1.toInt = 98 → x2.toInt = a0_at.toInt + 1 → x2.toInt < a0_n.toInt → x3 = a0_t_v x2.toNatClampNeg → gB x3 (-128) 127 → gB x4 0 1 → tr_RReader_isDigit2 x3 x4 → x4.toInt ≠ 0 → tl_RReader_word_70_2 a0_n a0_t_v (0 : Int64) x2 136 x5 x6 → x7 = x5.toInt32 → x8 = lg_cmp x5 (39 : Int64) → 0 < x8.toInt → R x6 (6 : Int32) x7 (0, fun _ => 0)) →
  (∀ (x1 : Int32) (x2 : Int32) (x3 : Int32) (x4 : Int32) (x5 : Int64) (x6 : Int32) (x7 : Int32) (x8 : Int32), x1 = a0_t_v a0_at.toNatClampNeg → gB x1 (-128) 127 → x1.toInt ≠ 118 → x1.toInt = 98 → x2.toInt = a0_at.toInt + 1 → x2.toInt < a0_n.toInt → x3 = a0_t_v x2.toNatClampNeg → gB x3 (-128) 127 → gB x4 0 1 → tr_RReader_isDigit2 x3 x4 → x4.toInt ≠ 0 → tl_RReader_word_70_2 a0_n a0_t_v (0 : Int64) x2 136 x5 x6 → x7 = x5.toInt32 → x8 = lg_cmp x5 (39 : Int64) → x8.toInt ≤ 0 → R x6 (3 : Int32) x7 (0, fun _ => 0)) →
  R o1 o2 o3 o4
abbrev ky_669718_Reader_word : gKey := (cX14_word, 4, "SpillForgeModel$Reader", none, [], "word", fun _ _ => True)
def pp_669718_Reader_word (D : va_G) (I : FieldType → ClassId) (P669695 : List Nat) (F669696 : Nat → va_E) (q669697 : Nat) (q669698 : Nat) (p669699 : Int32) (p669700 : Int32) (p669701 : Int32) (p669702 : Int32) (p669703 : Int32) (p669704 : Int32) (qo669705 : Nat) (p669706 : Int32) (p669707 : Int32) (p669708 : Int32) (qo669709 : Nat) (qo669710 : Nat) (p669711 : Int32) (f669712 : Nat → Int32) : Option Value → va_W → Nat → Nat → Prop := fun r w dc ds => ∃ (P672343 : List Nat) (F672344 : Nat → va_E) (o672339 : Int32) (o672340 : Int32) (o672341 : Int32) (q672342 : Nat) (xt672345 : gTx), r = none ∧ w = va_pl P672343 F672344 ∧ rSub P669695 P672343 ∧ rFr [q669697] P669695 F669696 F672344 ∧ F672344 q669697 = .inr (19, [.ref q669698, .int p669699, .int o672339, .int o672340, .int p669702, .int o672341, .int p669704, .ref q672342, .int p669706, .int p669707, .int p669708, .ref qo669709, .ref qo669710, .int p669711]) ∧ F672344 q669698 = .inl (I .byte, 8192, .inl f669712) ∧ dc ≤ (16 * (o672339.toInt - p669700.toInt)).toNat ∧ ds ≤ (160 * (o672339.toInt - p669700.toInt)).toNat ∧ gB o672339 0 8192 ∧ gB o672340 1 6 ∧ p669700.toInt < o672339.toInt ∧ o672339.toInt ≤ p669699.toInt ∧ tP I P672343 F672344 o672340 q672342 qo669710 qo669709 xt672345 ∧ vP o672340 o672341 ∧ tr_RReader_word p669699 p669700 p669703 f669712 o672339 o672340 o672341 xt672345
set_option maxRecDepth 100000 in
set_option maxHeartbeats 4000000 in
theorem cp_669718_Reader_word (l : Launch) (hl0 : l.stackTraces = false) (D : va_G) (I : FieldType → ClassId) (P669695 : List Nat) (F669696 : Nat → va_E) (q669697 : Nat) (q669698 : Nat) (p669699 : Int32) (p669700 : Int32) (p669701 : Int32) (p669702 : Int32) (p669703 : Int32) (p669704 : Int32) (qo669705 : Nat) (p669706 : Int32) (p669707 : Int32) (p669708 : Int32) (qo669709 : Nat) (qo669710 : Nat) (p669711 : Int32) (f669712 : Nat → Int32) (hmq669697 : q669697 ∈ P669695) (hmq669698 : q669698 ∈ P669695) (heq669697 : F669696 q669697 = .inr (19, [.ref q669698, .int p669699, .int p669700, .int p669701, .int p669702, .int p669703, .int p669704, .ref qo669705, .int p669706, .int p669707, .int p669708, .ref qo669709, .ref qo669710, .int p669711])) (heq669698 : F669696 q669698 = .inl (I .byte, 8192, .inl f669712)) (bp669699 : gB p669699 0 8192) (bp669700 : gB p669700 0 8192) (bp669701 : gB p669701 0 6) (bp669702 : gB p669702 0 8192) (bp669704 : gB p669704 0 6) (bp669706 : gB p669706 (-1) 8192) (bp669707 : gB p669707 0 4) (bp669708 : gB p669708 0 1000000) (bp669711 : gB p669711 0 1000000) (bf669712 : gF f669712 (-128) 127) (x669713 : p669700.toInt ≤ p669699.toInt) (x669714 : p669700.toInt < p669699.toInt) (x669715 : cLt f669712 p669700) (x669716 : qo669710 ∈ P669695) (x669717 : qo669709 ∈ P669695) : CtA (gV D I) l yX14_word cX14_word 4 none 6 132 ((16 * (p669699.toInt - p669700.toInt)).toNat) ((160 * (p669699.toInt - p669700.toInt)).toNat) [.ref q669697] (va_pl P669695 F669696) (pp_669718_Reader_word D I P669695 F669696 q669697 q669698 p669699 p669700 p669701 p669702 p669703 p669704 qo669705 p669706 p669707 p669708 qo669709 qo669710 p669711 f669712) gNA := by
  refine CtA_of hl0 (by decide) (Nat.le_of_ble_eq_true rfl) ?_
  have bp669703 := gB_any p669703
  refine G_aload_n 0 dr_cX14_word_0 rfl ?_
  refine Gp_get 0 hmq669697 heq669697 dr_cX14_word_1 (gk_X14 D I) (Nat.le_of_ble_eq_true rfl) wr_9_36 rfl ?_
  refine G_aload_n 0 dr_cX14_word_4 rfl ?_
  refine Gp_get 2 hmq669697 heq669697 dr_cX14_word_5 (gk_X14 D I) (Nat.le_of_ble_eq_true rfl) wr_9_38 rfl ?_
  refine Gp_bald 1 hmq669698 heq669698 dr_cX14_word_8 rfl (gB_inr (by omega) (by omega)) (G_nam fun z669719 hz669719 => ?_)
  have bz669719 : gB z669719 (-128) 127 := by rw [hz669719]; exact bf669712 _
  refine G_istore_n (L' := [(1, .int z669719), (0, .ref q669697)]) dr_cX14_word_9 (Nat.le_of_ble_eq_true rfl) rfl ?_
  refine G_aload_n 1 dr_cX14_word_10 rfl ?_
  refine G_bipush 6 dr_cX14_word_11 (by decide +kernel) ?_
  refine Gp_put 3 hmq669697 heq669697 dr_cX14_word_13 (gk_X14 D I) (Nat.le_of_ble_eq_true rfl) wr_9_39 rfl rfl rfl (Nat.le_of_ble_eq_true rfl) (fun F669720 e669721 n669722 => ?_)
  have he669723 : F669720 q669698 = .inl (I .byte, 8192, .inl f669712) := (n669722 q669698 (rn_ao heq669698 heq669697)).trans heq669698
  have he669724 : F669720 q669697 = .inr (19, [.ref q669698, .int p669699, .int p669700, .int 6, .int p669702, .int p669703, .int p669704, .ref qo669705, .int p669706, .int p669707, .int p669708, .ref qo669709, .ref qo669710, .int p669711]) := e669721
  have hfr669725 : rFr [q669697] P669695 F669696 F669720 := rFr_put (rFr_rf (W := []) (P := P669695) (F := F669696)) n669722
  have jn669726 : ((∃ (y1 : Int32), z669719.toInt = 118 ∧ y1.toInt = p669700.toInt + 1 ∧ p669699.toInt ≤ y1.toInt) ∨ (∃ (y1 : Int32) (y2 : Int32) (y3 : Int32), z669719.toInt = 118 ∧ y1.toInt = p669700.toInt + 1 ∧ y1.toInt < p669699.toInt ∧ y2 = f669712 y1.toNatClampNeg ∧ gB y2 (-128) 127 ∧ gB y3 0 1 ∧ tr_RReader_isDigit2 y2 y3 ∧ y3.toInt = 0) ∨ (z669719.toInt ≠ 118 ∧ z669719.toInt ≠ 98) ∨ (∃ (y1 : Int32), z669719.toInt ≠ 118 ∧ z669719.toInt = 98 ∧ y1.toInt = p669700.toInt + 1 ∧ p669699.toInt ≤ y1.toInt) ∨ (∃ (y1 : Int32) (y2 : Int32) (y3 : Int32), z669719.toInt ≠ 118 ∧ z669719.toInt = 98 ∧ y1.toInt = p669700.toInt + 1 ∧ y1.toInt < p669699.toInt ∧ y2 = f669712 y1.toNatClampNeg ∧ gB y2 (-128) 127 ∧ gB y3 0 1 ∧ tr_RReader_isDigit2 y2 y3 ∧ y3.toInt = 0)) → G (gV D I) l (gRm 6 132 ((16 * (p669699.toInt - p669700.toInt)).toNat) ((160 * (p669699.toInt - p669700.toInt)).toNat)) (gMA (gV D I) (pp_669718_Reader_word D I P669695 F669696 q669697 q669698 p669699 p669700 p669701 p669702 p669703 p669704 qo669705 p669706 p669707 p669708 qo669709 qo669710 p669711 f669712) gNA ((16 * (p669699.toInt - p669700.toInt)).toNat) ((160 * (p669699.toInt - p669700.toInt)).toNat)) ky_669718_Reader_word 178 [(1, .int z669719), (0, .ref q669697)] [] (va_pl P669695 F669720) 0 0 := by
    intro hJ669727
    refine G_new [.null, .int 0, .int 0, .int 0] dr_cX14_word_178 (gk_J4 D I) wr_7_235 wr_7_44 wr_1_20 (gfs_J4) (show 0 + 1 ≤ ((16 * (p669699.toInt - p669700.toInt)).toNat) by first | omega | decide) (show 0 + 4 ≤ ((160 * (p669699.toInt - p669700.toInt)).toNat) by first | omega | decide) (fun q669728 => Gp_in (fun P669729 F669730 hq669731 hP669732 e669733 n669734 => ?_))
    refine G_widen (cs' := 1) (sl' := 4) (by omega) (by omega) ?_
    have he669735 : F669730 q669697 = .inr (19, [.ref q669698, .int p669699, .int p669700, .int 6, .int p669702, .int p669703, .int p669704, .ref qo669705, .int p669706, .int p669707, .int p669708, .ref qo669709, .ref qo669710, .int p669711]) := (n669734 q669697 (fun h => hq669731 (h ▸ hmq669697))).trans he669724
    have he669736 : F669730 q669698 = .inl (I .byte, 8192, .inl f669712) := (n669734 q669698 (fun h => hq669731 (h ▸ hmq669698))).trans he669723
    have he669737 : F669730 q669728 = .inr (1, [.null, .int 0, .int 0, .int 0]) := e669733
    have hm669738 : q669697 ∈ P669729 := (hP669732 q669697).mpr (Or.inl hmq669697)
    have hm669739 : q669698 ∈ P669729 := (hP669732 q669698).mpr (Or.inl hmq669698)
    have hm669740 : q669728 ∈ P669729 := (hP669732 q669728).mpr (Or.inr rfl)
    have hq669741 : q669728 ∉ P669695 := fun z => hq669731 ((rSub_rf (P := P669695)) q669728 z)
    have hfr669742 : rFr [q669697] P669695 F669696 F669730 := rFr_new (rSub_rf (P := P669695)) hq669731 hfr669725 n669734
    have hsb669743 : rSub P669695 P669729 := rSub_new (rSub_rf (P := P669695)) hP669732
    refine G_dup dr_cX14_word_181 rfl ?_
    refine Gw_callI (As := []) (gV_ok D I) (cp_658952_StringBuilder_init l hl0 D I P669729 F669730 q669728 0 0 hm669740 he669737 (gB_w (gBl (show Int32.toInt 0 = 0 by decide)) (by decide) (by decide)) (gB_w (gBl (show Int32.toInt 0 = 0 by decide)) (by decide) (by decide))) dr_cX14_word_182 ⟨wr_7_236, wr_1_20, wr_7_47, by decide, rfl, (Nat.le_of_ble_eq_true rfl), (Nat.le_of_ble_eq_true rfl)⟩ wr_7_46 rfl (show 1 + 1 ≤ ((16 * (p669699.toInt - p669700.toInt)).toNat) by first | omega | decide) (show 4 + 16 ≤ ((160 * (p669699.toInt - p669700.toInt)).toNat) by first | omega | decide) (Nat.le_of_ble_eq_true rfl) (fun r669747 w669748 dc669744 ds669745 hp669746 => ?_)
    obtain ⟨P669750, F669751, q669749, rfl, rfl, hsb669752, hfr669753, he669754, he669755, hm669756, hq669757, hdc, hds⟩ := hp669746
    have hm669758 : q669697 ∈ P669750 := hsb669752 q669697 hm669738
    have hm669759 : q669698 ∈ P669750 := hsb669752 q669698 hm669739
    have hm669760 : q669728 ∈ P669750 := hsb669752 q669728 hm669740
    have hq669761 : q669749 ∉ P669695 := fun z => hq669757 (hsb669743 q669749 z)
    have hsb669762 : rSub P669695 P669750 := rSub_tr hsb669743 hsb669752
    have he669763 : F669751 q669697 = .inr (19, [.ref q669698, .int p669699, .int p669700, .int 6, .int p669702, .int p669703, .int p669704, .ref qo669705, .int p669706, .int p669707, .int p669708, .ref qo669709, .ref qo669710, .int p669711]) := (hfr669753 q669697 hm669738 (nm_c (fun h => hq669741 (h ▸ hmq669697)) nm_n)).trans he669735
    have he669764 : F669751 q669698 = .inl (I .byte, 8192, .inl f669712) := (hfr669753 q669698 hm669739 (nm_c (fun h => hq669741 (h ▸ hmq669698)) nm_n)).trans he669736
    have hfr669765 : rFr [q669697] P669695 F669696 F669751 := rFr_call hsb669743 hfr669742 hfr669753 (fun b hb hn => ⟨(nm_c (fun e => hn (e ▸ List.mem_cons_self)) nm_n), (nm_c (fun e => hq669741 (e ▸ hb)) nm_n)⟩)
    change G _ _ _ _ _ _ _ _ _ _ _
    refine G_widen (cs' := 2) (sl' := 20) (by omega) (by omega) ?_
    refine G_astore_n (L' := [(2, .ref q669728), (1, .int z669719), (0, .ref q669697)]) dr_cX14_word_185 (Nat.le_of_ble_eq_true rfl) rfl ?_
    refine G_widen (cs' := 2 + (0 : Int).toNat) (sl' := 4 + 2 * 16) (by omega) (by omega) ?_
    have hlp186_671218 : ∀ (n186_671218 : Nat) (P671208 : List Nat) (F671202 : Nat → va_E) (g671196 : Int32) (g671197 : Int32) (q671198 : Nat) (n671199 : Nat) (f671200 : Nat → Int32), gB g671196 0 8192 → gB g671197 0 16777216 → gF f671200 (-128) 127 → rSub P669695 P671208 → rFr [q669697] P669695 F669696 F671202 → q669697 ∈ P671208 → F671202 q669697 = .inr (19, [.ref q669698, .int p669699, .int g671196, .int 6, .int p669702, .int p669703, .int p669704, .ref qo669705, .int p669706, .int p669707, .int p669708, .ref qo669709, .ref qo669710, .int p669711]) → q669698 ∈ P671208 → F671202 q669698 = .inl (I .byte, 8192, .inl f669712) → q669728 ∈ P671208 → F671202 q669728 = .inr (1, [.ref q671198, .int 0, .int 0, .int g671197]) → q671198 ∈ P671208 → F671202 q671198 = .inl (I .byte, n671199, .inl f671200) → q671198 ∉ P669695 → p669700.toInt ≤ g671196.toInt → g671196.toInt ≤ p669699.toInt → g671197.toInt = g671196.toInt - p669700.toInt → g671197.toInt ≤ (n671199 : Int) → (n671199 : Int) ≤ 2 * g671197.toInt + 16 → (∀ (k : Nat) (e1 : Int32) (e2 : Int32) (e3 : Nat) (e4 : Nat → Int32), tl_RReader_word_186 p669699 f669712 g671196 g671197 n671199 f671200 k e1 e2 e3 e4 → tl_RReader_word_186 p669699 f669712 p669700 (0 : Int32) 16 (fun _ => 0 : Nat → Int32) k e1 e2 e3 e4) → ((8193 : Int) - g671196.toInt).toNat < n186_671218 → G (gV D I) l (gRm 6 132 ((16 * (p669699.toInt - p669700.toInt)).toNat) ((160 * (p669699.toInt - p669700.toInt)).toNat)) (gMA (gV D I) (pp_669718_Reader_word D I P669695 F669696 q669697 q669698 p669699 p669700 p669701 p669702 p669703 p669704 qo669705 p669706 p669707 p669708 qo669709 qo669710 p669711 f669712) gNA ((16 * (p669699.toInt - p669700.toInt)).toNat) ((160 * (p669699.toInt - p669700.toInt)).toNat)) ky_669718_Reader_word 186 [(2, .ref q669728), (1, .int z669719), (0, .ref q669697)] [] (va_pl P671208 F671202) (2 + (g671197.toInt : Int).toNat) (4 + 2 * n671199) := by
      intro n186_671218
      induction n186_671218 with
      | zero => intro P671208 F671202 g671196 g671197 q671198 n671199 f671200 bg671196 bg671197 bf671200 hsb671213 hfr671207 hm671209 he671203 hm671210 he671204 hm671211 he671205 hm671212 he671206 hq671201 x671214 x671215 x671216 x671217 x671218 kt186_671218 hm186_671218; exact absurd hm186_671218 (Nat.not_lt_zero _)
      | succ n186_671218 ih186_671218 =>
        intro P671208 F671202 g671196 g671197 q671198 n671199 f671200 bg671196 bg671197 bf671200 hsb671213 hfr671207 hm671209 he671203 hm671210 he671204 hm671211 he671205 hm671212 he671206 hq671201 x671214 x671215 x671216 x671217 x671218 kt186_671218 hm186_671218
        refine G_aload_n 2 dr_cX14_word_186 rfl ?_
        refine Gp_get 2 hm671209 he671203 dr_cX14_word_187 (gk_X14 D I) (Nat.le_of_ble_eq_true rfl) wr_9_38 rfl ?_
        refine G_aload_n 2 dr_cX14_word_190 rfl ?_
        refine Gp_get 1 hm671209 he671203 dr_cX14_word_191 (gk_X14 D I) (Nat.le_of_ble_eq_true rfl) wr_9_37 rfl ?_
        refine G_icmp_ge 240 dr_cX14_word_194 (by decide +kernel) (fun hc671219 => ?_) (fun hc671219 => ?_)
        · have r671220 : p669699.toInt ≤ g671196.toInt := gC_le hc671219
          have hx671221 : tl_RReader_word_186 p669699 f669712 p669700 (0 : Int32) 16 (fun _ => 0 : Nat → Int32) 240 g671196 g671197 n671199 f671200 := kt186_671218 240 g671196 g671197 n671199 f671200 (fun R c1 c2 c3 => c1 g671196 g671197 n671199 f671200 bg671196 bg671197 r671220)
          have x671222 : p669700.toInt < g671196.toInt := by first | omega | exact cLt_lt x669715 (by assumption) (isP_0 (by assumption) (by omega)) (by omega)
          refine G_aload_n 2 dr_cX14_word_240 rfl ?_
          refine G_aload_n 0 dr_cX14_word_241 rfl ?_
          refine Gw_callV (As := []) (gV_ok D I) (cp_659727_StringBuilder_toString l hl0 D I P671208 F671202 q669728 q671198 0 g671197 f671200 n671199 hm671211 hm671212 he671205 he671206 (gB_w (gBl (show Int32.toInt 0 = 0 by decide)) (by decide) (by decide)) bg671197 bf671200 (by have qa0 : Int32.toInt 0 = 0 := (by decide); have qa1 : Int32.toInt 6 = 6 := (by decide); omega) (by have qa0 : Int32.toInt 0 = 0 := (by decide); have qa1 : Int32.toInt 6 = 6 := (by decide); omega)) dr_cX14_word_242 ⟨wr_8_66, wr_1_20, wr_8_69, by decide, rfl, (Nat.le_of_ble_eq_true rfl), (Nat.le_of_ble_eq_true rfl)⟩ wr_8_67 wr_8_68 hm671211 he671205 rfl (show 2 + (g671197.toInt : Int).toNat + 2 ≤ ((16 * (p669699.toInt - p669700.toInt)).toNat) by first | omega | decide) (show 4 + 2 * n671199 + (g671197.toInt.toNat + 4) ≤ ((160 * (p669699.toInt - p669700.toInt)).toNat) by first | omega | decide) (Nat.le_of_ble_eq_true rfl) (fun r671226 w671227 dc671223 ds671224 hp671225 => ?_) (fun _ _ _ _ _ z => z.elim)
          obtain ⟨P671235, F671236, q671228, q671229, n671230, f671231, rfl, rfl, hsb671237, hfr671238, he671239, he671240, he671241, he671242, hm671243, hq671244, hm671245, hq671246, hdc, hds, bf671231, x671232, x671233, ht671234⟩ := hp671225
          have hm671247 : q669697 ∈ P671235 := hsb671237 q669697 hm671209
          have hm671248 : q669698 ∈ P671235 := hsb671237 q669698 hm671210
          have hm671249 : q669728 ∈ P671235 := hsb671237 q669728 hm671211
          have hm671250 : q671198 ∈ P671235 := hsb671237 q671198 hm671212
          have hq671251 : q671228 ∉ P669695 := fun z => hq671244 (hsb671213 q671228 z)
          have hq671252 : q671229 ∉ P669695 := fun z => hq671246 (hsb671213 q671229 z)
          have hsb671253 : rSub P669695 P671235 := rSub_tr hsb671213 hsb671237
          have he671254 : F671236 q669697 = .inr (19, [.ref q669698, .int p669699, .int g671196, .int 6, .int p669702, .int p669703, .int p669704, .ref qo669705, .int p669706, .int p669707, .int p669708, .ref qo669709, .ref qo669710, .int p669711]) := (hfr671238 q669697 hm671209 nm_n).trans he671203
          have he671255 : F671236 q669698 = .inl (I .byte, 8192, .inl f669712) := (hfr671238 q669698 hm671210 nm_n).trans he671204
          have hfr671256 : rFr [q669697] P669695 F669696 F671236 := rFr_call hsb671213 hfr671207 hfr671238 (fun b hb hn => ⟨(nm_c (fun e => hn (e ▸ List.mem_cons_self)) nm_n), nm_n⟩)
          have hne671257 : q671198 ≠ q671229 := fun h => hq671246 (h ▸ hm671212)
          change G _ _ _ _ _ _ _ (.ref q671228 :: _) _ _ _
          refine G_widen (cs' := 2 + (g671197.toInt : Int).toNat + 2) (sl' := 4 + 2 * n671199 + (g671197.toInt.toNat + 4)) (by omega) (by omega) ?_
          have x671258 : (n671230 : Int) = g671196.toInt - p669700.toInt := by omega
          clear he669723 he669724 hfr669725 he669735 he669736 he669737 hm669738 hm669739 hm669740 hfr669742 hsb669743 hsb669752 hfr669753 he669754 he669755 hm669756 hq669757 hm669758 hm669759 hm669760 hq669761 hsb669762 he669763 he669764 hfr669765 hsb671237 hfr671238 hq671244 hq671246; try clear r669747; try clear w669748; try clear dc669744; try clear ds669745; try clear hp669746; try clear r671226; try clear w671227; try clear dc671223; try clear ds671224; try clear hp671225
          refine Gp_put 7 hm671247 he671254 dr_cX14_word_245 (gk_X14 D I) (Nat.le_of_ble_eq_true rfl) wr_9_43 rfl rfl rfl (Nat.le_of_ble_eq_true rfl) (fun F671259 e671260 n671261 => ?_)
          have he671262 : F671259 q669698 = .inl (I .byte, 8192, .inl f669712) := (n671261 q669698 (rn_ao he671255 he671254)).trans he671255
          have he671263 : F671259 q671228 = .inr (0, [.ref q671229, .int 0, .int 0, .int 0]) := (n671261 q671228 (fun h => hq671251 (h ▸ hmq669697))).trans he671239
          have he671264 : F671259 q669728 = .inr (1, [.ref q671198, .int 0, .int 0, .int g671197]) := (n671261 q669728 (fun h => hq669741 (h ▸ hmq669697))).trans he671240
          have he671265 : F671259 q671198 = .inl (I .byte, n671199, .inl f671200) := (n671261 q671198 (fun h => hq671201 (h ▸ hmq669697))).trans he671241
          have he671266 : F671259 q671229 = .inl (I .byte, n671230, .inl f671231) := (n671261 q671229 (fun h => hq671252 (h ▸ hmq669697))).trans he671242
          have he671267 : F671259 q669697 = .inr (19, [.ref q669698, .int p669699, .int g671196, .int 6, .int p669702, .int p669703, .int p669704, .ref q671228, .int p669706, .int p669707, .int p669708, .ref qo669709, .ref qo669710, .int p669711]) := e671260
          have hfr671268 : rFr [q669697] P669695 F669696 F671259 := rFr_put' List.mem_cons_self hfr671256 n671261
          refine G_widen (cs' := (4 + (g671196.toInt - p669700.toInt) : Int).toNat) (sl' := (40 + 5 * (g671196.toInt - p669700.toInt) : Int).toNat) (by omega) (by omega) ?_
          clear he671239 he671240 he671241 he671242 he671254 he671255 hfr671256
          refine G_ldcK (a := D.2 1000 34) dr_cX14_word_248 (fun _ _ _ h => gx_vk 34 rfl rfl h) ?_
          have hl34_671268 : (sb_34.length : Int) = 25 := rfl
          refine G_new [.null, .int 0, .int 0, .int 0] dr_cX14_word_250 (gk_J4 D I) wr_7_235 wr_7_44 wr_1_20 (gfs_J4) (show (4 + (g671196.toInt - p669700.toInt) : Int).toNat + 1 ≤ ((16 * (p669699.toInt - p669700.toInt)).toNat) by first | omega | decide) (show (40 + 5 * (g671196.toInt - p669700.toInt) : Int).toNat + 4 ≤ ((160 * (p669699.toInt - p669700.toInt)).toNat) by first | omega | decide) (fun q671270 => Gp_in (fun P671271 F671272 hq671273 hP671274 e671275 n671276 => ?_))
          refine G_widen (cs' := (4 + (g671196.toInt - p669700.toInt) : Int).toNat + 1) (sl' := (40 + 5 * (g671196.toInt - p669700.toInt) : Int).toNat + 4) (by omega) (by omega) ?_
          have he671277 : F671272 q669697 = .inr (19, [.ref q669698, .int p669699, .int g671196, .int 6, .int p669702, .int p669703, .int p669704, .ref q671228, .int p669706, .int p669707, .int p669708, .ref qo669709, .ref qo669710, .int p669711]) := (n671276 q669697 (fun h => hq671273 (h ▸ hm671247))).trans he671267
          have he671278 : F671272 q669698 = .inl (I .byte, 8192, .inl f669712) := (n671276 q669698 (fun h => hq671273 (h ▸ hm671248))).trans he671262
          have he671279 : F671272 q671228 = .inr (0, [.ref q671229, .int 0, .int 0, .int 0]) := (n671276 q671228 (fun h => hq671273 (h ▸ hm671243))).trans he671263
          have he671280 : F671272 q669728 = .inr (1, [.ref q671198, .int 0, .int 0, .int g671197]) := (n671276 q669728 (fun h => hq671273 (h ▸ hm671249))).trans he671264
          have he671281 : F671272 q671198 = .inl (I .byte, n671199, .inl f671200) := (n671276 q671198 (fun h => hq671273 (h ▸ hm671250))).trans he671265
          have he671282 : F671272 q671229 = .inl (I .byte, n671230, .inl f671231) := (n671276 q671229 (fun h => hq671273 (h ▸ hm671245))).trans he671266
          have he671283 : F671272 q671270 = .inr (1, [.null, .int 0, .int 0, .int 0]) := e671275
          have hm671284 : q669697 ∈ P671271 := (hP671274 q669697).mpr (Or.inl hm671247)
          have hm671285 : q669698 ∈ P671271 := (hP671274 q669698).mpr (Or.inl hm671248)
          have hm671286 : q669728 ∈ P671271 := (hP671274 q669728).mpr (Or.inl hm671249)
          have hm671287 : q671198 ∈ P671271 := (hP671274 q671198).mpr (Or.inl hm671250)
          have hm671288 : q671228 ∈ P671271 := (hP671274 q671228).mpr (Or.inl hm671243)
          have hm671289 : q671229 ∈ P671271 := (hP671274 q671229).mpr (Or.inl hm671245)
          have hm671290 : q671270 ∈ P671271 := (hP671274 q671270).mpr (Or.inr rfl)
          have hq671291 : q671270 ∉ P669695 := fun z => hq671273 (hsb671253 q671270 z)
          have hfr671292 : rFr [q669697] P669695 F669696 F671272 := rFr_new hsb671253 hq671273 hfr671268 n671276
          have hsb671293 : rSub P669695 P671271 := rSub_new hsb671253 hP671274
          have hne671294 : q669728 ≠ q671270 := fun h => hq671273 (h ▸ hm671249)
          refine G_dup dr_cX14_word_253 rfl ?_
          refine Gw_callI (As := []) (gV_ok D I) (cp_658952_StringBuilder_init l hl0 D I P671271 F671272 q671270 0 0 hm671290 he671283 (gB_w (gBl (show Int32.toInt 0 = 0 by decide)) (by decide) (by decide)) (gB_w (gBl (show Int32.toInt 0 = 0 by decide)) (by decide) (by decide))) dr_cX14_word_254 ⟨wr_7_236, wr_1_20, wr_7_47, by decide, rfl, (Nat.le_of_ble_eq_true rfl), (Nat.le_of_ble_eq_true rfl)⟩ wr_7_46 rfl (show (4 + (g671196.toInt - p669700.toInt) : Int).toNat + 1 + 1 ≤ ((16 * (p669699.toInt - p669700.toInt)).toNat) by first | omega | decide) (show (40 + 5 * (g671196.toInt - p669700.toInt) : Int).toNat + 4 + 16 ≤ ((160 * (p669699.toInt - p669700.toInt)).toNat) by first | omega | decide) (Nat.le_of_ble_eq_true rfl) (fun r671298 w671299 dc671295 ds671296 hp671297 => ?_)
          obtain ⟨P671301, F671302, q671300, rfl, rfl, hsb671303, hfr671304, he671305, he671306, hm671307, hq671308, hdc, hds⟩ := hp671297
          have hm671309 : q669697 ∈ P671301 := hsb671303 q669697 hm671284
          have hm671310 : q669698 ∈ P671301 := hsb671303 q669698 hm671285
          have hm671311 : q669728 ∈ P671301 := hsb671303 q669728 hm671286
          have hm671312 : q671198 ∈ P671301 := hsb671303 q671198 hm671287
          have hm671313 : q671228 ∈ P671301 := hsb671303 q671228 hm671288
          have hm671314 : q671229 ∈ P671301 := hsb671303 q671229 hm671289
          have hm671315 : q671270 ∈ P671301 := hsb671303 q671270 hm671290
          have hq671316 : q671300 ∉ P669695 := fun z => hq671308 (hsb671293 q671300 z)
          have hsb671317 : rSub P669695 P671301 := rSub_tr hsb671293 hsb671303
          have he671318 : F671302 q669697 = .inr (19, [.ref q669698, .int p669699, .int g671196, .int 6, .int p669702, .int p669703, .int p669704, .ref q671228, .int p669706, .int p669707, .int p669708, .ref qo669709, .ref qo669710, .int p669711]) := (hfr671304 q669697 hm671284 (nm_c (fun h => hq671291 (h ▸ hmq669697)) nm_n)).trans he671277
          have he671319 : F671302 q669698 = .inl (I .byte, 8192, .inl f669712) := (hfr671304 q669698 hm671285 (nm_c (fun h => hq671291 (h ▸ hmq669698)) nm_n)).trans he671278
          have he671320 : F671302 q671228 = .inr (0, [.ref q671229, .int 0, .int 0, .int 0]) := (hfr671304 q671228 hm671288 (nm_c (rn_oo he671279 he671283 (by decide)) nm_n)).trans he671279
          have he671321 : F671302 q669728 = .inr (1, [.ref q671198, .int 0, .int 0, .int g671197]) := (hfr671304 q669728 hm671286 (nm_c hne671294 nm_n)).trans he671280
          have he671322 : F671302 q671198 = .inl (I .byte, n671199, .inl f671200) := (hfr671304 q671198 hm671287 (nm_c (rn_ao he671281 he671283) nm_n)).trans he671281
          have he671323 : F671302 q671229 = .inl (I .byte, n671230, .inl f671231) := (hfr671304 q671229 hm671289 (nm_c (rn_ao he671282 he671283) nm_n)).trans he671282
          have hfr671324 : rFr [q669697] P669695 F669696 F671302 := rFr_call hsb671293 hfr671292 hfr671304 (fun b hb hn => ⟨(nm_c (fun e => hn (e ▸ List.mem_cons_self)) nm_n), (nm_c (fun e => hq671291 (e ▸ hb)) nm_n)⟩)
          have hne671325 : q671198 ≠ q671300 := fun h => hq671308 (h ▸ hm671287)
          have hne671326 : q671229 ≠ q671300 := fun h => hq671308 (h ▸ hm671289)
          change G _ _ _ _ _ _ _ _ _ _ _
          refine G_widen (cs' := (4 + (g671196.toInt - p669700.toInt) : Int).toNat + 1 + 1) (sl' := (40 + 5 * (g671196.toInt - p669700.toInt) : Int).toNat + 4 + 16) (by omega) (by omega) ?_
          refine G_ldcK (a := D.2 1000 35) dr_cX14_word_257 (fun _ _ _ h => gx_vk 35 rfl rfl h) ?_
          have hl35_671326 : (sb_35.length : Int) = 1 := rfl
          refine Gw_callV (As := [.ref (D.2 1000 35)]) (gV_ok D I) (cp_659254_StringBuilder_append l hl0 D I P671301 F671302 q671270 q671300 (D.2 1000 35) (D.2 1001 35) sb_35 0 0 (fun _ => 0) 16 hm671315 hm671307 he671305 he671306 (gx_sc 35 rfl rfl) (by omega) (by decide +kernel) (gB_w (gBl (show Int32.toInt 0 = 0 by decide)) (by decide) (by decide)) (gB_w (gBl (show Int32.toInt 0 = 0 by decide)) (by decide) (by decide)) (gF_w gF_0 (by decide) (by decide)) (by have qa0 : Int32.toInt 0 = 0 := (by decide); have qa1 : Int32.toInt 6 = 6 := (by decide); omega) (by have qa0 : Int32.toInt 0 = 0 := (by decide); have qa1 : Int32.toInt 6 = 6 := (by decide); omega)) dr_cX14_word_259 ⟨wr_8_195, wr_1_20, wr_8_143, by decide, rfl, (Nat.le_of_ble_eq_true rfl), (Nat.le_of_ble_eq_true rfl)⟩ wr_8_141 wr_8_142 hm671315 he671305 rfl (show (4 + (g671196.toInt - p669700.toInt) : Int).toNat + 1 + 1 + 0 ≤ ((16 * (p669699.toInt - p669700.toInt)).toNat) by first | omega | decide) (show (40 + 5 * (g671196.toInt - p669700.toInt) : Int).toNat + 4 + 16 + 0 ≤ ((160 * (p669699.toInt - p669700.toInt)).toNat) by first | omega | decide) (Nat.le_of_ble_eq_true rfl) (fun r671331 w671332 dc671328 ds671329 hp671330 => ?_) (fun _ _ _ _ _ z => z.elim)
          obtain ⟨F671339, o671333, f671334, rfl, rfl, hfr671341, he671342, he671343, hdc, hds, bo671333, bf671334, x671335, x671336, x671337, ht671338⟩ := hp671330
          have he671344 : F671339 q669697 = .inr (19, [.ref q669698, .int p669699, .int g671196, .int 6, .int p669702, .int p669703, .int p669704, .ref q671228, .int p669706, .int p669707, .int p669708, .ref qo669709, .ref qo669710, .int p669711]) := (hfr671341 q669697 hm671309 (nm_c (fun h => hq671291 (h ▸ hmq669697)) (nm_c (fun h => hq671316 (h ▸ hmq669697)) nm_n))).trans he671318
          have he671345 : F671339 q669698 = .inl (I .byte, 8192, .inl f669712) := (hfr671341 q669698 hm671310 (nm_c (fun h => hq671291 (h ▸ hmq669698)) (nm_c (fun h => hq671316 (h ▸ hmq669698)) nm_n))).trans he671319
          have he671346 : F671339 q671228 = .inr (0, [.ref q671229, .int 0, .int 0, .int 0]) := (hfr671341 q671228 hm671313 (nm_c (rn_oo he671320 he671305 (by decide)) (nm_c (rn_oa he671320 he671306) nm_n))).trans he671320
          have he671347 : F671339 q669728 = .inr (1, [.ref q671198, .int 0, .int 0, .int g671197]) := (hfr671341 q669728 hm671311 (nm_c hne671294 (nm_c (rn_oa he671321 he671306) nm_n))).trans he671321
          have he671348 : F671339 q671198 = .inl (I .byte, n671199, .inl f671200) := (hfr671341 q671198 hm671312 (nm_c (rn_ao he671322 he671305) (nm_c hne671325 nm_n))).trans he671322
          have he671349 : F671339 q671229 = .inl (I .byte, n671230, .inl f671231) := (hfr671341 q671229 hm671314 (nm_c (rn_ao he671323 he671305) (nm_c hne671326 nm_n))).trans he671323
          have hfr671350 : rFr [q669697] P669695 F669696 F671339 := rFr_call hsb671317 hfr671324 hfr671341 (fun b hb hn => ⟨(nm_c (fun e => hn (e ▸ List.mem_cons_self)) nm_n), (nm_c (fun e => hq671291 (e ▸ hb)) (nm_c (fun e => hq671316 (e ▸ hb)) nm_n))⟩)
          rw [show Int32.toInt 0 = 0 from by decide] at x671335
          have bo671333' : gB o671333 1 1 := ⟨by omega, by omega⟩
          rw [show Int32.toInt 0 = 0 from by decide] at x671336
          rw [show Int32.toInt 0 = 0 from by decide] at x671337
          change G _ _ _ _ _ _ _ (.ref q671270 :: _) _ _ _
          refine G_widen (cs' := (4 + (g671196.toInt - p669700.toInt) : Int).toNat + 1 + 1 + 0) (sl' := (40 + 5 * (g671196.toInt - p669700.toInt) : Int).toNat + 4 + 16 + 0) (by omega) (by omega) ?_
          refine G_aload_n 2 dr_cX14_word_262 rfl ?_
          clear hm671243 hm671245 hm671247 hm671248 hm671249 hm671250 hsb671253 he671262 he671263 he671264 he671265 he671266 he671267 hfr671268 he671277 he671278 he671279 he671280 he671281 he671282 he671283 hm671284 hm671285 hm671286 hm671287 hm671288 hm671289 hm671290 hfr671292 hsb671293 hsb671303 hfr671304 he671305 he671306 hq671308 he671318 he671319 he671320 he671321 he671322 he671323 hfr671324 hfr671341; try clear r671298; try clear w671299; try clear dc671295; try clear ds671296; try clear hp671297; try clear r671331; try clear w671332; try clear dc671328; try clear ds671329; try clear hp671330
          refine Gp_get 7 hm671309 he671344 dr_cX14_word_263 (gk_X14 D I) (Nat.le_of_ble_eq_true rfl) wr_9_43 rfl ?_
          refine Gw_callV (As := [.ref q671228]) (gV_ok D I) (cp_659454_StringBuilder_append l hl0 D I P671301 F671339 q671270 q671228 q671300 q671229 0 o671333 0 0 f671334 16 f671231 n671230 hm671315 hm671313 hm671307 hm671314 he671342 he671346 he671343 he671349 (Ne.symm hne671326) (gB_w (gBl (show Int32.toInt 0 = 0 by decide)) (by decide) (by decide)) (gB_w bo671333' (by decide) (by decide)) (gB_w (gBl (show Int32.toInt 0 = 0 by decide)) (by decide) (by decide)) bf671334 bf671231 (by have qa0 : Int32.toInt 0 = 0 := (by decide); have qa1 : Int32.toInt 6 = 6 := (by decide); omega) (by have qa0 : Int32.toInt 0 = 0 := (by decide); have qa1 : Int32.toInt 6 = 6 := (by decide); omega) (by have qa0 : Int32.toInt 0 = 0 := (by decide); have qa1 : Int32.toInt 6 = 6 := (by decide); omega) (by have qa0 : Int32.toInt 0 = 0 := (by decide); have qa1 : Int32.toInt 6 = 6 := (by decide); omega) (by have qa0 : Int32.toInt 0 = 0 := (by decide); have qa1 : Int32.toInt 6 = 6 := (by decide); omega)) dr_cX14_word_266 ⟨wr_8_195, wr_1_20, wr_8_143, by decide, rfl, (Nat.le_of_ble_eq_true rfl), (Nat.le_of_ble_eq_true rfl)⟩ wr_8_141 wr_8_142 hm671315 he671342 rfl (show (4 + (g671196.toInt - p669700.toInt) : Int).toNat + 1 + 1 + 0 + 1 ≤ ((16 * (p669699.toInt - p669700.toInt)).toNat) by first | omega | decide) (show (40 + 5 * (g671196.toInt - p669700.toInt) : Int).toNat + 4 + 16 + 0 + (4 * 16 + 4 + 2 * n671230) ≤ ((160 * (p669699.toInt - p669700.toInt)).toNat) by first | omega | decide) (Nat.le_of_ble_eq_true rfl) (fun r671354 w671355 dc671351 ds671352 hp671353 => ?_) (fun _ _ _ _ _ z => z.elim)
          obtain ⟨P671366, F671367, o671356, q671357, n671358, f671359, rfl, rfl, hsb671368, hfr671369, he671370, he671371, he671372, he671373, hm671374, hq671375, hdc, hds, bo671356, bf671359, x671360, x671361, x671362, x671363, x671364, ht671365⟩ := hp671353
          have hm671376 : q669697 ∈ P671366 := hsb671368 q669697 hm671309
          have hm671377 : q669698 ∈ P671366 := hsb671368 q669698 hm671310
          have hm671378 : q669728 ∈ P671366 := hsb671368 q669728 hm671311
          have hm671379 : q671198 ∈ P671366 := hsb671368 q671198 hm671312
          have hm671380 : q671228 ∈ P671366 := hsb671368 q671228 hm671313
          have hm671381 : q671229 ∈ P671366 := hsb671368 q671229 hm671314
          have hm671382 : q671270 ∈ P671366 := hsb671368 q671270 hm671315
          have hm671383 : q671300 ∈ P671366 := hsb671368 q671300 hm671307
          have hq671384 : q671357 ∉ P669695 := fun z => hq671375.elim (fun e => hq671316 (e ▸ z)) (fun n => n (hsb671317 _ z))
          have hsb671385 : rSub P669695 P671366 := rSub_tr hsb671317 hsb671368
          have he671386 : F671367 q669697 = .inr (19, [.ref q669698, .int p669699, .int g671196, .int 6, .int p669702, .int p669703, .int p669704, .ref q671228, .int p669706, .int p669707, .int p669708, .ref qo669709, .ref qo669710, .int p669711]) := (hfr671369 q669697 hm671309 (nm_c (fun h => hq671291 (h ▸ hmq669697)) (nm_c (fun h => hq671316 (h ▸ hmq669697)) nm_n))).trans he671344
          have he671387 : F671367 q669698 = .inl (I .byte, 8192, .inl f669712) := (hfr671369 q669698 hm671310 (nm_c (fun h => hq671291 (h ▸ hmq669698)) (nm_c (fun h => hq671316 (h ▸ hmq669698)) nm_n))).trans he671345
          have he671388 : F671367 q669728 = .inr (1, [.ref q671198, .int 0, .int 0, .int g671197]) := (hfr671369 q669728 hm671311 (nm_c hne671294 (nm_c (rn_oa he671347 he671343) nm_n))).trans he671347
          have he671389 : F671367 q671198 = .inl (I .byte, n671199, .inl f671200) := (hfr671369 q671198 hm671312 (nm_c (rn_ao he671348 he671342) (nm_c hne671325 nm_n))).trans he671348
          have hfr671390 : rFr [q669697] P669695 F669696 F671367 := rFr_call hsb671317 hfr671350 hfr671369 (fun b hb hn => ⟨(nm_c (fun e => hn (e ▸ List.mem_cons_self)) nm_n), (nm_c (fun e => hq671291 (e ▸ hb)) (nm_c (fun e => hq671316 (e ▸ hb)) nm_n))⟩)
          have hne671391 : q671198 ≠ q671357 := fun e => hq671375.elim (fun e2 => hne671325 (e.trans e2)) (fun n => n (e ▸ hm671312))
          have hne671392 : q671229 ≠ q671357 := fun e => hq671375.elim (fun e2 => hne671326 (e.trans e2)) (fun n => n (e ▸ hm671314))
          have bo671356' : gB o671356 1 16777216 := ⟨by omega, by omega⟩
          change G _ _ _ _ _ _ _ (.ref q671270 :: _) _ _ _
          refine G_widen (cs' := (4 + (g671196.toInt - p669700.toInt) : Int).toNat + 1 + 1 + 0 + 1) (sl' := (40 + 5 * (g671196.toInt - p669700.toInt) : Int).toNat + 4 + 16 + 0 + (2 * (n671358 - 16))) (by omega) (by omega) ?_
          refine G_widen (cs' := (7 + (g671196.toInt - p669700.toInt) : Int).toNat) (sl' := (60 + 10 * (g671196.toInt - p669700.toInt) : Int).toNat) (by omega) (by omega) ?_
          clear hm671307 hm671309 hm671310 hm671311 hm671312 hm671313 hm671314 hm671315 hq671316 hsb671317 hne671325 hne671326 he671342 he671343 bf671334 he671344 he671345 he671346 he671347 he671348 he671349 hfr671350 hsb671368 hfr671369 hq671375 hm671383; try clear x671336; try clear x671337; try clear r671354; try clear w671355; try clear dc671351; try clear ds671352; try clear hp671353
          refine G_ldcK (a := D.2 1000 35) dr_cX14_word_269 (fun _ _ _ h => gx_vk 35 rfl rfl h) ?_
          have hl35_671392 : (sb_35.length : Int) = 1 := rfl
          refine Gw_callV (As := [.ref (D.2 1000 35)]) (gV_ok D I) (cp_659602_StringBuilder_append l hl0 D I P671366 F671367 q671270 q671357 (D.2 1000 35) (D.2 1001 35) sb_35 0 o671356 f671359 n671358 hm671382 hm671374 he671370 he671372 (gx_sc 35 rfl rfl) (by omega) (by decide +kernel) (gB_w (gBl (show Int32.toInt 0 = 0 by decide)) (by decide) (by decide)) (gB_w bo671356' (by decide) (by decide)) bf671359 (by have qa0 : Int32.toInt 0 = 0 := (by decide); have qa1 : Int32.toInt 6 = 6 := (by decide); omega) (by have qa0 : Int32.toInt 0 = 0 := (by decide); have qa1 : Int32.toInt 6 = 6 := (by decide); omega) (by have qa0 : Int32.toInt 0 = 0 := (by decide); have qa1 : Int32.toInt 6 = 6 := (by decide); omega) (by have qa0 : Int32.toInt 0 = 0 := (by decide); have qa1 : Int32.toInt 6 = 6 := (by decide); omega)) dr_cX14_word_271 ⟨wr_8_195, wr_1_20, wr_8_143, by decide, rfl, (Nat.le_of_ble_eq_true rfl), (Nat.le_of_ble_eq_true rfl)⟩ wr_8_141 wr_8_142 hm671382 he671370 rfl (show (7 + (g671196.toInt - p669700.toInt) : Int).toNat + 1 ≤ ((16 * (p669699.toInt - p669700.toInt)).toNat) by first | omega | decide) (show (60 + 10 * (g671196.toInt - p669700.toInt) : Int).toNat + (4 * n671358 + 4 + 2 * sb_35.length) ≤ ((160 * (p669699.toInt - p669700.toInt)).toNat) by first | omega | decide) (Nat.le_of_ble_eq_true rfl) (fun r671397 w671398 dc671394 ds671395 hp671396 => ?_) (fun _ _ _ _ _ z => z.elim)
          obtain ⟨P671409, F671410, o671399, q671400, n671401, f671402, rfl, rfl, hsb671411, hfr671412, he671413, he671414, hm671415, hq671416, hdc, hds, bo671399, bf671402, x671403, x671404, x671405, x671406, x671407, ht671408⟩ := hp671396
          have hm671417 : q669697 ∈ P671409 := hsb671411 q669697 hm671376
          have hm671418 : q669698 ∈ P671409 := hsb671411 q669698 hm671377
          have hm671419 : q669728 ∈ P671409 := hsb671411 q669728 hm671378
          have hm671420 : q671198 ∈ P671409 := hsb671411 q671198 hm671379
          have hm671421 : q671228 ∈ P671409 := hsb671411 q671228 hm671380
          have hm671422 : q671229 ∈ P671409 := hsb671411 q671229 hm671381
          have hm671423 : q671270 ∈ P671409 := hsb671411 q671270 hm671382
          have hm671424 : q671357 ∈ P671409 := hsb671411 q671357 hm671374
          have hq671425 : q671400 ∉ P669695 := fun z => hq671416.elim (fun e => hq671384 (e ▸ z)) (fun n => n (hsb671385 _ z))
          have hsb671426 : rSub P669695 P671409 := rSub_tr hsb671385 hsb671411
          have he671427 : F671410 q669697 = .inr (19, [.ref q669698, .int p669699, .int g671196, .int 6, .int p669702, .int p669703, .int p669704, .ref q671228, .int p669706, .int p669707, .int p669708, .ref qo669709, .ref qo669710, .int p669711]) := (hfr671412 q669697 hm671376 (nm_c (fun h => hq671291 (h ▸ hmq669697)) (nm_c (fun h => hq671384 (h ▸ hmq669697)) nm_n))).trans he671386
          have he671428 : F671410 q669698 = .inl (I .byte, 8192, .inl f669712) := (hfr671412 q669698 hm671377 (nm_c (fun h => hq671291 (h ▸ hmq669698)) (nm_c (fun h => hq671384 (h ▸ hmq669698)) nm_n))).trans he671387
          have he671429 : F671410 q669728 = .inr (1, [.ref q671198, .int 0, .int 0, .int g671197]) := (hfr671412 q669728 hm671378 (nm_c hne671294 (nm_c (rn_oa he671388 he671372) nm_n))).trans he671388
          have he671430 : F671410 q671198 = .inl (I .byte, n671199, .inl f671200) := (hfr671412 q671198 hm671379 (nm_c (rn_ao he671389 he671370) (nm_c hne671391 nm_n))).trans he671389
          have he671431 : F671410 q671228 = .inr (0, [.ref q671229, .int 0, .int 0, .int 0]) := (hfr671412 q671228 hm671380 (nm_c (rn_oo he671371 he671370 (by decide)) (nm_c (rn_oa he671371 he671372) nm_n))).trans he671371
          have he671432 : F671410 q671229 = .inl (I .byte, n671230, .inl f671231) := (hfr671412 q671229 hm671381 (nm_c (rn_ao he671373 he671370) (nm_c hne671392 nm_n))).trans he671373
          have hfr671433 : rFr [q669697] P669695 F669696 F671410 := rFr_call hsb671385 hfr671390 hfr671412 (fun b hb hn => ⟨(nm_c (fun e => hn (e ▸ List.mem_cons_self)) nm_n), (nm_c (fun e => hq671291 (e ▸ hb)) (nm_c (fun e => hq671384 (e ▸ hb)) nm_n))⟩)
          have hne671434 : q671198 ≠ q671400 := fun e => hq671416.elim (fun e2 => hne671391 (e.trans e2)) (fun n => n (e ▸ hm671379))
          have hne671435 : q671229 ≠ q671400 := fun e => hq671416.elim (fun e2 => hne671392 (e.trans e2)) (fun n => n (e ▸ hm671381))
          have bo671399' : gB o671399 2 16777216 := ⟨by omega, by omega⟩
          change G _ _ _ _ _ _ _ (.ref q671270 :: _) _ _ _
          refine G_widen (cs' := (7 + (g671196.toInt - p669700.toInt) : Int).toNat + 1) (sl' := (60 + 10 * (g671196.toInt - p669700.toInt) : Int).toNat + (2 * (n671401 - n671358))) (by omega) (by omega) ?_
          refine G_widen (cs' := (8 + (g671196.toInt - p669700.toInt) : Int).toNat) (sl' := (60 + 15 * (g671196.toInt - p669700.toInt) : Int).toNat) (by omega) (by omega) ?_
          clear he671370 he671371 he671372 he671373 hm671374 bf671359 hm671376 hm671377 hm671378 hm671379 hm671380 hm671381 hm671382 hq671384 hsb671385 he671386 he671387 he671388 he671389 hfr671390 hne671391 hne671392 hsb671411 hfr671412 hq671416 hm671424; try clear r671397; try clear w671398; try clear dc671394; try clear ds671395; try clear hp671396
          refine Gw_callV (As := []) (gV_ok D I) (cp_659727_StringBuilder_toString l hl0 D I P671409 F671410 q671270 q671400 0 o671399 f671402 n671401 hm671423 hm671415 he671413 he671414 (gB_w (gBl (show Int32.toInt 0 = 0 by decide)) (by decide) (by decide)) (gB_w bo671399' (by decide) (by decide)) bf671402 (by have qa0 : Int32.toInt 0 = 0 := (by decide); have qa1 : Int32.toInt 6 = 6 := (by decide); omega) (by have qa0 : Int32.toInt 0 = 0 := (by decide); have qa1 : Int32.toInt 6 = 6 := (by decide); omega)) dr_cX14_word_274 ⟨wr_8_66, wr_1_20, wr_8_69, by decide, rfl, (Nat.le_of_ble_eq_true rfl), (Nat.le_of_ble_eq_true rfl)⟩ wr_8_67 wr_8_68 hm671423 he671413 rfl (show (8 + (g671196.toInt - p669700.toInt) : Int).toNat + 2 ≤ ((16 * (p669699.toInt - p669700.toInt)).toNat) by first | omega | decide) (show (60 + 15 * (g671196.toInt - p669700.toInt) : Int).toNat + (o671399.toInt.toNat + 4) ≤ ((160 * (p669699.toInt - p669700.toInt)).toNat) by first | omega | decide) (Nat.le_of_ble_eq_true rfl) (fun r671439 w671440 dc671436 ds671437 hp671438 => ?_) (fun _ _ _ _ _ z => z.elim)
          obtain ⟨P671448, F671449, q671441, q671442, n671443, f671444, rfl, rfl, hsb671450, hfr671451, he671452, he671453, he671454, he671455, hm671456, hq671457, hm671458, hq671459, hdc, hds, bf671444, x671445, x671446, ht671447⟩ := hp671438
          have hm671460 : q669697 ∈ P671448 := hsb671450 q669697 hm671417
          have hm671461 : q669698 ∈ P671448 := hsb671450 q669698 hm671418
          have hm671462 : q669728 ∈ P671448 := hsb671450 q669728 hm671419
          have hm671463 : q671198 ∈ P671448 := hsb671450 q671198 hm671420
          have hm671464 : q671228 ∈ P671448 := hsb671450 q671228 hm671421
          have hm671465 : q671229 ∈ P671448 := hsb671450 q671229 hm671422
          have hm671466 : q671270 ∈ P671448 := hsb671450 q671270 hm671423
          have hm671467 : q671400 ∈ P671448 := hsb671450 q671400 hm671415
          have hq671468 : q671441 ∉ P669695 := fun z => hq671457 (hsb671426 q671441 z)
          have hq671469 : q671442 ∉ P669695 := fun z => hq671459 (hsb671426 q671442 z)
          have hsb671470 : rSub P669695 P671448 := rSub_tr hsb671426 hsb671450
          have he671471 : F671449 q669697 = .inr (19, [.ref q669698, .int p669699, .int g671196, .int 6, .int p669702, .int p669703, .int p669704, .ref q671228, .int p669706, .int p669707, .int p669708, .ref qo669709, .ref qo669710, .int p669711]) := (hfr671451 q669697 hm671417 nm_n).trans he671427
          have he671472 : F671449 q669698 = .inl (I .byte, 8192, .inl f669712) := (hfr671451 q669698 hm671418 nm_n).trans he671428
          have he671473 : F671449 q669728 = .inr (1, [.ref q671198, .int 0, .int 0, .int g671197]) := (hfr671451 q669728 hm671419 nm_n).trans he671429
          have he671474 : F671449 q671198 = .inl (I .byte, n671199, .inl f671200) := (hfr671451 q671198 hm671420 nm_n).trans he671430
          have he671475 : F671449 q671228 = .inr (0, [.ref q671229, .int 0, .int 0, .int 0]) := (hfr671451 q671228 hm671421 nm_n).trans he671431
          have he671476 : F671449 q671229 = .inl (I .byte, n671230, .inl f671231) := (hfr671451 q671229 hm671422 nm_n).trans he671432
          have hfr671477 : rFr [q669697] P669695 F669696 F671449 := rFr_call hsb671426 hfr671433 hfr671451 (fun b hb hn => ⟨(nm_c (fun e => hn (e ▸ List.mem_cons_self)) nm_n), nm_n⟩)
          have hne671478 : q671228 ≠ q671441 := fun h => hq671457 (h ▸ hm671421)
          have hne671479 : q671198 ≠ q671442 := fun h => hq671459 (h ▸ hm671420)
          have hne671480 : q671229 ≠ q671442 := fun h => hq671459 (h ▸ hm671422)
          have hne671481 : q671400 ≠ q671442 := fun h => hq671459 (h ▸ hm671415)
          change G _ _ _ _ _ _ _ (.ref q671441 :: _) _ _ _
          refine G_widen (cs' := (8 + (g671196.toInt - p669700.toInt) : Int).toNat + 2) (sl' := (60 + 15 * (g671196.toInt - p669700.toInt) : Int).toNat + (o671399.toInt.toNat + 4)) (by omega) (by omega) ?_
          refine G_widen (cs' := (10 + (g671196.toInt - p669700.toInt) : Int).toNat) (sl' := (66 + 16 * (g671196.toInt - p669700.toInt) : Int).toNat) (by omega) (by omega) ?_
          clear hq671291 hne671294 he671413 he671414 hm671415 bf671402 hm671417 hm671418 hm671419 hm671420 hm671421 hm671422 hm671423 hq671425 hsb671426 he671427 he671428 he671429 he671430 he671431 he671432 hfr671433 hne671434 hne671435 hsb671450 hfr671451 he671453 he671454 hq671457 hq671459 hm671466 hm671467 hne671481; try clear r671439; try clear w671440; try clear dc671436; try clear ds671437; try clear hp671438; try clear x671446
          refine Gw_callVk (As := [.ref q671441]) (gV_ok D I) (cp_660186_String_indexOf l hl0 D I P671448 F671449 q671441 q671442 (D.2 1000 34) (D.2 1001 34) sb_34 0 0 f671444 n671443 hm671456 hm671458 he671452 he671455 (gx_sc 34 rfl rfl) (by omega) (by decide +kernel) (gB_w (gBl (show Int32.toInt 0 = 0 by decide)) (by decide) (by decide)) bf671444 (by have qa0 : Int32.toInt 0 = 0 := (by decide); have qa1 : Int32.toInt 6 = 6 := (by decide); omega) (by have qa0 : Int32.toInt 0 = 0 := (by decide); have qa1 : Int32.toInt 6 = 6 := (by decide); omega)) dr_cX14_word_277 ⟨wr_8_196, wr_1_21, wr_8_199, by decide, rfl, (Nat.le_of_ble_eq_true rfl), (Nat.le_of_ble_eq_true rfl)⟩ wr_8_197 wr_8_198 (fun _ _ _ h => ((gx_sc 34 rfl rfl) _ _ _ h).1) (show (10 + (g671196.toInt - p669700.toInt) : Int).toNat + 0 ≤ ((16 * (p669699.toInt - p669700.toInt)).toNat) by first | omega | decide) (show (66 + 16 * (g671196.toInt - p669700.toInt) : Int).toNat + 0 ≤ ((160 * (p669699.toInt - p669700.toInt)).toNat) by first | omega | decide) (Nat.le_of_ble_eq_true rfl) (fun r671485 w671486 dc671482 ds671483 hp671484 => ?_) (fun _ _ _ _ _ z => z.elim)
          obtain ⟨o671487, rfl, rfl, hdc, hds, bo671487, x671488, x671489, ht671490⟩ := hp671484
          change G _ _ _ _ _ _ _ (.int o671487 :: _) _ _ _
          refine G_widen (cs' := (10 + (g671196.toInt - p669700.toInt) : Int).toNat + 0) (sl' := (66 + 16 * (g671196.toInt - p669700.toInt) : Int).toNat + 0) (by omega) (by omega) ?_
          clear he671452 he671455 hm671456 hm671458 bf671444 hq671468 hq671469 hne671478 hne671479 hne671480; try clear r671485; try clear w671486; try clear dc671482; try clear ds671483; try clear hp671484; try clear x671489
          refine G_if_lt 288 dr_cX14_word_280 (by decide +kernel) (fun hc671491 => ?_) (fun hc671491 => ?_)
          · have r671492 : o671487.toInt < 0 := gj_lt hc671491 (show Int32.toInt 0 = 0 by decide)
            have bo671487' : gB o671487 (-2147483646) (-1) := ⟨by omega, by omega⟩
            exact G_vretA dr_cX14_word_288 rfl (show (10 + (g671196.toInt - p669700.toInt) : Int).toNat + 0 ≤ ((16 * (p669699.toInt - p669700.toInt)).toNat) by omega) (show (66 + 16 * (g671196.toInt - p669700.toInt) : Int).toNat + 0 ≤ ((160 * (p669699.toInt - p669700.toInt)).toNat) by omega) ⟨P671448, F671449, g671196, 6, p669703, q671228, (0, fun _ => 0), rfl, rfl, hsb671470, hfr671477, he671471, he671472, (by omega), (by omega), bg671196, (gB_w (gBl (show Int32.toInt 6 = 6 by decide)) (by decide) (by decide)), (by have qa0 : Int32.toInt 0 = 0 := (by decide); have qa1 : Int32.toInt 6 = 6 := (by decide); omega), (by have qa0 : Int32.toInt 0 = 0 := (by decide); have qa1 : Int32.toInt 6 = 6 := (by decide); omega), (tP_no (by decide) (by decide)), (vP_no (by decide) (by decide)), (fun R c1 c2 c3 c4 c5 c6 => c1 z669719 g671196 g671197 n671199 f671200 n671230 f671231 o671333 f671334 o671356 n671358 f671359 o671399 n671401 f671402 n671443 f671444 o671487 hz669719 bz669719 hJ669727 hx671221 ht671234 bo671333 ht671338 bo671356 ht671365 bo671399 ht671408 ht671447 bo671487 ht671490 r671492)⟩
          · have r671493 : 0 ≤ o671487.toInt := gj_nlt hc671491 (show Int32.toInt 0 = 0 by decide)
            have bo671487' : gB o671487 0 16777215 := ⟨by omega, by omega⟩
            refine G_aload_n 2 dr_cX14_word_283 rfl ?_
            refine G_iconst 1 dr_cX14_word_284 (by decide +kernel) ?_
            refine Gp_put 3 hm671460 he671471 dr_cX14_word_285 (gk_X14 D I) (Nat.le_of_ble_eq_true rfl) wr_9_39 rfl rfl rfl (Nat.le_of_ble_eq_true rfl) (fun F671494 e671495 n671496 => ?_)
            have he671497 : F671494 q669698 = .inl (I .byte, 8192, .inl f669712) := (n671496 q669698 (rn_ao he671472 he671471)).trans he671472
            have he671498 : F671494 q669728 = .inr (1, [.ref q671198, .int 0, .int 0, .int g671197]) := (n671496 q669728 (fun h => hq669741 (h ▸ hmq669697))).trans he671473
            have he671499 : F671494 q671198 = .inl (I .byte, n671199, .inl f671200) := (n671496 q671198 (fun h => hq671201 (h ▸ hmq669697))).trans he671474
            have he671500 : F671494 q671228 = .inr (0, [.ref q671229, .int 0, .int 0, .int 0]) := (n671496 q671228 (fun h => hq671251 (h ▸ hmq669697))).trans he671475
            have he671501 : F671494 q671229 = .inl (I .byte, n671230, .inl f671231) := (n671496 q671229 (fun h => hq671252 (h ▸ hmq669697))).trans he671476
            have he671502 : F671494 q669697 = .inr (19, [.ref q669698, .int p669699, .int g671196, .int 1, .int p669702, .int p669703, .int p669704, .ref q671228, .int p669706, .int p669707, .int p669708, .ref qo669709, .ref qo669710, .int p669711]) := e671495
            have hfr671503 : rFr [q669697] P669695 F669696 F671494 := rFr_put' List.mem_cons_self hfr671477 n671496
            exact G_vretA dr_cX14_word_288 rfl (show (10 + (g671196.toInt - p669700.toInt) : Int).toNat + 0 ≤ ((16 * (p669699.toInt - p669700.toInt)).toNat) by omega) (show (66 + 16 * (g671196.toInt - p669700.toInt) : Int).toNat + 0 ≤ ((160 * (p669699.toInt - p669700.toInt)).toNat) by omega) ⟨P671448, F671494, g671196, 1, p669703, q671228, (n671230, f671231), rfl, rfl, hsb671470, hfr671503, he671502, he671497, (by omega), (by omega), bg671196, (gB_w (gBl (show Int32.toInt 1 = 1 by decide)) (by decide) (by decide)), (by have qa0 : Int32.toInt 0 = 0 := (by decide); have qa1 : Int32.toInt 1 = 1 := (by decide); omega), (by have qa0 : Int32.toInt 0 = 0 := (by decide); have qa1 : Int32.toInt 1 = 1 := (by decide); omega), (tP_1 hm671464 he671500 hm671465 he671501 bf671231 (by omega) (gB_w (gBl (show Int32.toInt 0 = 0 by decide)) (by decide) (by decide)) (fun e => hq671252 (e ▸ x669716)) (fun e => hq671252 (e ▸ x669717))), (vP_no (by decide) (by decide)), (fun R c1 c2 c3 c4 c5 c6 => c2 z669719 g671196 g671197 n671199 f671200 n671230 f671231 o671333 f671334 o671356 n671358 f671359 o671399 n671401 f671402 n671443 f671444 o671487 hz669719 bz669719 hJ669727 hx671221 ht671234 bo671333 ht671338 bo671356 ht671365 bo671399 ht671408 ht671447 bo671487 ht671490 r671493)⟩
        · have r671504 : g671196.toInt < p669699.toInt := gC_nle hc671219
          have bg671196' : gB g671196 0 8191 := ⟨by omega, by omega⟩
          have bp669699' : gB p669699 1 8192 := ⟨by omega, by omega⟩
          refine G_aload_n 2 dr_cX14_word_197 rfl ?_
          refine Gp_get 0 hm671209 he671203 dr_cX14_word_198 (gk_X14 D I) (Nat.le_of_ble_eq_true rfl) wr_9_36 rfl ?_
          refine G_aload_n 2 dr_cX14_word_201 rfl ?_
          refine Gp_get 2 hm671209 he671203 dr_cX14_word_202 (gk_X14 D I) (Nat.le_of_ble_eq_true rfl) wr_9_38 rfl ?_
          refine Gp_bald 1 hm671210 he671204 dr_cX14_word_205 rfl (gB_in bg671196' (by decide) (by decide)) (G_nam fun z671505 hz671505 => ?_)
          have bz671505 : gB z671505 (-128) 127 := by rw [hz671505]; exact bf669712 _
          refine Gw_callS (As := [.int z671505]) (gV_ok D I) (cp_670062_Reader_isLetter l hl0 D I P671208 F671202 z671505 ) dr_cX14_word_206 ⟨wr_7_222, wr_1_32, wr_7_224, by decide, rfl, (Nat.le_of_ble_eq_true rfl), (Nat.le_of_ble_eq_true rfl)⟩ wr_7_223 (show 2 + (g671197.toInt : Int).toNat + 0 ≤ ((16 * (p669699.toInt - p669700.toInt)).toNat) by first | omega | decide) (show 4 + 2 * n671199 + 0 ≤ ((160 * (p669699.toInt - p669700.toInt)).toNat) by first | omega | decide) (Nat.le_of_ble_eq_true rfl) (fun r671509 w671510 dc671506 ds671507 hp671508 => ?_) (fun _ _ _ _ _ z => z.elim)
          obtain ⟨o671511, rfl, rfl, hdc, hds, bo671511, x671512, ht671513⟩ := hp671508
          change G _ _ _ _ _ _ _ (.int o671511 :: _) _ _ _
          refine G_widen (cs' := 2 + (g671197.toInt : Int).toNat + 0) (sl' := 4 + 2 * n671199 + 0) (by omega) (by omega) ?_
          refine G_if_eq 240 dr_cX14_word_209 (by decide +kernel) (fun hc671514 => ?_) (fun hc671514 => ?_)
          · have r671515 : o671511.toInt = 0 := gj_eq hc671514 (show Int32.toInt 0 = 0 by decide)
            have bo671511' : gB o671511 0 0 := ⟨by omega, by omega⟩
            have hx671516 : tl_RReader_word_186 p669699 f669712 p669700 (0 : Int32) 16 (fun _ => 0 : Nat → Int32) 240 g671196 g671197 n671199 f671200 := kt186_671218 240 g671196 g671197 n671199 f671200 (fun R c1 c2 c3 => c2 g671196 g671197 n671199 f671200 z671505 o671511 bg671196 bg671197 r671504 hz671505 bz671505 bo671511 ht671513 r671515)
            have x671517 : p669700.toInt < g671196.toInt := by first | omega | exact cLt_lt x669715 (by assumption) (isP_0 (by assumption) (by omega)) (by omega)
            refine G_aload_n 2 dr_cX14_word_240 rfl ?_
            refine G_aload_n 0 dr_cX14_word_241 rfl ?_
            refine Gw_callV (As := []) (gV_ok D I) (cp_659727_StringBuilder_toString l hl0 D I P671208 F671202 q669728 q671198 0 g671197 f671200 n671199 hm671211 hm671212 he671205 he671206 (gB_w (gBl (show Int32.toInt 0 = 0 by decide)) (by decide) (by decide)) bg671197 bf671200 (by have qa0 : Int32.toInt 0 = 0 := (by decide); have qa1 : Int32.toInt 6 = 6 := (by decide); omega) (by have qa0 : Int32.toInt 0 = 0 := (by decide); have qa1 : Int32.toInt 6 = 6 := (by decide); omega)) dr_cX14_word_242 ⟨wr_8_66, wr_1_20, wr_8_69, by decide, rfl, (Nat.le_of_ble_eq_true rfl), (Nat.le_of_ble_eq_true rfl)⟩ wr_8_67 wr_8_68 hm671211 he671205 rfl (show 2 + (g671197.toInt : Int).toNat + 0 + 2 ≤ ((16 * (p669699.toInt - p669700.toInt)).toNat) by first | omega | decide) (show 4 + 2 * n671199 + 0 + (g671197.toInt.toNat + 4) ≤ ((160 * (p669699.toInt - p669700.toInt)).toNat) by first | omega | decide) (Nat.le_of_ble_eq_true rfl) (fun r671521 w671522 dc671518 ds671519 hp671520 => ?_) (fun _ _ _ _ _ z => z.elim)
            obtain ⟨P671530, F671531, q671523, q671524, n671525, f671526, rfl, rfl, hsb671532, hfr671533, he671534, he671535, he671536, he671537, hm671538, hq671539, hm671540, hq671541, hdc, hds, bf671526, x671527, x671528, ht671529⟩ := hp671520
            have hm671542 : q669697 ∈ P671530 := hsb671532 q669697 hm671209
            have hm671543 : q669698 ∈ P671530 := hsb671532 q669698 hm671210
            have hm671544 : q669728 ∈ P671530 := hsb671532 q669728 hm671211
            have hm671545 : q671198 ∈ P671530 := hsb671532 q671198 hm671212
            have hq671546 : q671523 ∉ P669695 := fun z => hq671539 (hsb671213 q671523 z)
            have hq671547 : q671524 ∉ P669695 := fun z => hq671541 (hsb671213 q671524 z)
            have hsb671548 : rSub P669695 P671530 := rSub_tr hsb671213 hsb671532
            have he671549 : F671531 q669697 = .inr (19, [.ref q669698, .int p669699, .int g671196, .int 6, .int p669702, .int p669703, .int p669704, .ref qo669705, .int p669706, .int p669707, .int p669708, .ref qo669709, .ref qo669710, .int p669711]) := (hfr671533 q669697 hm671209 nm_n).trans he671203
            have he671550 : F671531 q669698 = .inl (I .byte, 8192, .inl f669712) := (hfr671533 q669698 hm671210 nm_n).trans he671204
            have hfr671551 : rFr [q669697] P669695 F669696 F671531 := rFr_call hsb671213 hfr671207 hfr671533 (fun b hb hn => ⟨(nm_c (fun e => hn (e ▸ List.mem_cons_self)) nm_n), nm_n⟩)
            have hne671552 : q671198 ≠ q671524 := fun h => hq671541 (h ▸ hm671212)
            change G _ _ _ _ _ _ _ (.ref q671523 :: _) _ _ _
            refine G_widen (cs' := 2 + (g671197.toInt : Int).toNat + 0 + 2) (sl' := 4 + 2 * n671199 + 0 + (g671197.toInt.toNat + 4)) (by omega) (by omega) ?_
            have x671553 : (n671525 : Int) = g671196.toInt - p669700.toInt := by omega
            clear he669723 he669724 hfr669725 he669735 he669736 he669737 hm669738 hm669739 hm669740 hfr669742 hsb669743 hsb669752 hfr669753 he669754 he669755 hm669756 hq669757 hm669758 hm669759 hm669760 hq669761 hsb669762 he669763 he669764 hfr669765 bo671511 ht671513 bo671511' hsb671532 hfr671533 hq671539 hq671541; try clear r669747; try clear w669748; try clear dc669744; try clear ds669745; try clear hp669746; try clear r671509; try clear w671510; try clear dc671506; try clear ds671507; try clear hp671508; try clear x671512; try clear r671515; try clear r671521; try clear w671522; try clear dc671518; try clear ds671519; try clear hp671520
            refine Gp_put 7 hm671542 he671549 dr_cX14_word_245 (gk_X14 D I) (Nat.le_of_ble_eq_true rfl) wr_9_43 rfl rfl rfl (Nat.le_of_ble_eq_true rfl) (fun F671554 e671555 n671556 => ?_)
            have he671557 : F671554 q669698 = .inl (I .byte, 8192, .inl f669712) := (n671556 q669698 (rn_ao he671550 he671549)).trans he671550
            have he671558 : F671554 q671523 = .inr (0, [.ref q671524, .int 0, .int 0, .int 0]) := (n671556 q671523 (fun h => hq671546 (h ▸ hmq669697))).trans he671534
            have he671559 : F671554 q669728 = .inr (1, [.ref q671198, .int 0, .int 0, .int g671197]) := (n671556 q669728 (fun h => hq669741 (h ▸ hmq669697))).trans he671535
            have he671560 : F671554 q671198 = .inl (I .byte, n671199, .inl f671200) := (n671556 q671198 (fun h => hq671201 (h ▸ hmq669697))).trans he671536
            have he671561 : F671554 q671524 = .inl (I .byte, n671525, .inl f671526) := (n671556 q671524 (fun h => hq671547 (h ▸ hmq669697))).trans he671537
            have he671562 : F671554 q669697 = .inr (19, [.ref q669698, .int p669699, .int g671196, .int 6, .int p669702, .int p669703, .int p669704, .ref q671523, .int p669706, .int p669707, .int p669708, .ref qo669709, .ref qo669710, .int p669711]) := e671555
            have hfr671563 : rFr [q669697] P669695 F669696 F671554 := rFr_put' List.mem_cons_self hfr671551 n671556
            refine G_widen (cs' := (4 + (g671196.toInt - p669700.toInt) : Int).toNat) (sl' := (40 + 5 * (g671196.toInt - p669700.toInt) : Int).toNat) (by omega) (by omega) ?_
            clear he671534 he671535 he671536 he671537 he671549 he671550 hfr671551
            refine G_ldcK (a := D.2 1000 34) dr_cX14_word_248 (fun _ _ _ h => gx_vk 34 rfl rfl h) ?_
            have hl34_671563 : (sb_34.length : Int) = 25 := rfl
            refine G_new [.null, .int 0, .int 0, .int 0] dr_cX14_word_250 (gk_J4 D I) wr_7_235 wr_7_44 wr_1_20 (gfs_J4) (show (4 + (g671196.toInt - p669700.toInt) : Int).toNat + 1 ≤ ((16 * (p669699.toInt - p669700.toInt)).toNat) by first | omega | decide) (show (40 + 5 * (g671196.toInt - p669700.toInt) : Int).toNat + 4 ≤ ((160 * (p669699.toInt - p669700.toInt)).toNat) by first | omega | decide) (fun q671565 => Gp_in (fun P671566 F671567 hq671568 hP671569 e671570 n671571 => ?_))
            refine G_widen (cs' := (4 + (g671196.toInt - p669700.toInt) : Int).toNat + 1) (sl' := (40 + 5 * (g671196.toInt - p669700.toInt) : Int).toNat + 4) (by omega) (by omega) ?_
            have he671572 : F671567 q669697 = .inr (19, [.ref q669698, .int p669699, .int g671196, .int 6, .int p669702, .int p669703, .int p669704, .ref q671523, .int p669706, .int p669707, .int p669708, .ref qo669709, .ref qo669710, .int p669711]) := (n671571 q669697 (fun h => hq671568 (h ▸ hm671542))).trans he671562
            have he671573 : F671567 q669698 = .inl (I .byte, 8192, .inl f669712) := (n671571 q669698 (fun h => hq671568 (h ▸ hm671543))).trans he671557
            have he671574 : F671567 q671523 = .inr (0, [.ref q671524, .int 0, .int 0, .int 0]) := (n671571 q671523 (fun h => hq671568 (h ▸ hm671538))).trans he671558
            have he671575 : F671567 q669728 = .inr (1, [.ref q671198, .int 0, .int 0, .int g671197]) := (n671571 q669728 (fun h => hq671568 (h ▸ hm671544))).trans he671559
            have he671576 : F671567 q671198 = .inl (I .byte, n671199, .inl f671200) := (n671571 q671198 (fun h => hq671568 (h ▸ hm671545))).trans he671560
            have he671577 : F671567 q671524 = .inl (I .byte, n671525, .inl f671526) := (n671571 q671524 (fun h => hq671568 (h ▸ hm671540))).trans he671561
            have he671578 : F671567 q671565 = .inr (1, [.null, .int 0, .int 0, .int 0]) := e671570
            have hm671579 : q669697 ∈ P671566 := (hP671569 q669697).mpr (Or.inl hm671542)
            have hm671580 : q669698 ∈ P671566 := (hP671569 q669698).mpr (Or.inl hm671543)
            have hm671581 : q669728 ∈ P671566 := (hP671569 q669728).mpr (Or.inl hm671544)
            have hm671582 : q671198 ∈ P671566 := (hP671569 q671198).mpr (Or.inl hm671545)
            have hm671583 : q671523 ∈ P671566 := (hP671569 q671523).mpr (Or.inl hm671538)
            have hm671584 : q671524 ∈ P671566 := (hP671569 q671524).mpr (Or.inl hm671540)
            have hm671585 : q671565 ∈ P671566 := (hP671569 q671565).mpr (Or.inr rfl)
            have hq671586 : q671565 ∉ P669695 := fun z => hq671568 (hsb671548 q671565 z)
            have hfr671587 : rFr [q669697] P669695 F669696 F671567 := rFr_new hsb671548 hq671568 hfr671563 n671571
            have hsb671588 : rSub P669695 P671566 := rSub_new hsb671548 hP671569
            have hne671589 : q669728 ≠ q671565 := fun h => hq671568 (h ▸ hm671544)
            refine G_dup dr_cX14_word_253 rfl ?_
            refine Gw_callI (As := []) (gV_ok D I) (cp_658952_StringBuilder_init l hl0 D I P671566 F671567 q671565 0 0 hm671585 he671578 (gB_w (gBl (show Int32.toInt 0 = 0 by decide)) (by decide) (by decide)) (gB_w (gBl (show Int32.toInt 0 = 0 by decide)) (by decide) (by decide))) dr_cX14_word_254 ⟨wr_7_236, wr_1_20, wr_7_47, by decide, rfl, (Nat.le_of_ble_eq_true rfl), (Nat.le_of_ble_eq_true rfl)⟩ wr_7_46 rfl (show (4 + (g671196.toInt - p669700.toInt) : Int).toNat + 1 + 1 ≤ ((16 * (p669699.toInt - p669700.toInt)).toNat) by first | omega | decide) (show (40 + 5 * (g671196.toInt - p669700.toInt) : Int).toNat + 4 + 16 ≤ ((160 * (p669699.toInt - p669700.toInt)).toNat) by first | omega | decide) (Nat.le_of_ble_eq_true rfl) (fun r671593 w671594 dc671590 ds671591 hp671592 => ?_)
            obtain ⟨P671596, F671597, q671595, rfl, rfl, hsb671598, hfr671599, he671600, he671601, hm671602, hq671603, hdc, hds⟩ := hp671592
            have hm671604 : q669697 ∈ P671596 := hsb671598 q669697 hm671579
            have hm671605 : q669698 ∈ P671596 := hsb671598 q669698 hm671580
            have hm671606 : q669728 ∈ P671596 := hsb671598 q669728 hm671581
            have hm671607 : q671198 ∈ P671596 := hsb671598 q671198 hm671582
            have hm671608 : q671523 ∈ P671596 := hsb671598 q671523 hm671583
            have hm671609 : q671524 ∈ P671596 := hsb671598 q671524 hm671584
            have hm671610 : q671565 ∈ P671596 := hsb671598 q671565 hm671585
            have hq671611 : q671595 ∉ P669695 := fun z => hq671603 (hsb671588 q671595 z)
            have hsb671612 : rSub P669695 P671596 := rSub_tr hsb671588 hsb671598
            have he671613 : F671597 q669697 = .inr (19, [.ref q669698, .int p669699, .int g671196, .int 6, .int p669702, .int p669703, .int p669704, .ref q671523, .int p669706, .int p669707, .int p669708, .ref qo669709, .ref qo669710, .int p669711]) := (hfr671599 q669697 hm671579 (nm_c (fun h => hq671586 (h ▸ hmq669697)) nm_n)).trans he671572
            have he671614 : F671597 q669698 = .inl (I .byte, 8192, .inl f669712) := (hfr671599 q669698 hm671580 (nm_c (fun h => hq671586 (h ▸ hmq669698)) nm_n)).trans he671573
            have he671615 : F671597 q671523 = .inr (0, [.ref q671524, .int 0, .int 0, .int 0]) := (hfr671599 q671523 hm671583 (nm_c (rn_oo he671574 he671578 (by decide)) nm_n)).trans he671574
            have he671616 : F671597 q669728 = .inr (1, [.ref q671198, .int 0, .int 0, .int g671197]) := (hfr671599 q669728 hm671581 (nm_c hne671589 nm_n)).trans he671575
            have he671617 : F671597 q671198 = .inl (I .byte, n671199, .inl f671200) := (hfr671599 q671198 hm671582 (nm_c (rn_ao he671576 he671578) nm_n)).trans he671576
            have he671618 : F671597 q671524 = .inl (I .byte, n671525, .inl f671526) := (hfr671599 q671524 hm671584 (nm_c (rn_ao he671577 he671578) nm_n)).trans he671577
            have hfr671619 : rFr [q669697] P669695 F669696 F671597 := rFr_call hsb671588 hfr671587 hfr671599 (fun b hb hn => ⟨(nm_c (fun e => hn (e ▸ List.mem_cons_self)) nm_n), (nm_c (fun e => hq671586 (e ▸ hb)) nm_n)⟩)
            have hne671620 : q671198 ≠ q671595 := fun h => hq671603 (h ▸ hm671582)
            have hne671621 : q671524 ≠ q671595 := fun h => hq671603 (h ▸ hm671584)
            change G _ _ _ _ _ _ _ _ _ _ _
            refine G_widen (cs' := (4 + (g671196.toInt - p669700.toInt) : Int).toNat + 1 + 1) (sl' := (40 + 5 * (g671196.toInt - p669700.toInt) : Int).toNat + 4 + 16) (by omega) (by omega) ?_
            refine G_ldcK (a := D.2 1000 35) dr_cX14_word_257 (fun _ _ _ h => gx_vk 35 rfl rfl h) ?_
            have hl35_671621 : (sb_35.length : Int) = 1 := rfl
            refine Gw_callV (As := [.ref (D.2 1000 35)]) (gV_ok D I) (cp_659254_StringBuilder_append l hl0 D I P671596 F671597 q671565 q671595 (D.2 1000 35) (D.2 1001 35) sb_35 0 0 (fun _ => 0) 16 hm671610 hm671602 he671600 he671601 (gx_sc 35 rfl rfl) (by omega) (by decide +kernel) (gB_w (gBl (show Int32.toInt 0 = 0 by decide)) (by decide) (by decide)) (gB_w (gBl (show Int32.toInt 0 = 0 by decide)) (by decide) (by decide)) (gF_w gF_0 (by decide) (by decide)) (by have qa0 : Int32.toInt 0 = 0 := (by decide); have qa1 : Int32.toInt 6 = 6 := (by decide); omega) (by have qa0 : Int32.toInt 0 = 0 := (by decide); have qa1 : Int32.toInt 6 = 6 := (by decide); omega)) dr_cX14_word_259 ⟨wr_8_195, wr_1_20, wr_8_143, by decide, rfl, (Nat.le_of_ble_eq_true rfl), (Nat.le_of_ble_eq_true rfl)⟩ wr_8_141 wr_8_142 hm671610 he671600 rfl (show (4 + (g671196.toInt - p669700.toInt) : Int).toNat + 1 + 1 + 0 ≤ ((16 * (p669699.toInt - p669700.toInt)).toNat) by first | omega | decide) (show (40 + 5 * (g671196.toInt - p669700.toInt) : Int).toNat + 4 + 16 + 0 ≤ ((160 * (p669699.toInt - p669700.toInt)).toNat) by first | omega | decide) (Nat.le_of_ble_eq_true rfl) (fun r671626 w671627 dc671623 ds671624 hp671625 => ?_) (fun _ _ _ _ _ z => z.elim)
            obtain ⟨F671634, o671628, f671629, rfl, rfl, hfr671636, he671637, he671638, hdc, hds, bo671628, bf671629, x671630, x671631, x671632, ht671633⟩ := hp671625
            have he671639 : F671634 q669697 = .inr (19, [.ref q669698, .int p669699, .int g671196, .int 6, .int p669702, .int p669703, .int p669704, .ref q671523, .int p669706, .int p669707, .int p669708, .ref qo669709, .ref qo669710, .int p669711]) := (hfr671636 q669697 hm671604 (nm_c (fun h => hq671586 (h ▸ hmq669697)) (nm_c (fun h => hq671611 (h ▸ hmq669697)) nm_n))).trans he671613
            have he671640 : F671634 q669698 = .inl (I .byte, 8192, .inl f669712) := (hfr671636 q669698 hm671605 (nm_c (fun h => hq671586 (h ▸ hmq669698)) (nm_c (fun h => hq671611 (h ▸ hmq669698)) nm_n))).trans he671614
            have he671641 : F671634 q671523 = .inr (0, [.ref q671524, .int 0, .int 0, .int 0]) := (hfr671636 q671523 hm671608 (nm_c (rn_oo he671615 he671600 (by decide)) (nm_c (rn_oa he671615 he671601) nm_n))).trans he671615
            have he671642 : F671634 q669728 = .inr (1, [.ref q671198, .int 0, .int 0, .int g671197]) := (hfr671636 q669728 hm671606 (nm_c hne671589 (nm_c (rn_oa he671616 he671601) nm_n))).trans he671616
            have he671643 : F671634 q671198 = .inl (I .byte, n671199, .inl f671200) := (hfr671636 q671198 hm671607 (nm_c (rn_ao he671617 he671600) (nm_c hne671620 nm_n))).trans he671617
            have he671644 : F671634 q671524 = .inl (I .byte, n671525, .inl f671526) := (hfr671636 q671524 hm671609 (nm_c (rn_ao he671618 he671600) (nm_c hne671621 nm_n))).trans he671618
            have hfr671645 : rFr [q669697] P669695 F669696 F671634 := rFr_call hsb671612 hfr671619 hfr671636 (fun b hb hn => ⟨(nm_c (fun e => hn (e ▸ List.mem_cons_self)) nm_n), (nm_c (fun e => hq671586 (e ▸ hb)) (nm_c (fun e => hq671611 (e ▸ hb)) nm_n))⟩)
            rw [show Int32.toInt 0 = 0 from by decide] at x671630
            have bo671628' : gB o671628 1 1 := ⟨by omega, by omega⟩
            rw [show Int32.toInt 0 = 0 from by decide] at x671631
            rw [show Int32.toInt 0 = 0 from by decide] at x671632
            change G _ _ _ _ _ _ _ (.ref q671565 :: _) _ _ _
            refine G_widen (cs' := (4 + (g671196.toInt - p669700.toInt) : Int).toNat + 1 + 1 + 0) (sl' := (40 + 5 * (g671196.toInt - p669700.toInt) : Int).toNat + 4 + 16 + 0) (by omega) (by omega) ?_
            refine G_aload_n 2 dr_cX14_word_262 rfl ?_
            clear hm671538 hm671540 hm671542 hm671543 hm671544 hm671545 hsb671548 he671557 he671558 he671559 he671560 he671561 he671562 hfr671563 he671572 he671573 he671574 he671575 he671576 he671577 he671578 hm671579 hm671580 hm671581 hm671582 hm671583 hm671584 hm671585 hfr671587 hsb671588 hsb671598 hfr671599 he671600 he671601 hq671603 he671613 he671614 he671615 he671616 he671617 he671618 hfr671619 hfr671636; try clear r671593; try clear w671594; try clear dc671590; try clear ds671591; try clear hp671592; try clear r671626; try clear w671627; try clear dc671623; try clear ds671624; try clear hp671625
            refine Gp_get 7 hm671604 he671639 dr_cX14_word_263 (gk_X14 D I) (Nat.le_of_ble_eq_true rfl) wr_9_43 rfl ?_
            refine Gw_callV (As := [.ref q671523]) (gV_ok D I) (cp_659454_StringBuilder_append l hl0 D I P671596 F671634 q671565 q671523 q671595 q671524 0 o671628 0 0 f671629 16 f671526 n671525 hm671610 hm671608 hm671602 hm671609 he671637 he671641 he671638 he671644 (Ne.symm hne671621) (gB_w (gBl (show Int32.toInt 0 = 0 by decide)) (by decide) (by decide)) (gB_w bo671628' (by decide) (by decide)) (gB_w (gBl (show Int32.toInt 0 = 0 by decide)) (by decide) (by decide)) bf671629 bf671526 (by have qa0 : Int32.toInt 0 = 0 := (by decide); have qa1 : Int32.toInt 6 = 6 := (by decide); omega) (by have qa0 : Int32.toInt 0 = 0 := (by decide); have qa1 : Int32.toInt 6 = 6 := (by decide); omega) (by have qa0 : Int32.toInt 0 = 0 := (by decide); have qa1 : Int32.toInt 6 = 6 := (by decide); omega) (by have qa0 : Int32.toInt 0 = 0 := (by decide); have qa1 : Int32.toInt 6 = 6 := (by decide); omega) (by have qa0 : Int32.toInt 0 = 0 := (by decide); have qa1 : Int32.toInt 6 = 6 := (by decide); omega)) dr_cX14_word_266 ⟨wr_8_195, wr_1_20, wr_8_143, by decide, rfl, (Nat.le_of_ble_eq_true rfl), (Nat.le_of_ble_eq_true rfl)⟩ wr_8_141 wr_8_142 hm671610 he671637 rfl (show (4 + (g671196.toInt - p669700.toInt) : Int).toNat + 1 + 1 + 0 + 1 ≤ ((16 * (p669699.toInt - p669700.toInt)).toNat) by first | omega | decide) (show (40 + 5 * (g671196.toInt - p669700.toInt) : Int).toNat + 4 + 16 + 0 + (4 * 16 + 4 + 2 * n671525) ≤ ((160 * (p669699.toInt - p669700.toInt)).toNat) by first | omega | decide) (Nat.le_of_ble_eq_true rfl) (fun r671649 w671650 dc671646 ds671647 hp671648 => ?_) (fun _ _ _ _ _ z => z.elim)
            obtain ⟨P671661, F671662, o671651, q671652, n671653, f671654, rfl, rfl, hsb671663, hfr671664, he671665, he671666, he671667, he671668, hm671669, hq671670, hdc, hds, bo671651, bf671654, x671655, x671656, x671657, x671658, x671659, ht671660⟩ := hp671648
            have hm671671 : q669697 ∈ P671661 := hsb671663 q669697 hm671604
            have hm671672 : q669698 ∈ P671661 := hsb671663 q669698 hm671605
            have hm671673 : q669728 ∈ P671661 := hsb671663 q669728 hm671606
            have hm671674 : q671198 ∈ P671661 := hsb671663 q671198 hm671607
            have hm671675 : q671523 ∈ P671661 := hsb671663 q671523 hm671608
            have hm671676 : q671524 ∈ P671661 := hsb671663 q671524 hm671609
            have hm671677 : q671565 ∈ P671661 := hsb671663 q671565 hm671610
            have hm671678 : q671595 ∈ P671661 := hsb671663 q671595 hm671602
            have hq671679 : q671652 ∉ P669695 := fun z => hq671670.elim (fun e => hq671611 (e ▸ z)) (fun n => n (hsb671612 _ z))
            have hsb671680 : rSub P669695 P671661 := rSub_tr hsb671612 hsb671663
            have he671681 : F671662 q669697 = .inr (19, [.ref q669698, .int p669699, .int g671196, .int 6, .int p669702, .int p669703, .int p669704, .ref q671523, .int p669706, .int p669707, .int p669708, .ref qo669709, .ref qo669710, .int p669711]) := (hfr671664 q669697 hm671604 (nm_c (fun h => hq671586 (h ▸ hmq669697)) (nm_c (fun h => hq671611 (h ▸ hmq669697)) nm_n))).trans he671639
            have he671682 : F671662 q669698 = .inl (I .byte, 8192, .inl f669712) := (hfr671664 q669698 hm671605 (nm_c (fun h => hq671586 (h ▸ hmq669698)) (nm_c (fun h => hq671611 (h ▸ hmq669698)) nm_n))).trans he671640
            have he671683 : F671662 q669728 = .inr (1, [.ref q671198, .int 0, .int 0, .int g671197]) := (hfr671664 q669728 hm671606 (nm_c hne671589 (nm_c (rn_oa he671642 he671638) nm_n))).trans he671642
            have he671684 : F671662 q671198 = .inl (I .byte, n671199, .inl f671200) := (hfr671664 q671198 hm671607 (nm_c (rn_ao he671643 he671637) (nm_c hne671620 nm_n))).trans he671643
            have hfr671685 : rFr [q669697] P669695 F669696 F671662 := rFr_call hsb671612 hfr671645 hfr671664 (fun b hb hn => ⟨(nm_c (fun e => hn (e ▸ List.mem_cons_self)) nm_n), (nm_c (fun e => hq671586 (e ▸ hb)) (nm_c (fun e => hq671611 (e ▸ hb)) nm_n))⟩)
            have hne671686 : q671198 ≠ q671652 := fun e => hq671670.elim (fun e2 => hne671620 (e.trans e2)) (fun n => n (e ▸ hm671607))
            have hne671687 : q671524 ≠ q671652 := fun e => hq671670.elim (fun e2 => hne671621 (e.trans e2)) (fun n => n (e ▸ hm671609))
            have bo671651' : gB o671651 1 16777216 := ⟨by omega, by omega⟩
            change G _ _ _ _ _ _ _ (.ref q671565 :: _) _ _ _
            refine G_widen (cs' := (4 + (g671196.toInt - p669700.toInt) : Int).toNat + 1 + 1 + 0 + 1) (sl' := (40 + 5 * (g671196.toInt - p669700.toInt) : Int).toNat + 4 + 16 + 0 + (2 * (n671653 - 16))) (by omega) (by omega) ?_
            refine G_widen (cs' := (7 + (g671196.toInt - p669700.toInt) : Int).toNat) (sl' := (60 + 10 * (g671196.toInt - p669700.toInt) : Int).toNat) (by omega) (by omega) ?_
            clear hm671602 hm671604 hm671605 hm671606 hm671607 hm671608 hm671609 hm671610 hq671611 hsb671612 hne671620 hne671621 he671637 he671638 bf671629 he671639 he671640 he671641 he671642 he671643 he671644 hfr671645 hsb671663 hfr671664 hq671670 hm671678; try clear x671631; try clear x671632; try clear r671649; try clear w671650; try clear dc671646; try clear ds671647; try clear hp671648
            refine G_ldcK (a := D.2 1000 35) dr_cX14_word_269 (fun _ _ _ h => gx_vk 35 rfl rfl h) ?_
            have hl35_671687 : (sb_35.length : Int) = 1 := rfl
            refine Gw_callV (As := [.ref (D.2 1000 35)]) (gV_ok D I) (cp_659602_StringBuilder_append l hl0 D I P671661 F671662 q671565 q671652 (D.2 1000 35) (D.2 1001 35) sb_35 0 o671651 f671654 n671653 hm671677 hm671669 he671665 he671667 (gx_sc 35 rfl rfl) (by omega) (by decide +kernel) (gB_w (gBl (show Int32.toInt 0 = 0 by decide)) (by decide) (by decide)) (gB_w bo671651' (by decide) (by decide)) bf671654 (by have qa0 : Int32.toInt 0 = 0 := (by decide); have qa1 : Int32.toInt 6 = 6 := (by decide); omega) (by have qa0 : Int32.toInt 0 = 0 := (by decide); have qa1 : Int32.toInt 6 = 6 := (by decide); omega) (by have qa0 : Int32.toInt 0 = 0 := (by decide); have qa1 : Int32.toInt 6 = 6 := (by decide); omega) (by have qa0 : Int32.toInt 0 = 0 := (by decide); have qa1 : Int32.toInt 6 = 6 := (by decide); omega)) dr_cX14_word_271 ⟨wr_8_195, wr_1_20, wr_8_143, by decide, rfl, (Nat.le_of_ble_eq_true rfl), (Nat.le_of_ble_eq_true rfl)⟩ wr_8_141 wr_8_142 hm671677 he671665 rfl (show (7 + (g671196.toInt - p669700.toInt) : Int).toNat + 1 ≤ ((16 * (p669699.toInt - p669700.toInt)).toNat) by first | omega | decide) (show (60 + 10 * (g671196.toInt - p669700.toInt) : Int).toNat + (4 * n671653 + 4 + 2 * sb_35.length) ≤ ((160 * (p669699.toInt - p669700.toInt)).toNat) by first | omega | decide) (Nat.le_of_ble_eq_true rfl) (fun r671692 w671693 dc671689 ds671690 hp671691 => ?_) (fun _ _ _ _ _ z => z.elim)
            obtain ⟨P671704, F671705, o671694, q671695, n671696, f671697, rfl, rfl, hsb671706, hfr671707, he671708, he671709, hm671710, hq671711, hdc, hds, bo671694, bf671697, x671698, x671699, x671700, x671701, x671702, ht671703⟩ := hp671691
            have hm671712 : q669697 ∈ P671704 := hsb671706 q669697 hm671671
            have hm671713 : q669698 ∈ P671704 := hsb671706 q669698 hm671672
            have hm671714 : q669728 ∈ P671704 := hsb671706 q669728 hm671673
            have hm671715 : q671198 ∈ P671704 := hsb671706 q671198 hm671674
            have hm671716 : q671523 ∈ P671704 := hsb671706 q671523 hm671675
            have hm671717 : q671524 ∈ P671704 := hsb671706 q671524 hm671676
            have hm671718 : q671565 ∈ P671704 := hsb671706 q671565 hm671677
            have hm671719 : q671652 ∈ P671704 := hsb671706 q671652 hm671669
            have hq671720 : q671695 ∉ P669695 := fun z => hq671711.elim (fun e => hq671679 (e ▸ z)) (fun n => n (hsb671680 _ z))
            have hsb671721 : rSub P669695 P671704 := rSub_tr hsb671680 hsb671706
            have he671722 : F671705 q669697 = .inr (19, [.ref q669698, .int p669699, .int g671196, .int 6, .int p669702, .int p669703, .int p669704, .ref q671523, .int p669706, .int p669707, .int p669708, .ref qo669709, .ref qo669710, .int p669711]) := (hfr671707 q669697 hm671671 (nm_c (fun h => hq671586 (h ▸ hmq669697)) (nm_c (fun h => hq671679 (h ▸ hmq669697)) nm_n))).trans he671681
            have he671723 : F671705 q669698 = .inl (I .byte, 8192, .inl f669712) := (hfr671707 q669698 hm671672 (nm_c (fun h => hq671586 (h ▸ hmq669698)) (nm_c (fun h => hq671679 (h ▸ hmq669698)) nm_n))).trans he671682
            have he671724 : F671705 q669728 = .inr (1, [.ref q671198, .int 0, .int 0, .int g671197]) := (hfr671707 q669728 hm671673 (nm_c hne671589 (nm_c (rn_oa he671683 he671667) nm_n))).trans he671683
            have he671725 : F671705 q671198 = .inl (I .byte, n671199, .inl f671200) := (hfr671707 q671198 hm671674 (nm_c (rn_ao he671684 he671665) (nm_c hne671686 nm_n))).trans he671684
            have he671726 : F671705 q671523 = .inr (0, [.ref q671524, .int 0, .int 0, .int 0]) := (hfr671707 q671523 hm671675 (nm_c (rn_oo he671666 he671665 (by decide)) (nm_c (rn_oa he671666 he671667) nm_n))).trans he671666
            have he671727 : F671705 q671524 = .inl (I .byte, n671525, .inl f671526) := (hfr671707 q671524 hm671676 (nm_c (rn_ao he671668 he671665) (nm_c hne671687 nm_n))).trans he671668
            have hfr671728 : rFr [q669697] P669695 F669696 F671705 := rFr_call hsb671680 hfr671685 hfr671707 (fun b hb hn => ⟨(nm_c (fun e => hn (e ▸ List.mem_cons_self)) nm_n), (nm_c (fun e => hq671586 (e ▸ hb)) (nm_c (fun e => hq671679 (e ▸ hb)) nm_n))⟩)
            have hne671729 : q671198 ≠ q671695 := fun e => hq671711.elim (fun e2 => hne671686 (e.trans e2)) (fun n => n (e ▸ hm671674))
            have hne671730 : q671524 ≠ q671695 := fun e => hq671711.elim (fun e2 => hne671687 (e.trans e2)) (fun n => n (e ▸ hm671676))
            have bo671694' : gB o671694 2 16777216 := ⟨by omega, by omega⟩
            change G _ _ _ _ _ _ _ (.ref q671565 :: _) _ _ _
            refine G_widen (cs' := (7 + (g671196.toInt - p669700.toInt) : Int).toNat + 1) (sl' := (60 + 10 * (g671196.toInt - p669700.toInt) : Int).toNat + (2 * (n671696 - n671653))) (by omega) (by omega) ?_
            refine G_widen (cs' := (8 + (g671196.toInt - p669700.toInt) : Int).toNat) (sl' := (60 + 15 * (g671196.toInt - p669700.toInt) : Int).toNat) (by omega) (by omega) ?_
            clear he671665 he671666 he671667 he671668 hm671669 bf671654 hm671671 hm671672 hm671673 hm671674 hm671675 hm671676 hm671677 hq671679 hsb671680 he671681 he671682 he671683 he671684 hfr671685 hne671686 hne671687 hsb671706 hfr671707 hq671711 hm671719; try clear r671692; try clear w671693; try clear dc671689; try clear ds671690; try clear hp671691
            refine Gw_callV (As := []) (gV_ok D I) (cp_659727_StringBuilder_toString l hl0 D I P671704 F671705 q671565 q671695 0 o671694 f671697 n671696 hm671718 hm671710 he671708 he671709 (gB_w (gBl (show Int32.toInt 0 = 0 by decide)) (by decide) (by decide)) (gB_w bo671694' (by decide) (by decide)) bf671697 (by have qa0 : Int32.toInt 0 = 0 := (by decide); have qa1 : Int32.toInt 6 = 6 := (by decide); omega) (by have qa0 : Int32.toInt 0 = 0 := (by decide); have qa1 : Int32.toInt 6 = 6 := (by decide); omega)) dr_cX14_word_274 ⟨wr_8_66, wr_1_20, wr_8_69, by decide, rfl, (Nat.le_of_ble_eq_true rfl), (Nat.le_of_ble_eq_true rfl)⟩ wr_8_67 wr_8_68 hm671718 he671708 rfl (show (8 + (g671196.toInt - p669700.toInt) : Int).toNat + 2 ≤ ((16 * (p669699.toInt - p669700.toInt)).toNat) by first | omega | decide) (show (60 + 15 * (g671196.toInt - p669700.toInt) : Int).toNat + (o671694.toInt.toNat + 4) ≤ ((160 * (p669699.toInt - p669700.toInt)).toNat) by first | omega | decide) (Nat.le_of_ble_eq_true rfl) (fun r671734 w671735 dc671731 ds671732 hp671733 => ?_) (fun _ _ _ _ _ z => z.elim)
            obtain ⟨P671743, F671744, q671736, q671737, n671738, f671739, rfl, rfl, hsb671745, hfr671746, he671747, he671748, he671749, he671750, hm671751, hq671752, hm671753, hq671754, hdc, hds, bf671739, x671740, x671741, ht671742⟩ := hp671733
            have hm671755 : q669697 ∈ P671743 := hsb671745 q669697 hm671712
            have hm671756 : q669698 ∈ P671743 := hsb671745 q669698 hm671713
            have hm671757 : q669728 ∈ P671743 := hsb671745 q669728 hm671714
            have hm671758 : q671198 ∈ P671743 := hsb671745 q671198 hm671715
            have hm671759 : q671523 ∈ P671743 := hsb671745 q671523 hm671716
            have hm671760 : q671524 ∈ P671743 := hsb671745 q671524 hm671717
            have hm671761 : q671565 ∈ P671743 := hsb671745 q671565 hm671718
            have hm671762 : q671695 ∈ P671743 := hsb671745 q671695 hm671710
            have hq671763 : q671736 ∉ P669695 := fun z => hq671752 (hsb671721 q671736 z)
            have hq671764 : q671737 ∉ P669695 := fun z => hq671754 (hsb671721 q671737 z)
            have hsb671765 : rSub P669695 P671743 := rSub_tr hsb671721 hsb671745
            have he671766 : F671744 q669697 = .inr (19, [.ref q669698, .int p669699, .int g671196, .int 6, .int p669702, .int p669703, .int p669704, .ref q671523, .int p669706, .int p669707, .int p669708, .ref qo669709, .ref qo669710, .int p669711]) := (hfr671746 q669697 hm671712 nm_n).trans he671722
            have he671767 : F671744 q669698 = .inl (I .byte, 8192, .inl f669712) := (hfr671746 q669698 hm671713 nm_n).trans he671723
            have he671768 : F671744 q669728 = .inr (1, [.ref q671198, .int 0, .int 0, .int g671197]) := (hfr671746 q669728 hm671714 nm_n).trans he671724
            have he671769 : F671744 q671198 = .inl (I .byte, n671199, .inl f671200) := (hfr671746 q671198 hm671715 nm_n).trans he671725
            have he671770 : F671744 q671523 = .inr (0, [.ref q671524, .int 0, .int 0, .int 0]) := (hfr671746 q671523 hm671716 nm_n).trans he671726
            have he671771 : F671744 q671524 = .inl (I .byte, n671525, .inl f671526) := (hfr671746 q671524 hm671717 nm_n).trans he671727
            have hfr671772 : rFr [q669697] P669695 F669696 F671744 := rFr_call hsb671721 hfr671728 hfr671746 (fun b hb hn => ⟨(nm_c (fun e => hn (e ▸ List.mem_cons_self)) nm_n), nm_n⟩)
            have hne671773 : q671523 ≠ q671736 := fun h => hq671752 (h ▸ hm671716)
            have hne671774 : q671198 ≠ q671737 := fun h => hq671754 (h ▸ hm671715)
            have hne671775 : q671524 ≠ q671737 := fun h => hq671754 (h ▸ hm671717)
            have hne671776 : q671695 ≠ q671737 := fun h => hq671754 (h ▸ hm671710)
            change G _ _ _ _ _ _ _ (.ref q671736 :: _) _ _ _
            refine G_widen (cs' := (8 + (g671196.toInt - p669700.toInt) : Int).toNat + 2) (sl' := (60 + 15 * (g671196.toInt - p669700.toInt) : Int).toNat + (o671694.toInt.toNat + 4)) (by omega) (by omega) ?_
            refine G_widen (cs' := (10 + (g671196.toInt - p669700.toInt) : Int).toNat) (sl' := (66 + 16 * (g671196.toInt - p669700.toInt) : Int).toNat) (by omega) (by omega) ?_
            clear hq671586 hne671589 he671708 he671709 hm671710 bf671697 hm671712 hm671713 hm671714 hm671715 hm671716 hm671717 hm671718 hq671720 hsb671721 he671722 he671723 he671724 he671725 he671726 he671727 hfr671728 hne671729 hne671730 hsb671745 hfr671746 he671748 he671749 hq671752 hq671754 hm671761 hm671762 hne671776; try clear r671734; try clear w671735; try clear dc671731; try clear ds671732; try clear hp671733; try clear x671741
            refine Gw_callVk (As := [.ref q671736]) (gV_ok D I) (cp_660186_String_indexOf l hl0 D I P671743 F671744 q671736 q671737 (D.2 1000 34) (D.2 1001 34) sb_34 0 0 f671739 n671738 hm671751 hm671753 he671747 he671750 (gx_sc 34 rfl rfl) (by omega) (by decide +kernel) (gB_w (gBl (show Int32.toInt 0 = 0 by decide)) (by decide) (by decide)) bf671739 (by have qa0 : Int32.toInt 0 = 0 := (by decide); have qa1 : Int32.toInt 6 = 6 := (by decide); omega) (by have qa0 : Int32.toInt 0 = 0 := (by decide); have qa1 : Int32.toInt 6 = 6 := (by decide); omega)) dr_cX14_word_277 ⟨wr_8_196, wr_1_21, wr_8_199, by decide, rfl, (Nat.le_of_ble_eq_true rfl), (Nat.le_of_ble_eq_true rfl)⟩ wr_8_197 wr_8_198 (fun _ _ _ h => ((gx_sc 34 rfl rfl) _ _ _ h).1) (show (10 + (g671196.toInt - p669700.toInt) : Int).toNat + 0 ≤ ((16 * (p669699.toInt - p669700.toInt)).toNat) by first | omega | decide) (show (66 + 16 * (g671196.toInt - p669700.toInt) : Int).toNat + 0 ≤ ((160 * (p669699.toInt - p669700.toInt)).toNat) by first | omega | decide) (Nat.le_of_ble_eq_true rfl) (fun r671780 w671781 dc671777 ds671778 hp671779 => ?_) (fun _ _ _ _ _ z => z.elim)
            obtain ⟨o671782, rfl, rfl, hdc, hds, bo671782, x671783, x671784, ht671785⟩ := hp671779
            change G _ _ _ _ _ _ _ (.int o671782 :: _) _ _ _
            refine G_widen (cs' := (10 + (g671196.toInt - p669700.toInt) : Int).toNat + 0) (sl' := (66 + 16 * (g671196.toInt - p669700.toInt) : Int).toNat + 0) (by omega) (by omega) ?_
            clear he671747 he671750 hm671751 hm671753 bf671739 hq671763 hq671764 hne671773 hne671774 hne671775; try clear r671780; try clear w671781; try clear dc671777; try clear ds671778; try clear hp671779; try clear x671784
            refine G_if_lt 288 dr_cX14_word_280 (by decide +kernel) (fun hc671786 => ?_) (fun hc671786 => ?_)
            · have r671787 : o671782.toInt < 0 := gj_lt hc671786 (show Int32.toInt 0 = 0 by decide)
              have bo671782' : gB o671782 (-2147483646) (-1) := ⟨by omega, by omega⟩
              exact G_vretA dr_cX14_word_288 rfl (show (10 + (g671196.toInt - p669700.toInt) : Int).toNat + 0 ≤ ((16 * (p669699.toInt - p669700.toInt)).toNat) by omega) (show (66 + 16 * (g671196.toInt - p669700.toInt) : Int).toNat + 0 ≤ ((160 * (p669699.toInt - p669700.toInt)).toNat) by omega) ⟨P671743, F671744, g671196, 6, p669703, q671523, (0, fun _ => 0), rfl, rfl, hsb671765, hfr671772, he671766, he671767, (by omega), (by omega), (gB_w bg671196' (by decide) (by decide)), (gB_w (gBl (show Int32.toInt 6 = 6 by decide)) (by decide) (by decide)), (by have qa0 : Int32.toInt 0 = 0 := (by decide); have qa1 : Int32.toInt 6 = 6 := (by decide); omega), (by have qa0 : Int32.toInt 0 = 0 := (by decide); have qa1 : Int32.toInt 6 = 6 := (by decide); omega), (tP_no (by decide) (by decide)), (vP_no (by decide) (by decide)), (fun R c1 c2 c3 c4 c5 c6 => c1 z669719 g671196 g671197 n671199 f671200 n671525 f671526 o671628 f671629 o671651 n671653 f671654 o671694 n671696 f671697 n671738 f671739 o671782 hz669719 bz669719 hJ669727 hx671516 ht671529 bo671628 ht671633 bo671651 ht671660 bo671694 ht671703 ht671742 bo671782 ht671785 r671787)⟩
            · have r671788 : 0 ≤ o671782.toInt := gj_nlt hc671786 (show Int32.toInt 0 = 0 by decide)
              have bo671782' : gB o671782 0 16777215 := ⟨by omega, by omega⟩
              refine G_aload_n 2 dr_cX14_word_283 rfl ?_
              refine G_iconst 1 dr_cX14_word_284 (by decide +kernel) ?_
              refine Gp_put 3 hm671755 he671766 dr_cX14_word_285 (gk_X14 D I) (Nat.le_of_ble_eq_true rfl) wr_9_39 rfl rfl rfl (Nat.le_of_ble_eq_true rfl) (fun F671789 e671790 n671791 => ?_)
              have he671792 : F671789 q669698 = .inl (I .byte, 8192, .inl f669712) := (n671791 q669698 (rn_ao he671767 he671766)).trans he671767
              have he671793 : F671789 q669728 = .inr (1, [.ref q671198, .int 0, .int 0, .int g671197]) := (n671791 q669728 (fun h => hq669741 (h ▸ hmq669697))).trans he671768
              have he671794 : F671789 q671198 = .inl (I .byte, n671199, .inl f671200) := (n671791 q671198 (fun h => hq671201 (h ▸ hmq669697))).trans he671769
              have he671795 : F671789 q671523 = .inr (0, [.ref q671524, .int 0, .int 0, .int 0]) := (n671791 q671523 (fun h => hq671546 (h ▸ hmq669697))).trans he671770
              have he671796 : F671789 q671524 = .inl (I .byte, n671525, .inl f671526) := (n671791 q671524 (fun h => hq671547 (h ▸ hmq669697))).trans he671771
              have he671797 : F671789 q669697 = .inr (19, [.ref q669698, .int p669699, .int g671196, .int 1, .int p669702, .int p669703, .int p669704, .ref q671523, .int p669706, .int p669707, .int p669708, .ref qo669709, .ref qo669710, .int p669711]) := e671790
              have hfr671798 : rFr [q669697] P669695 F669696 F671789 := rFr_put' List.mem_cons_self hfr671772 n671791
              exact G_vretA dr_cX14_word_288 rfl (show (10 + (g671196.toInt - p669700.toInt) : Int).toNat + 0 ≤ ((16 * (p669699.toInt - p669700.toInt)).toNat) by omega) (show (66 + 16 * (g671196.toInt - p669700.toInt) : Int).toNat + 0 ≤ ((160 * (p669699.toInt - p669700.toInt)).toNat) by omega) ⟨P671743, F671789, g671196, 1, p669703, q671523, (n671525, f671526), rfl, rfl, hsb671765, hfr671798, he671797, he671792, (by omega), (by omega), (gB_w bg671196' (by decide) (by decide)), (gB_w (gBl (show Int32.toInt 1 = 1 by decide)) (by decide) (by decide)), (by have qa0 : Int32.toInt 0 = 0 := (by decide); have qa1 : Int32.toInt 1 = 1 := (by decide); omega), (by have qa0 : Int32.toInt 0 = 0 := (by decide); have qa1 : Int32.toInt 1 = 1 := (by decide); omega), (tP_1 hm671759 he671795 hm671760 he671796 bf671526 (by omega) (gB_w (gBl (show Int32.toInt 0 = 0 by decide)) (by decide) (by decide)) (fun e => hq671547 (e ▸ x669716)) (fun e => hq671547 (e ▸ x669717))), (vP_no (by decide) (by decide)), (fun R c1 c2 c3 c4 c5 c6 => c2 z669719 g671196 g671197 n671199 f671200 n671525 f671526 o671628 f671629 o671651 n671653 f671654 o671694 n671696 f671697 n671738 f671739 o671782 hz669719 bz669719 hJ669727 hx671516 ht671529 bo671628 ht671633 bo671651 ht671660 bo671694 ht671703 ht671742 bo671782 ht671785 r671788)⟩
          · have r671799 : o671511.toInt ≠ 0 := gj_neq hc671514 (show Int32.toInt 0 = 0 by decide)
            have bo671511' : gB o671511 1 1 := ⟨by omega, by omega⟩
            have bi671800 : gB z671505 97 122 := isP_1 x671512 (by omega)
            refine G_aload_n 0 dr_cX14_word_212 rfl ?_
            refine G_aload_n 2 dr_cX14_word_213 rfl ?_
            refine Gp_get 0 hm671209 he671203 dr_cX14_word_214 (gk_X14 D I) (Nat.le_of_ble_eq_true rfl) wr_9_36 rfl ?_
            refine G_aload_n 2 dr_cX14_word_217 rfl ?_
            refine Gp_get 2 hm671209 he671203 dr_cX14_word_218 (gk_X14 D I) (Nat.le_of_ble_eq_true rfl) wr_9_38 rfl ?_
            refine Gp_bald 1 hm671210 he671204 dr_cX14_word_221 rfl (gB_in bg671196' (by decide) (by decide)) (G_eqi (y := z671505) hz671505.symm ?_)
            refine G_i2c dr_cX14_word_222 (G_nam fun z671801 hz671801 => ?_)
            have ez671801 : z671801.toInt = z671505.toInt := gI_i2c hz671801 (by omega) (by omega)
            have bz671801 : gB z671801 97 122 := ⟨by omega, by omega⟩
            refine Gw_callV (As := [.int z671801]) (gV_ok D I) (cp_670386_StringBuilder_append l hl0 D I P671208 F671202 q669728 q671198 z671801 0 g671197 f671200 n671199 hm671211 hm671212 he671205 he671206 (gB_w bz671801 (by decide) (by decide)) (gB_w (gBl (show Int32.toInt 0 = 0 by decide)) (by decide) (by decide)) bg671197 bf671200 (by have qa0 : Int32.toInt 0 = 0 := (by decide); have qa1 : Int32.toInt 6 = 6 := (by decide); omega) (by have qa0 : Int32.toInt 0 = 0 := (by decide); have qa1 : Int32.toInt 6 = 6 := (by decide); omega) (by have qa0 : Int32.toInt 0 = 0 := (by decide); have qa1 : Int32.toInt 6 = 6 := (by decide); omega) (by have qa0 : Int32.toInt 0 = 0 := (by decide); have qa1 : Int32.toInt 6 = 6 := (by decide); omega)) dr_cX14_word_223 ⟨wr_7_237, wr_1_20, wr_8_0, by decide, rfl, (Nat.le_of_ble_eq_true rfl), (Nat.le_of_ble_eq_true rfl)⟩ wr_7_238 wr_7_239 hm671211 he671205 rfl (show 2 + (g671197.toInt : Int).toNat + 0 + 1 ≤ ((16 * (p669699.toInt - p669700.toInt)).toNat) by first | omega | decide) (show 4 + 2 * n671199 + 0 + (4 * n671199 + 8) ≤ ((160 * (p669699.toInt - p669700.toInt)).toNat) by first | omega | decide) (Nat.le_of_ble_eq_true rfl) (fun r671805 w671806 dc671802 ds671803 hp671804 => ?_) (fun _ _ _ _ _ z => z.elim)
            obtain ⟨P671817, F671818, o671807, q671808, n671809, f671810, rfl, rfl, hsb671819, hfr671820, he671821, he671822, hm671823, hq671824, hdc, hds, bo671807, bf671810, x671811, x671812, x671813, x671814, x671815, ht671816⟩ := hp671804
            have hm671825 : q669697 ∈ P671817 := hsb671819 q669697 hm671209
            have hm671826 : q669698 ∈ P671817 := hsb671819 q669698 hm671210
            have hm671827 : q669728 ∈ P671817 := hsb671819 q669728 hm671211
            have hm671828 : q671198 ∈ P671817 := hsb671819 q671198 hm671212
            have hq671829 : q671808 ∉ P669695 := fun z => hq671824.elim (fun e => hq671201 (e ▸ z)) (fun n => n (hsb671213 _ z))
            have hsb671830 : rSub P669695 P671817 := rSub_tr hsb671213 hsb671819
            have he671831 : F671818 q669697 = .inr (19, [.ref q669698, .int p669699, .int g671196, .int 6, .int p669702, .int p669703, .int p669704, .ref qo669705, .int p669706, .int p669707, .int p669708, .ref qo669709, .ref qo669710, .int p669711]) := (hfr671820 q669697 hm671209 (nm_c (fun h => hq671201 (h ▸ hmq669697)) (nm_c (fun h => hq669741 (h ▸ hmq669697)) nm_n))).trans he671203
            have he671832 : F671818 q669698 = .inl (I .byte, 8192, .inl f669712) := (hfr671820 q669698 hm671210 (nm_c (fun h => hq671201 (h ▸ hmq669698)) (nm_c (fun h => hq669741 (h ▸ hmq669698)) nm_n))).trans he671204
            have hfr671833 : rFr [q669697] P669695 F669696 F671818 := rFr_call hsb671213 hfr671207 hfr671820 (fun b hb hn => ⟨(nm_c (fun e => hn (e ▸ List.mem_cons_self)) nm_n), (nm_c (fun e => hq671201 (e ▸ hb)) (nm_c (fun e => hq669741 (e ▸ hb)) nm_n))⟩)
            change G _ _ _ _ _ _ _ (.ref q669728 :: _) _ _ _
            refine G_widen (cs' := 2 + (g671197.toInt : Int).toNat + 0 + 1) (sl' := 4 + 2 * n671199 + 0 + (2 * (n671809 - n671199))) (by omega) (by omega) ?_
            refine G_pop dr_cX14_word_226 rfl ?_
            refine G_aload_n 2 dr_cX14_word_227 rfl ?_
            refine G_dup dr_cX14_word_228 rfl ?_
            refine Gp_get 2 hm671825 he671831 dr_cX14_word_229 (gk_X14 D I) (Nat.le_of_ble_eq_true rfl) wr_9_38 rfl ?_
            refine G_iconst 1 dr_cX14_word_232 (by decide +kernel) ?_
            refine G_iadd dr_cX14_word_233 (G_nam fun z671834 hz671834 => ?_)
            have ez671834 : z671834.toInt = g671196.toInt + 1 := by rw [gI_add hz671834 bg671196' (gBl (show Int32.toInt 1 = 1 by decide)) (by decide) (by decide), show Int32.toInt 1 = 1 from by decide]
            have bz671834 : gB z671834 1 8192 := gB_add (gI_add hz671834 bg671196' (gBl (show Int32.toInt 1 = 1 by decide)) (by decide) (by decide)) bg671196' (gBl (show Int32.toInt 1 = 1 by decide)) (by decide) (by decide)
            refine Gp_put 2 hm671825 he671831 dr_cX14_word_234 (gk_X14 D I) (Nat.le_of_ble_eq_true rfl) wr_9_38 rfl rfl rfl (Nat.le_of_ble_eq_true rfl) (fun F671835 e671836 n671837 => ?_)
            have he671838 : F671835 q669698 = .inl (I .byte, 8192, .inl f669712) := (n671837 q669698 (rn_ao he671832 he671831)).trans he671832
            have he671839 : F671835 q669728 = .inr (1, [.ref q671808, .int 0, .int 0, .int o671807]) := (n671837 q669728 (fun h => hq669741 (h ▸ hmq669697))).trans he671821
            have he671840 : F671835 q671808 = .inl (I .byte, n671809, .inl f671810) := (n671837 q671808 (fun h => hq671829 (h ▸ hmq669697))).trans he671822
            have he671841 : F671835 q669697 = .inr (19, [.ref q669698, .int p669699, .int z671834, .int 6, .int p669702, .int p669703, .int p669704, .ref qo669705, .int p669706, .int p669707, .int p669708, .ref qo669709, .ref qo669710, .int p669711]) := e671836
            have hfr671842 : rFr [q669697] P669695 F669696 F671835 := rFr_put' List.mem_cons_self hfr671833 n671837
            refine G_goto 186 dr_cX14_word_237 (by decide +kernel) ?_
            refine G_widen (cs' := 2 + (o671807.toInt : Int).toNat) (sl' := 4 + 2 * n671809) (by omega) (by omega) ?_
            exact ih186_671218 P671817 F671835 z671834 o671807 q671808 n671809 f671810 (gB_w bz671834 (by decide) (by decide)) (gB_w bo671807 (by decide) (by decide)) bf671810 hsb671830 hfr671842 hm671825 he671841 hm671826 he671838 hm671827 he671839 hm671823 he671840 hq671829 (by have qa0 : Int32.toInt 0 = 0 := (by decide); have qa1 : Int32.toInt 6 = 6 := (by decide); omega) (by have qa0 : Int32.toInt 0 = 0 := (by decide); have qa1 : Int32.toInt 6 = 6 := (by decide); omega) (by have qa0 : Int32.toInt 0 = 0 := (by decide); have qa1 : Int32.toInt 6 = 6 := (by decide); omega) (by have qa0 : Int32.toInt 0 = 0 := (by decide); have qa1 : Int32.toInt 6 = 6 := (by decide); omega) (by have qa0 : Int32.toInt 0 = 0 := (by decide); have qa1 : Int32.toInt 6 = 6 := (by decide); omega) (fun k e1 e2 e3 e4 ht => kt186_671218 k e1 e2 e3 e4 (fun R c1 c2 c3 => c3 g671196 g671197 n671199 f671200 z671505 o671511 z671801 o671807 n671809 f671810 z671834 k e1 e2 e3 e4 bg671196 bg671197 r671504 hz671505 bz671505 bo671511 ht671513 r671799 hz671801 bo671807 ht671816 ez671834 (ht R c1 c2 c3))) (by have qa0 : Int32.toInt 0 = 0 := (by decide); have qa1 : Int32.toInt 6 = 6 := (by decide); omega)
    exact hlp186_671218 (((8193 : Int) - p669700.toInt).toNat + 1) P669750 F669751 p669700 0 q669749 16 (fun _ => 0) bp669700 (gB_w (gBl (show Int32.toInt 0 = 0 by decide)) (by decide) (by decide)) (gF_w gF_0 (by decide) (by decide)) hsb669762 hfr669765 hm669758 he669763 hm669759 he669764 hm669760 he669754 hm669756 he669755 hq669761 (by have qa0 : Int32.toInt 0 = 0 := (by decide); have qa1 : Int32.toInt 6 = 6 := (by decide); omega) (by have qa0 : Int32.toInt 0 = 0 := (by decide); have qa1 : Int32.toInt 6 = 6 := (by decide); omega) (by have qa0 : Int32.toInt 0 = 0 := (by decide); have qa1 : Int32.toInt 6 = 6 := (by decide); omega) (by have qa0 : Int32.toInt 0 = 0 := (by decide); have qa1 : Int32.toInt 6 = 6 := (by decide); omega) (by have qa0 : Int32.toInt 0 = 0 := (by decide); have qa1 : Int32.toInt 6 = 6 := (by decide); omega) (fun k e1 e2 e3 e4 ht => ht) (Nat.lt_succ_self _)
  refine G_iload_n 0 dr_cX14_word_16 rfl ?_
  refine G_bipush 118 dr_cX14_word_17 (by decide +kernel) ?_
  refine G_icmp_eq 28 dr_cX14_word_19 (by decide +kernel) (fun hc671843 => ?_) (fun hc671843 => ?_)
  · have r671844 : z669719.toInt = 118 := gj_eq hc671843 (show Int32.toInt 118 = 118 by decide)
    have bz669719' : gB z669719 118 118 := ⟨by omega, by omega⟩
    refine G_aload_n 1 dr_cX14_word_28 rfl ?_
    refine Gp_get 2 hmq669697 he669724 dr_cX14_word_29 (gk_X14 D I) (Nat.le_of_ble_eq_true rfl) wr_9_38 rfl ?_
    refine G_iconst 1 dr_cX14_word_32 (by decide +kernel) ?_
    refine G_iadd dr_cX14_word_33 (G_nam fun z671845 hz671845 => ?_)
    have ez671845 : z671845.toInt = p669700.toInt + 1 := by rw [gI_add hz671845 bp669700 (gBl (show Int32.toInt 1 = 1 by decide)) (by decide) (by decide), show Int32.toInt 1 = 1 from by decide]
    have bz671845 : gB z671845 1 8193 := gB_add (gI_add hz671845 bp669700 (gBl (show Int32.toInt 1 = 1 by decide)) (by decide) (by decide)) bp669700 (gBl (show Int32.toInt 1 = 1 by decide)) (by decide) (by decide)
    refine G_aload_n 1 dr_cX14_word_34 rfl ?_
    refine Gp_get 1 hmq669697 he669724 dr_cX14_word_35 (gk_X14 D I) (Nat.le_of_ble_eq_true rfl) wr_9_37 rfl ?_
    refine G_icmp_ge 178 dr_cX14_word_38 (by decide +kernel) (fun hc671846 => ?_) (fun hc671846 => ?_)
    · have r671847 : p669699.toInt ≤ z671845.toInt := gC_le hc671846
      refine G_lv (L' := [(1, .int z669719), (0, .ref q669697)]) [0, 1] rfl ?_
      exact jn669726 (Or.inl ⟨z671845, r671844, ez671845, r671847⟩)
    · have r671848 : z671845.toInt < p669699.toInt := gC_nle hc671846
      have bz671845' : gB z671845 1 8191 := ⟨by omega, by omega⟩
      have bp669699' : gB p669699 2 8192 := ⟨by omega, by omega⟩
      refine G_aload_n 1 dr_cX14_word_41 rfl ?_
      refine Gp_get 0 hmq669697 he669724 dr_cX14_word_42 (gk_X14 D I) (Nat.le_of_ble_eq_true rfl) wr_9_36 rfl ?_
      refine G_aload_n 1 dr_cX14_word_45 rfl ?_
      refine Gp_get 2 hmq669697 he669724 dr_cX14_word_46 (gk_X14 D I) (Nat.le_of_ble_eq_true rfl) wr_9_38 rfl ?_
      refine G_iconst 1 dr_cX14_word_49 (by decide +kernel) ?_
      refine G_iadd dr_cX14_word_50 (G_eqi (y := z671845) hz671845.symm ?_)
      refine Gp_bald 1 hmq669698 he669723 dr_cX14_word_51 rfl (gB_in bz671845' (by decide) (by decide)) (G_nam fun z671849 hz671849 => ?_)
      have bz671849 : gB z671849 (-128) 127 := by rw [hz671849]; exact bf669712 _
      refine Gw_callS (As := [.int z671849]) (gV_ok D I) (cp_668112_Reader_isDigit l hl0 D I P669695 F669720 z671849 ) dr_cX14_word_52 ⟨wr_7_219, wr_1_32, wr_7_221, by decide, rfl, (Nat.le_of_ble_eq_true rfl), (Nat.le_of_ble_eq_true rfl)⟩ wr_7_220 (show 0 + 0 ≤ ((16 * (p669699.toInt - p669700.toInt)).toNat) by first | omega | decide) (show 0 + 0 ≤ ((160 * (p669699.toInt - p669700.toInt)).toNat) by first | omega | decide) (Nat.le_of_ble_eq_true rfl) (fun r671853 w671854 dc671850 ds671851 hp671852 => ?_) (fun _ _ _ _ _ z => z.elim)
      obtain ⟨o671855, rfl, rfl, hdc, hds, bo671855, x671856, ht671857⟩ := hp671852
      change G _ _ _ _ _ _ _ (.int o671855 :: _) _ _ _
      refine G_widen (cs' := 0) (sl' := 0) (by omega) (by omega) ?_
      refine G_if_eq 178 dr_cX14_word_55 (by decide +kernel) (fun hc671858 => ?_) (fun hc671858 => ?_)
      · have r671859 : o671855.toInt = 0 := gj_eq hc671858 (show Int32.toInt 0 = 0 by decide)
        have bo671855' : gB o671855 0 0 := ⟨by omega, by omega⟩
        refine G_lv (L' := [(1, .int z669719), (0, .ref q669697)]) [0, 1] rfl ?_
        exact jn669726 (Or.inr (Or.inl ⟨z671845, z671849, o671855, r671844, ez671845, r671848, hz671849, bz671849, bo671855, ht671857, r671859⟩))
      · have r671860 : o671855.toInt ≠ 0 := gj_neq hc671858 (show Int32.toInt 0 = 0 by decide)
        have bo671855' : gB o671855 1 1 := ⟨by omega, by omega⟩
        have bi671861 : gB z671849 48 57 := isP_1 x671856 (by omega)
        refine G_lconst 0 dr_cX14_word_58 rfl ?_
        refine G_lstore_n (L' := [(2, .long 0), (1, .int z669719), (0, .ref q669697)]) dr_cX14_word_59 (Nat.le_of_ble_eq_true rfl) rfl ?_
        refine G_aload_n 2 dr_cX14_word_60 rfl ?_
        refine G_dup dr_cX14_word_61 rfl ?_
        refine Gp_get 2 hmq669697 he669724 dr_cX14_word_62 (gk_X14 D I) (Nat.le_of_ble_eq_true rfl) wr_9_38 rfl ?_
        refine G_iconst 1 dr_cX14_word_65 (by decide +kernel) ?_
        refine G_iadd dr_cX14_word_66 (G_eqi (y := z671845) hz671845.symm ?_)
        refine Gp_put 2 hmq669697 he669724 dr_cX14_word_67 (gk_X14 D I) (Nat.le_of_ble_eq_true rfl) wr_9_38 rfl rfl rfl (Nat.le_of_ble_eq_true rfl) (fun F671862 e671863 n671864 => ?_)
        have he671865 : F671862 q669698 = .inl (I .byte, 8192, .inl f669712) := (n671864 q669698 (rn_ao he669723 he669724)).trans he669723
        have he671866 : F671862 q669697 = .inr (19, [.ref q669698, .int p669699, .int z671845, .int 6, .int p669702, .int p669703, .int p669704, .ref qo669705, .int p669706, .int p669707, .int p669708, .ref qo669709, .ref qo669710, .int p669711]) := e671863
        have hfr671867 : rFr [q669697] P669695 F669696 F671862 := rFr_put' List.mem_cons_self hfr669725 n671864
        have hlp70_672018 : ∀ (n70_672018 : Nat) (F672012 : Nat → va_E) (gl672010 : Int64) (g672011 : Int32), gB g672011 0 8192 → rFr [q669697] P669695 F669696 F672012 → F672012 q669697 = .inr (19, [.ref q669698, .int p669699, .int g672011, .int 6, .int p669702, .int p669703, .int p669704, .ref qo669705, .int p669706, .int p669707, .int p669708, .ref qo669709, .ref qo669710, .int p669711]) → F672012 q669698 = .inl (I .byte, 8192, .inl f669712) → LG gl672010 0 1000000 → p669700.toInt < g672011.toInt → g672011.toInt ≤ p669699.toInt → (∀ (k : Nat) (e1 : Int64) (e2 : Int32), tl_RReader_word_70 p669699 f669712 gl672010 g672011 k e1 e2 → tl_RReader_word_70 p669699 f669712 (0 : Int64) z671845 k e1 e2) → ((8193 : Int) - g672011.toInt).toNat < n70_672018 → G (gV D I) l (gRm 6 132 ((16 * (p669699.toInt - p669700.toInt)).toNat) ((160 * (p669699.toInt - p669700.toInt)).toNat)) (gMA (gV D I) (pp_669718_Reader_word D I P669695 F669696 q669697 q669698 p669699 p669700 p669701 p669702 p669703 p669704 qo669705 p669706 p669707 p669708 qo669709 qo669710 p669711 f669712) gNA ((16 * (p669699.toInt - p669700.toInt)).toNat) ((160 * (p669699.toInt - p669700.toInt)).toNat)) ky_669718_Reader_word 70 [(2, .long gl672010), (1, .int z669719), (0, .ref q669697)] [] (va_pl P669695 F672012) 0 0 := by
          intro n70_672018
          induction n70_672018 with
          | zero => intro F672012 gl672010 g672011 bg672011 hfr672015 he672013 he672014 x672016 x672017 x672018 kt70_672018 hm70_672018; exact absurd hm70_672018 (Nat.not_lt_zero _)
          | succ n70_672018 ih70_672018 =>
            intro F672012 gl672010 g672011 bg672011 hfr672015 he672013 he672014 x672016 x672017 x672018 kt70_672018 hm70_672018
            refine G_aload_n 2 dr_cX14_word_70 rfl ?_
            refine Gp_get 2 hmq669697 he672013 dr_cX14_word_71 (gk_X14 D I) (Nat.le_of_ble_eq_true rfl) wr_9_38 rfl ?_
            refine G_aload_n 2 dr_cX14_word_74 rfl ?_
            refine Gp_get 1 hmq669697 he672013 dr_cX14_word_75 (gk_X14 D I) (Nat.le_of_ble_eq_true rfl) wr_9_37 rfl ?_
            refine G_icmp_ge 136 dr_cX14_word_78 (by decide +kernel) (fun hc672019 => ?_) (fun hc672019 => ?_)
            · have r672020 : p669699.toInt ≤ g672011.toInt := gC_le hc672019
              have bg672011' : gB g672011 2 8192 := ⟨by omega, by omega⟩
              have hx672021 : tl_RReader_word_70 p669699 f669712 (0 : Int64) z671845 136 gl672010 g672011 := kt70_672018 136 gl672010 g672011 (fun R c1 c2 c3 => c1 gl672010 g672011 bg672011 r672020)
              clear he669723 he669724 hfr669725 jn669726 bz671845 bo671855' he671865 he671866 hfr671867; try clear r671853; try clear w671854; try clear dc671850; try clear ds671851; try clear hp671852; try clear x671856
              refine G_aload_n 2 dr_cX14_word_136 rfl ?_
              refine G_lload_n 0 dr_cX14_word_137 rfl ?_
              refine G_l2i dr_cX14_word_138 (G_nam fun z672022 hz672022 => ?_)
              have bz672022 : gB z672022 (-2147483648) 2147483647 := gB_any z672022
              refine Gp_put 5 hmq669697 he672013 dr_cX14_word_139 (gk_X14 D I) (Nat.le_of_ble_eq_true rfl) wr_9_41 rfl rfl rfl (Nat.le_of_ble_eq_true rfl) (fun F672023 e672024 n672025 => ?_)
              have he672026 : F672023 q669698 = .inl (I .byte, 8192, .inl f669712) := (n672025 q669698 (rn_ao he672014 he672013)).trans he672014
              have he672027 : F672023 q669697 = .inr (19, [.ref q669698, .int p669699, .int g672011, .int 6, .int p669702, .int z672022, .int p669704, .ref qo669705, .int p669706, .int p669707, .int p669708, .ref qo669709, .ref qo669710, .int p669711]) := e672024
              have hfr672028 : rFr [q669697] P669695 F669696 F672023 := rFr_put' List.mem_cons_self hfr672015 n672025
              refine G_lload_n 0 dr_cX14_word_142 rfl ?_
              refine G_iload_n 1 dr_cX14_word_143 rfl ?_
              refine G_bipush 118 dr_cX14_word_144 (by decide +kernel) ?_
              refine G_icmp_ne 155 dr_cX14_word_146 (by decide +kernel) (fun hc => absurd (show False by have := gj_neq hc (show Int32.toInt 118 = 118 by decide); omega) not_false) (fun _ => ?_)
              refine G_ldc2 99 dr_cX14_word_149 wr_7_233 ?_
              refine G_goto 158 dr_cX14_word_152 (by decide +kernel) ?_
              refine G_lcmp dr_cX14_word_158 (G_nam fun z672029 hz672029 => ?_)
              have bz672029 : gB z672029 (-1) 1 := gB_cmp hz672029
              refine G_if_gt 177 dr_cX14_word_159 (by decide +kernel) (fun hc672030 => ?_) (fun hc672030 => ?_)
              · have r672031 : 0 < z672029.toInt := gj_ltL hc672030 (show Int32.toInt 0 = 0 by decide)
                have bz672029' : gB z672029 1 1 := ⟨by omega, by omega⟩
                have lhc672030 := gC_cmpS hz672029 (by omega)
                exact G_vretA dr_cX14_word_177 rfl (show 0 ≤ ((16 * (p669699.toInt - p669700.toInt)).toNat) by omega) (show 0 ≤ ((160 * (p669699.toInt - p669700.toInt)).toNat) by omega) ⟨P669695, F672023, g672011, 6, z672022, qo669705, (0, fun _ => 0), rfl, rfl, (rSub_rf (P := P669695)), hfr672028, he672027, he672026, (by omega), (by omega), (gB_w bg672011' (by decide) (by decide)), (gB_w (gBl (show Int32.toInt 6 = 6 by decide)) (by decide) (by decide)), (by have qa0 : Int32.toInt 6 = 6 := (by decide); omega), (by have qa0 : Int32.toInt 6 = 6 := (by decide); omega), (tP_no (by decide) (by decide)), (vP_no (by decide) (by decide)), (fun R c1 c2 c3 c4 c5 c6 => c3 z669719 z671845 z671849 o671855 gl672010 g672011 z672022 z672029 hz669719 bz669719 r671844 ez671845 r671848 hz671849 bz671849 bo671855 ht671857 r671860 hx672021 hz672022 hz672029 r672031)⟩
              · have r672032 : z672029.toInt ≤ 0 := gj_nltL hc672030 (show Int32.toInt 0 = 0 by decide)
                have bz672029' : gB z672029 (-1) 0 := ⟨by omega, by omega⟩
                refine G_aload_n 2 dr_cX14_word_162 rfl ?_
                refine G_iload_n 1 dr_cX14_word_163 rfl ?_
                refine G_bipush 118 dr_cX14_word_164 (by decide +kernel) ?_
                refine G_icmp_ne 173 dr_cX14_word_166 (by decide +kernel) (fun hc => absurd (show False by have := gj_neq hc (show Int32.toInt 118 = 118 by decide); omega) not_false) (fun _ => ?_)
                refine G_iconst 2 dr_cX14_word_169 (by decide +kernel) ?_
                refine G_goto 174 dr_cX14_word_170 (by decide +kernel) ?_
                refine Gp_put 3 hmq669697 he672027 dr_cX14_word_174 (gk_X14 D I) (Nat.le_of_ble_eq_true rfl) wr_9_39 rfl rfl rfl (Nat.le_of_ble_eq_true rfl) (fun F672033 e672034 n672035 => ?_)
                have he672036 : F672033 q669698 = .inl (I .byte, 8192, .inl f669712) := (n672035 q669698 (rn_ao he672026 he672027)).trans he672026
                have he672037 : F672033 q669697 = .inr (19, [.ref q669698, .int p669699, .int g672011, .int 2, .int p669702, .int z672022, .int p669704, .ref qo669705, .int p669706, .int p669707, .int p669708, .ref qo669709, .ref qo669710, .int p669711]) := e672034
                have hfr672038 : rFr [q669697] P669695 F669696 F672033 := rFr_put' List.mem_cons_self hfr672028 n672035
                exact G_vretA dr_cX14_word_177 rfl (show 0 ≤ ((16 * (p669699.toInt - p669700.toInt)).toNat) by omega) (show 0 ≤ ((160 * (p669699.toInt - p669700.toInt)).toNat) by omega) ⟨P669695, F672033, g672011, 2, z672022, qo669705, (0, fun _ => 0), rfl, rfl, (rSub_rf (P := P669695)), hfr672038, he672037, he672036, (by omega), (by omega), (gB_w bg672011' (by decide) (by decide)), (gB_w (gBl (show Int32.toInt 2 = 2 by decide)) (by decide) (by decide)), (by have qa0 : Int32.toInt 2 = 2 := (by decide); omega), (by have qa0 : Int32.toInt 2 = 2 := (by decide); omega), (tP_no (by decide) (by decide)), (vP_r (by assumption) (by assumption) (by assumption) (by omega)), (fun R c1 c2 c3 c4 c5 c6 => c4 z669719 z671845 z671849 o671855 gl672010 g672011 z672022 z672029 hz669719 bz669719 r671844 ez671845 r671848 hz671849 bz671849 bo671855 ht671857 r671860 hx672021 hz672022 hz672029 r672032)⟩
            · have r672039 : g672011.toInt < p669699.toInt := gC_nle hc672019
              have bg672011' : gB g672011 0 8191 := ⟨by omega, by omega⟩
              refine G_aload_n 2 dr_cX14_word_81 rfl ?_
              refine Gp_get 0 hmq669697 he672013 dr_cX14_word_82 (gk_X14 D I) (Nat.le_of_ble_eq_true rfl) wr_9_36 rfl ?_
              refine G_aload_n 2 dr_cX14_word_85 rfl ?_
              refine Gp_get 2 hmq669697 he672013 dr_cX14_word_86 (gk_X14 D I) (Nat.le_of_ble_eq_true rfl) wr_9_38 rfl ?_
              refine Gp_bald 1 hmq669698 he672014 dr_cX14_word_89 rfl (gB_in bg672011' (by decide) (by decide)) (G_nam fun z672040 hz672040 => ?_)
              have bz672040 : gB z672040 (-128) 127 := by rw [hz672040]; exact bf669712 _
              refine Gw_callS (As := [.int z672040]) (gV_ok D I) (cp_668112_Reader_isDigit l hl0 D I P669695 F672012 z672040 ) dr_cX14_word_90 ⟨wr_7_219, wr_1_32, wr_7_221, by decide, rfl, (Nat.le_of_ble_eq_true rfl), (Nat.le_of_ble_eq_true rfl)⟩ wr_7_220 (show 0 + 0 ≤ ((16 * (p669699.toInt - p669700.toInt)).toNat) by first | omega | decide) (show 0 + 0 ≤ ((160 * (p669699.toInt - p669700.toInt)).toNat) by first | omega | decide) (Nat.le_of_ble_eq_true rfl) (fun r672044 w672045 dc672041 ds672042 hp672043 => ?_) (fun _ _ _ _ _ z => z.elim)
              obtain ⟨o672046, rfl, rfl, hdc, hds, bo672046, x672047, ht672048⟩ := hp672043
              change G _ _ _ _ _ _ _ (.int o672046 :: _) _ _ _
              refine G_widen (cs' := 0) (sl' := 0) (by omega) (by omega) ?_
              refine G_if_eq 136 dr_cX14_word_93 (by decide +kernel) (fun hc672049 => ?_) (fun hc672049 => ?_)
              · have r672050 : o672046.toInt = 0 := gj_eq hc672049 (show Int32.toInt 0 = 0 by decide)
                have bo672046' : gB o672046 0 0 := ⟨by omega, by omega⟩
                have hx672051 : tl_RReader_word_70 p669699 f669712 (0 : Int64) z671845 136 gl672010 g672011 := kt70_672018 136 gl672010 g672011 (fun R c1 c2 c3 => c2 gl672010 g672011 z672040 o672046 bg672011 r672039 hz672040 bz672040 bo672046 ht672048 r672050)
                clear he669723 he669724 hfr669725 jn669726 bz671845 bo671855' he671865 he671866 hfr671867 bo672046 ht672048 bo672046'; try clear r671853; try clear w671854; try clear dc671850; try clear ds671851; try clear hp671852; try clear x671856; try clear r672044; try clear w672045; try clear dc672041; try clear ds672042; try clear hp672043; try clear x672047; try clear r672050
                refine G_aload_n 2 dr_cX14_word_136 rfl ?_
                refine G_lload_n 0 dr_cX14_word_137 rfl ?_
                refine G_l2i dr_cX14_word_138 (G_nam fun z672052 hz672052 => ?_)
                have bz672052 : gB z672052 (-2147483648) 2147483647 := gB_any z672052
                refine Gp_put 5 hmq669697 he672013 dr_cX14_word_139 (gk_X14 D I) (Nat.le_of_ble_eq_true rfl) wr_9_41 rfl rfl rfl (Nat.le_of_ble_eq_true rfl) (fun F672053 e672054 n672055 => ?_)
                have he672056 : F672053 q669698 = .inl (I .byte, 8192, .inl f669712) := (n672055 q669698 (rn_ao he672014 he672013)).trans he672014
                have he672057 : F672053 q669697 = .inr (19, [.ref q669698, .int p669699, .int g672011, .int 6, .int p669702, .int z672052, .int p669704, .ref qo669705, .int p669706, .int p669707, .int p669708, .ref qo669709, .ref qo669710, .int p669711]) := e672054
                have hfr672058 : rFr [q669697] P669695 F669696 F672053 := rFr_put' List.mem_cons_self hfr672015 n672055
                refine G_lload_n 0 dr_cX14_word_142 rfl ?_
                refine G_iload_n 1 dr_cX14_word_143 rfl ?_
                refine G_bipush 118 dr_cX14_word_144 (by decide +kernel) ?_
                refine G_icmp_ne 155 dr_cX14_word_146 (by decide +kernel) (fun hc => absurd (show False by have := gj_neq hc (show Int32.toInt 118 = 118 by decide); omega) not_false) (fun _ => ?_)
                refine G_ldc2 99 dr_cX14_word_149 wr_7_233 ?_
                refine G_goto 158 dr_cX14_word_152 (by decide +kernel) ?_
                refine G_lcmp dr_cX14_word_158 (G_nam fun z672059 hz672059 => ?_)
                have bz672059 : gB z672059 (-1) 1 := gB_cmp hz672059
                refine G_if_gt 177 dr_cX14_word_159 (by decide +kernel) (fun hc672060 => ?_) (fun hc672060 => ?_)
                · have r672061 : 0 < z672059.toInt := gj_ltL hc672060 (show Int32.toInt 0 = 0 by decide)
                  have bz672059' : gB z672059 1 1 := ⟨by omega, by omega⟩
                  have lhc672060 := gC_cmpS hz672059 (by omega)
                  exact G_vretA dr_cX14_word_177 rfl (show 0 ≤ ((16 * (p669699.toInt - p669700.toInt)).toNat) by omega) (show 0 ≤ ((160 * (p669699.toInt - p669700.toInt)).toNat) by omega) ⟨P669695, F672053, g672011, 6, z672052, qo669705, (0, fun _ => 0), rfl, rfl, (rSub_rf (P := P669695)), hfr672058, he672057, he672056, (by omega), (by omega), (gB_w bg672011' (by decide) (by decide)), (gB_w (gBl (show Int32.toInt 6 = 6 by decide)) (by decide) (by decide)), (by have qa0 : Int32.toInt 6 = 6 := (by decide); omega), (by have qa0 : Int32.toInt 6 = 6 := (by decide); omega), (tP_no (by decide) (by decide)), (vP_no (by decide) (by decide)), (fun R c1 c2 c3 c4 c5 c6 => c3 z669719 z671845 z671849 o671855 gl672010 g672011 z672052 z672059 hz669719 bz669719 r671844 ez671845 r671848 hz671849 bz671849 bo671855 ht671857 r671860 hx672051 hz672052 hz672059 r672061)⟩
                · have r672062 : z672059.toInt ≤ 0 := gj_nltL hc672060 (show Int32.toInt 0 = 0 by decide)
                  have bz672059' : gB z672059 (-1) 0 := ⟨by omega, by omega⟩
                  refine G_aload_n 2 dr_cX14_word_162 rfl ?_
                  refine G_iload_n 1 dr_cX14_word_163 rfl ?_
                  refine G_bipush 118 dr_cX14_word_164 (by decide +kernel) ?_
                  refine G_icmp_ne 173 dr_cX14_word_166 (by decide +kernel) (fun hc => absurd (show False by have := gj_neq hc (show Int32.toInt 118 = 118 by decide); omega) not_false) (fun _ => ?_)
                  refine G_iconst 2 dr_cX14_word_169 (by decide +kernel) ?_
                  refine G_goto 174 dr_cX14_word_170 (by decide +kernel) ?_
                  refine Gp_put 3 hmq669697 he672057 dr_cX14_word_174 (gk_X14 D I) (Nat.le_of_ble_eq_true rfl) wr_9_39 rfl rfl rfl (Nat.le_of_ble_eq_true rfl) (fun F672063 e672064 n672065 => ?_)
                  have he672066 : F672063 q669698 = .inl (I .byte, 8192, .inl f669712) := (n672065 q669698 (rn_ao he672056 he672057)).trans he672056
                  have he672067 : F672063 q669697 = .inr (19, [.ref q669698, .int p669699, .int g672011, .int 2, .int p669702, .int z672052, .int p669704, .ref qo669705, .int p669706, .int p669707, .int p669708, .ref qo669709, .ref qo669710, .int p669711]) := e672064
                  have hfr672068 : rFr [q669697] P669695 F669696 F672063 := rFr_put' List.mem_cons_self hfr672058 n672065
                  exact G_vretA dr_cX14_word_177 rfl (show 0 ≤ ((16 * (p669699.toInt - p669700.toInt)).toNat) by omega) (show 0 ≤ ((160 * (p669699.toInt - p669700.toInt)).toNat) by omega) ⟨P669695, F672063, g672011, 2, z672052, qo669705, (0, fun _ => 0), rfl, rfl, (rSub_rf (P := P669695)), hfr672068, he672067, he672066, (by omega), (by omega), (gB_w bg672011' (by decide) (by decide)), (gB_w (gBl (show Int32.toInt 2 = 2 by decide)) (by decide) (by decide)), (by have qa0 : Int32.toInt 2 = 2 := (by decide); omega), (by have qa0 : Int32.toInt 2 = 2 := (by decide); omega), (tP_no (by decide) (by decide)), (vP_r (by assumption) (by assumption) (by assumption) (by omega)), (fun R c1 c2 c3 c4 c5 c6 => c4 z669719 z671845 z671849 o671855 gl672010 g672011 z672052 z672059 hz669719 bz669719 r671844 ez671845 r671848 hz671849 bz671849 bo671855 ht671857 r671860 hx672051 hz672052 hz672059 r672062)⟩
              · have r672069 : o672046.toInt ≠ 0 := gj_neq hc672049 (show Int32.toInt 0 = 0 by decide)
                have bo672046' : gB o672046 1 1 := ⟨by omega, by omega⟩
                have bi672070 : gB z672040 48 57 := isP_1 x672047 (by omega)
                refine G_lload_n 0 dr_cX14_word_96 rfl ?_
                refine G_ldc2 10 dr_cX14_word_97 wr_7_229 ?_
                refine G_lmul dr_cX14_word_100 (G_namL fun u672071 hu672071 => ?_)
                refine G_aload_n 2 dr_cX14_word_101 rfl ?_
                refine Gp_get 0 hmq669697 he672013 dr_cX14_word_102 (gk_X14 D I) (Nat.le_of_ble_eq_true rfl) wr_9_36 rfl ?_
                refine G_aload_n 2 dr_cX14_word_105 rfl ?_
                refine Gp_get 2 hmq669697 he672013 dr_cX14_word_106 (gk_X14 D I) (Nat.le_of_ble_eq_true rfl) wr_9_38 rfl ?_
                refine Gp_bald 1 hmq669698 he672014 dr_cX14_word_109 rfl (gB_in bg672011' (by decide) (by decide)) (G_eqi (y := z672040) hz672040.symm ?_)
                refine G_i2l dr_cX14_word_110 (G_namL fun u672072 hu672072 => ?_)
                refine G_ladd dr_cX14_word_111 (G_namL fun u672073 hu672073 => ?_)
                refine G_ldc2 48 dr_cX14_word_112 wr_7_230 ?_
                refine G_lsub dr_cX14_word_115 (G_namL fun u672074 hu672074 => ?_)
                refine G_ldc2 1000000 dr_cX14_word_116 wr_7_231 ?_
                refine Gw_callS (As := [.long u672074, .long 1000000]) (gV_ok D I) (cp_668166_Math_min l hl0 D I P669695 F672012 u672074 1000000 ) dr_cX14_word_119 ⟨wr_7_232, wr_1_6, wr_3_40, by decide, rfl, (Nat.le_of_ble_eq_true rfl), (Nat.le_of_ble_eq_true rfl)⟩ wr_3_39 (show 0 + 0 ≤ ((16 * (p669699.toInt - p669700.toInt)).toNat) by first | omega | decide) (show 0 + 0 ≤ ((160 * (p669699.toInt - p669700.toInt)).toNat) by first | omega | decide) (Nat.le_of_ble_eq_true rfl) (fun r672078 w672079 dc672075 ds672076 hp672077 => ?_) (fun _ _ _ _ _ z => z.elim)
                obtain ⟨ol672080, rfl, rfl, hdc, hds, x672081, ht672082⟩ := hp672077
                change G _ _ _ _ _ _ _ (.long ol672080 :: _) _ _ _
                refine G_widen (cs' := 0) (sl' := 0) (by omega) (by omega) ?_
                refine G_lstore_n (L' := [(2, .long ol672080), (1, .int z669719), (0, .ref q669697)]) dr_cX14_word_122 (Nat.le_of_ble_eq_true rfl) rfl ?_
                refine G_aload_n 2 dr_cX14_word_123 rfl ?_
                refine G_dup dr_cX14_word_124 rfl ?_
                refine Gp_get 2 hmq669697 he672013 dr_cX14_word_125 (gk_X14 D I) (Nat.le_of_ble_eq_true rfl) wr_9_38 rfl ?_
                refine G_iconst 1 dr_cX14_word_128 (by decide +kernel) ?_
                refine G_iadd dr_cX14_word_129 (G_nam fun z672083 hz672083 => ?_)
                have ez672083 : z672083.toInt = g672011.toInt + 1 := by rw [gI_add hz672083 bg672011' (gBl (show Int32.toInt 1 = 1 by decide)) (by decide) (by decide), show Int32.toInt 1 = 1 from by decide]
                have bz672083 : gB z672083 1 8192 := gB_add (gI_add hz672083 bg672011' (gBl (show Int32.toInt 1 = 1 by decide)) (by decide) (by decide)) bg672011' (gBl (show Int32.toInt 1 = 1 by decide)) (by decide) (by decide)
                refine Gp_put 2 hmq669697 he672013 dr_cX14_word_130 (gk_X14 D I) (Nat.le_of_ble_eq_true rfl) wr_9_38 rfl rfl rfl (Nat.le_of_ble_eq_true rfl) (fun F672084 e672085 n672086 => ?_)
                have he672087 : F672084 q669698 = .inl (I .byte, 8192, .inl f669712) := (n672086 q669698 (rn_ao he672014 he672013)).trans he672014
                have he672088 : F672084 q669697 = .inr (19, [.ref q669698, .int p669699, .int z672083, .int 6, .int p669702, .int p669703, .int p669704, .ref qo669705, .int p669706, .int p669707, .int p669708, .ref qo669709, .ref qo669710, .int p669711]) := e672085
                have hfr672089 : rFr [q669697] P669695 F669696 F672084 := rFr_put' List.mem_cons_self hfr672015 n672086
                refine G_goto 70 dr_cX14_word_133 (by decide +kernel) ?_
                exact ih70_672018 F672084 ol672080 z672083 (gB_w bz672083 (by decide) (by decide)) hfr672089 he672088 he672087 (lgSt (by assumption) (by assumption) (by assumption) (by assumption) (by assumption) (by assumption) (by omega) (by omega)) (by have qa0 : Int32.toInt 6 = 6 := (by decide); omega) (by have qa0 : Int32.toInt 6 = 6 := (by decide); omega) (fun k e1 e2 ht => kt70_672018 k e1 e2 (fun R c1 c2 c3 => c3 gl672010 g672011 z672040 o672046 u672071 u672072 u672073 u672074 ol672080 z672083 k e1 e2 bg672011 r672039 hz672040 bz672040 bo672046 ht672048 r672069 hu672071 hu672072 hu672073 hu672074 ht672082 ez672083 (ht R c1 c2 c3))) (by have qa0 : Int32.toInt 6 = 6 := (by decide); omega)
        exact hlp70_672018 (((8193 : Int) - z671845.toInt).toNat + 1) F671862 0 z671845 (gB_w bz671845' (by decide) (by decide)) hfr671867 he671866 he671865 LG_0 (by have qa0 : Int32.toInt 6 = 6 := (by decide); omega) (by have qa0 : Int32.toInt 6 = 6 := (by decide); omega) (fun k e1 e2 ht => ht) (Nat.lt_succ_self _)
  · have r672090 : z669719.toInt ≠ 118 := gj_neq hc671843 (show Int32.toInt 118 = 118 by decide)
    refine G_iload_n 0 dr_cX14_word_22 rfl ?_
    refine G_bipush 98 dr_cX14_word_23 (by decide +kernel) ?_
    refine G_icmp_ne 178 dr_cX14_word_25 (by decide +kernel) (fun hc672091 => ?_) (fun hc672091 => ?_)
    · have r672092 : z669719.toInt ≠ 98 := gj_neq hc672091 (show Int32.toInt 98 = 98 by decide)
      refine G_lv (L' := [(1, .int z669719), (0, .ref q669697)]) [0, 1] rfl ?_
      exact jn669726 (Or.inr (Or.inr (Or.inl ⟨r672090, r672092⟩)))
    · have r672093 : z669719.toInt = 98 := gj_eq hc672091 (show Int32.toInt 98 = 98 by decide)
      have bz669719' : gB z669719 98 98 := ⟨by omega, by omega⟩
      refine G_aload_n 1 dr_cX14_word_28 rfl ?_
      refine Gp_get 2 hmq669697 he669724 dr_cX14_word_29 (gk_X14 D I) (Nat.le_of_ble_eq_true rfl) wr_9_38 rfl ?_
      refine G_iconst 1 dr_cX14_word_32 (by decide +kernel) ?_
      refine G_iadd dr_cX14_word_33 (G_nam fun z672094 hz672094 => ?_)
      have ez672094 : z672094.toInt = p669700.toInt + 1 := by rw [gI_add hz672094 bp669700 (gBl (show Int32.toInt 1 = 1 by decide)) (by decide) (by decide), show Int32.toInt 1 = 1 from by decide]
      have bz672094 : gB z672094 1 8193 := gB_add (gI_add hz672094 bp669700 (gBl (show Int32.toInt 1 = 1 by decide)) (by decide) (by decide)) bp669700 (gBl (show Int32.toInt 1 = 1 by decide)) (by decide) (by decide)
      refine G_aload_n 1 dr_cX14_word_34 rfl ?_
      refine Gp_get 1 hmq669697 he669724 dr_cX14_word_35 (gk_X14 D I) (Nat.le_of_ble_eq_true rfl) wr_9_37 rfl ?_
      refine G_icmp_ge 178 dr_cX14_word_38 (by decide +kernel) (fun hc672095 => ?_) (fun hc672095 => ?_)
      · have r672096 : p669699.toInt ≤ z672094.toInt := gC_le hc672095
        refine G_lv (L' := [(1, .int z669719), (0, .ref q669697)]) [0, 1] rfl ?_
        exact jn669726 (Or.inr (Or.inr (Or.inr (Or.inl ⟨z672094, r672090, r672093, ez672094, r672096⟩))))
      · have r672097 : z672094.toInt < p669699.toInt := gC_nle hc672095
        have bz672094' : gB z672094 1 8191 := ⟨by omega, by omega⟩
        have bp669699' : gB p669699 2 8192 := ⟨by omega, by omega⟩
        refine G_aload_n 1 dr_cX14_word_41 rfl ?_
        refine Gp_get 0 hmq669697 he669724 dr_cX14_word_42 (gk_X14 D I) (Nat.le_of_ble_eq_true rfl) wr_9_36 rfl ?_
        refine G_aload_n 1 dr_cX14_word_45 rfl ?_
        refine Gp_get 2 hmq669697 he669724 dr_cX14_word_46 (gk_X14 D I) (Nat.le_of_ble_eq_true rfl) wr_9_38 rfl ?_
        refine G_iconst 1 dr_cX14_word_49 (by decide +kernel) ?_
        refine G_iadd dr_cX14_word_50 (G_eqi (y := z672094) hz672094.symm ?_)
        refine Gp_bald 1 hmq669698 he669723 dr_cX14_word_51 rfl (gB_in bz672094' (by decide) (by decide)) (G_nam fun z672098 hz672098 => ?_)
        have bz672098 : gB z672098 (-128) 127 := by rw [hz672098]; exact bf669712 _
        refine Gw_callS (As := [.int z672098]) (gV_ok D I) (cp_668112_Reader_isDigit l hl0 D I P669695 F669720 z672098 ) dr_cX14_word_52 ⟨wr_7_219, wr_1_32, wr_7_221, by decide, rfl, (Nat.le_of_ble_eq_true rfl), (Nat.le_of_ble_eq_true rfl)⟩ wr_7_220 (show 0 + 0 ≤ ((16 * (p669699.toInt - p669700.toInt)).toNat) by first | omega | decide) (show 0 + 0 ≤ ((160 * (p669699.toInt - p669700.toInt)).toNat) by first | omega | decide) (Nat.le_of_ble_eq_true rfl) (fun r672102 w672103 dc672099 ds672100 hp672101 => ?_) (fun _ _ _ _ _ z => z.elim)
        obtain ⟨o672104, rfl, rfl, hdc, hds, bo672104, x672105, ht672106⟩ := hp672101
        change G _ _ _ _ _ _ _ (.int o672104 :: _) _ _ _
        refine G_widen (cs' := 0) (sl' := 0) (by omega) (by omega) ?_
        refine G_if_eq 178 dr_cX14_word_55 (by decide +kernel) (fun hc672107 => ?_) (fun hc672107 => ?_)
        · have r672108 : o672104.toInt = 0 := gj_eq hc672107 (show Int32.toInt 0 = 0 by decide)
          have bo672104' : gB o672104 0 0 := ⟨by omega, by omega⟩
          refine G_lv (L' := [(1, .int z669719), (0, .ref q669697)]) [0, 1] rfl ?_
          exact jn669726 (Or.inr (Or.inr (Or.inr (Or.inr (⟨z672094, z672098, o672104, r672090, r672093, ez672094, r672097, hz672098, bz672098, bo672104, ht672106, r672108⟩)))))
        · have r672109 : o672104.toInt ≠ 0 := gj_neq hc672107 (show Int32.toInt 0 = 0 by decide)
          have bo672104' : gB o672104 1 1 := ⟨by omega, by omega⟩
          have bi672110 : gB z672098 48 57 := isP_1 x672105 (by omega)
          refine G_lconst 0 dr_cX14_word_58 rfl ?_
          refine G_lstore_n (L' := [(2, .long 0), (1, .int z669719), (0, .ref q669697)]) dr_cX14_word_59 (Nat.le_of_ble_eq_true rfl) rfl ?_
          refine G_aload_n 2 dr_cX14_word_60 rfl ?_
          refine G_dup dr_cX14_word_61 rfl ?_
          refine Gp_get 2 hmq669697 he669724 dr_cX14_word_62 (gk_X14 D I) (Nat.le_of_ble_eq_true rfl) wr_9_38 rfl ?_
          refine G_iconst 1 dr_cX14_word_65 (by decide +kernel) ?_
          refine G_iadd dr_cX14_word_66 (G_eqi (y := z672094) hz672094.symm ?_)
          refine Gp_put 2 hmq669697 he669724 dr_cX14_word_67 (gk_X14 D I) (Nat.le_of_ble_eq_true rfl) wr_9_38 rfl rfl rfl (Nat.le_of_ble_eq_true rfl) (fun F672111 e672112 n672113 => ?_)
          have he672114 : F672111 q669698 = .inl (I .byte, 8192, .inl f669712) := (n672113 q669698 (rn_ao he669723 he669724)).trans he669723
          have he672115 : F672111 q669697 = .inr (19, [.ref q669698, .int p669699, .int z672094, .int 6, .int p669702, .int p669703, .int p669704, .ref qo669705, .int p669706, .int p669707, .int p669708, .ref qo669709, .ref qo669710, .int p669711]) := e672112
          have hfr672116 : rFr [q669697] P669695 F669696 F672111 := rFr_put' List.mem_cons_self hfr669725 n672113
          have hlp70_672267 : ∀ (n70_672267 : Nat) (F672261 : Nat → va_E) (gl672259 : Int64) (g672260 : Int32), gB g672260 0 8192 → rFr [q669697] P669695 F669696 F672261 → F672261 q669697 = .inr (19, [.ref q669698, .int p669699, .int g672260, .int 6, .int p669702, .int p669703, .int p669704, .ref qo669705, .int p669706, .int p669707, .int p669708, .ref qo669709, .ref qo669710, .int p669711]) → F672261 q669698 = .inl (I .byte, 8192, .inl f669712) → LG gl672259 0 1000000 → p669700.toInt < g672260.toInt → g672260.toInt ≤ p669699.toInt → (∀ (k : Nat) (e1 : Int64) (e2 : Int32), tl_RReader_word_70_2 p669699 f669712 gl672259 g672260 k e1 e2 → tl_RReader_word_70_2 p669699 f669712 (0 : Int64) z672094 k e1 e2) → ((8193 : Int) - g672260.toInt).toNat < n70_672267 → G (gV D I) l (gRm 6 132 ((16 * (p669699.toInt - p669700.toInt)).toNat) ((160 * (p669699.toInt - p669700.toInt)).toNat)) (gMA (gV D I) (pp_669718_Reader_word D I P669695 F669696 q669697 q669698 p669699 p669700 p669701 p669702 p669703 p669704 qo669705 p669706 p669707 p669708 qo669709 qo669710 p669711 f669712) gNA ((16 * (p669699.toInt - p669700.toInt)).toNat) ((160 * (p669699.toInt - p669700.toInt)).toNat)) ky_669718_Reader_word 70 [(2, .long gl672259), (1, .int z669719), (0, .ref q669697)] [] (va_pl P669695 F672261) 0 0 := by
            intro n70_672267
            induction n70_672267 with
            | zero => intro F672261 gl672259 g672260 bg672260 hfr672264 he672262 he672263 x672265 x672266 x672267 kt70_672267 hm70_672267; exact absurd hm70_672267 (Nat.not_lt_zero _)
            | succ n70_672267 ih70_672267 =>
              intro F672261 gl672259 g672260 bg672260 hfr672264 he672262 he672263 x672265 x672266 x672267 kt70_672267 hm70_672267
              refine G_aload_n 2 dr_cX14_word_70 rfl ?_
              refine Gp_get 2 hmq669697 he672262 dr_cX14_word_71 (gk_X14 D I) (Nat.le_of_ble_eq_true rfl) wr_9_38 rfl ?_
              refine G_aload_n 2 dr_cX14_word_74 rfl ?_
              refine Gp_get 1 hmq669697 he672262 dr_cX14_word_75 (gk_X14 D I) (Nat.le_of_ble_eq_true rfl) wr_9_37 rfl ?_
              refine G_icmp_ge 136 dr_cX14_word_78 (by decide +kernel) (fun hc672268 => ?_) (fun hc672268 => ?_)
              · have r672269 : p669699.toInt ≤ g672260.toInt := gC_le hc672268
                have bg672260' : gB g672260 2 8192 := ⟨by omega, by omega⟩
                have hx672270 : tl_RReader_word_70_2 p669699 f669712 (0 : Int64) z672094 136 gl672259 g672260 := kt70_672267 136 gl672259 g672260 (fun R c1 c2 c3 => c1 gl672259 g672260 bg672260 r672269)
                clear he669723 he669724 hfr669725 jn669726 bz672094 bo672104' he672114 he672115 hfr672116; try clear r672102; try clear w672103; try clear dc672099; try clear ds672100; try clear hp672101; try clear x672105
                refine G_aload_n 2 dr_cX14_word_136 rfl ?_
                refine G_lload_n 0 dr_cX14_word_137 rfl ?_
                refine G_l2i dr_cX14_word_138 (G_nam fun z672271 hz672271 => ?_)
                have bz672271 : gB z672271 (-2147483648) 2147483647 := gB_any z672271
                refine Gp_put 5 hmq669697 he672262 dr_cX14_word_139 (gk_X14 D I) (Nat.le_of_ble_eq_true rfl) wr_9_41 rfl rfl rfl (Nat.le_of_ble_eq_true rfl) (fun F672272 e672273 n672274 => ?_)
                have he672275 : F672272 q669698 = .inl (I .byte, 8192, .inl f669712) := (n672274 q669698 (rn_ao he672263 he672262)).trans he672263
                have he672276 : F672272 q669697 = .inr (19, [.ref q669698, .int p669699, .int g672260, .int 6, .int p669702, .int z672271, .int p669704, .ref qo669705, .int p669706, .int p669707, .int p669708, .ref qo669709, .ref qo669710, .int p669711]) := e672273
                have hfr672277 : rFr [q669697] P669695 F669696 F672272 := rFr_put' List.mem_cons_self hfr672264 n672274
                refine G_lload_n 0 dr_cX14_word_142 rfl ?_
                refine G_iload_n 1 dr_cX14_word_143 rfl ?_
                refine G_bipush 118 dr_cX14_word_144 (by decide +kernel) ?_
                refine G_icmp_ne 155 dr_cX14_word_146 (by decide +kernel) (fun _ => ?_) (fun hc => absurd (show False by have := gj_eq hc (show Int32.toInt 118 = 118 by decide); omega) not_false)
                refine G_ldc2 39 dr_cX14_word_155 wr_7_234 ?_
                refine G_lcmp dr_cX14_word_158 (G_nam fun z672278 hz672278 => ?_)
                have bz672278 : gB z672278 (-1) 1 := gB_cmp hz672278
                refine G_if_gt 177 dr_cX14_word_159 (by decide +kernel) (fun hc672279 => ?_) (fun hc672279 => ?_)
                · have r672280 : 0 < z672278.toInt := gj_ltL hc672279 (show Int32.toInt 0 = 0 by decide)
                  have bz672278' : gB z672278 1 1 := ⟨by omega, by omega⟩
                  have lhc672279 := gC_cmpS hz672278 (by omega)
                  exact G_vretA dr_cX14_word_177 rfl (show 0 ≤ ((16 * (p669699.toInt - p669700.toInt)).toNat) by omega) (show 0 ≤ ((160 * (p669699.toInt - p669700.toInt)).toNat) by omega) ⟨P669695, F672272, g672260, 6, z672271, qo669705, (0, fun _ => 0), rfl, rfl, (rSub_rf (P := P669695)), hfr672277, he672276, he672275, (by omega), (by omega), (gB_w bg672260' (by decide) (by decide)), (gB_w (gBl (show Int32.toInt 6 = 6 by decide)) (by decide) (by decide)), (by have qa0 : Int32.toInt 6 = 6 := (by decide); omega), (by have qa0 : Int32.toInt 6 = 6 := (by decide); omega), (tP_no (by decide) (by decide)), (vP_no (by decide) (by decide)), (fun R c1 c2 c3 c4 c5 c6 => c5 z669719 z672094 z672098 o672104 gl672259 g672260 z672271 z672278 hz669719 bz669719 r672090 r672093 ez672094 r672097 hz672098 bz672098 bo672104 ht672106 r672109 hx672270 hz672271 hz672278 r672280)⟩
                · have r672281 : z672278.toInt ≤ 0 := gj_nltL hc672279 (show Int32.toInt 0 = 0 by decide)
                  have bz672278' : gB z672278 (-1) 0 := ⟨by omega, by omega⟩
                  refine G_aload_n 2 dr_cX14_word_162 rfl ?_
                  refine G_iload_n 1 dr_cX14_word_163 rfl ?_
                  refine G_bipush 118 dr_cX14_word_164 (by decide +kernel) ?_
                  refine G_icmp_ne 173 dr_cX14_word_166 (by decide +kernel) (fun _ => ?_) (fun hc => absurd (show False by have := gj_eq hc (show Int32.toInt 118 = 118 by decide); omega) not_false)
                  refine G_iconst 3 dr_cX14_word_173 (by decide +kernel) ?_
                  refine Gp_put 3 hmq669697 he672276 dr_cX14_word_174 (gk_X14 D I) (Nat.le_of_ble_eq_true rfl) wr_9_39 rfl rfl rfl (Nat.le_of_ble_eq_true rfl) (fun F672282 e672283 n672284 => ?_)
                  have he672285 : F672282 q669698 = .inl (I .byte, 8192, .inl f669712) := (n672284 q669698 (rn_ao he672275 he672276)).trans he672275
                  have he672286 : F672282 q669697 = .inr (19, [.ref q669698, .int p669699, .int g672260, .int 3, .int p669702, .int z672271, .int p669704, .ref qo669705, .int p669706, .int p669707, .int p669708, .ref qo669709, .ref qo669710, .int p669711]) := e672283
                  have hfr672287 : rFr [q669697] P669695 F669696 F672282 := rFr_put' List.mem_cons_self hfr672277 n672284
                  exact G_vretA dr_cX14_word_177 rfl (show 0 ≤ ((16 * (p669699.toInt - p669700.toInt)).toNat) by omega) (show 0 ≤ ((160 * (p669699.toInt - p669700.toInt)).toNat) by omega) ⟨P669695, F672282, g672260, 3, z672271, qo669705, (0, fun _ => 0), rfl, rfl, (rSub_rf (P := P669695)), hfr672287, he672286, he672285, (by omega), (by omega), (gB_w bg672260' (by decide) (by decide)), (gB_w (gBl (show Int32.toInt 3 = 3 by decide)) (by decide) (by decide)), (by have qa0 : Int32.toInt 3 = 3 := (by decide); omega), (by have qa0 : Int32.toInt 3 = 3 := (by decide); omega), (tP_no (by decide) (by decide)), (vP_b (by assumption) (by assumption) (by assumption) (by omega)), (fun R c1 c2 c3 c4 c5 c6 => c6 z669719 z672094 z672098 o672104 gl672259 g672260 z672271 z672278 hz669719 bz669719 r672090 r672093 ez672094 r672097 hz672098 bz672098 bo672104 ht672106 r672109 hx672270 hz672271 hz672278 r672281)⟩
              · have r672288 : g672260.toInt < p669699.toInt := gC_nle hc672268
                have bg672260' : gB g672260 0 8191 := ⟨by omega, by omega⟩
                refine G_aload_n 2 dr_cX14_word_81 rfl ?_
                refine Gp_get 0 hmq669697 he672262 dr_cX14_word_82 (gk_X14 D I) (Nat.le_of_ble_eq_true rfl) wr_9_36 rfl ?_
                refine G_aload_n 2 dr_cX14_word_85 rfl ?_
                refine Gp_get 2 hmq669697 he672262 dr_cX14_word_86 (gk_X14 D I) (Nat.le_of_ble_eq_true rfl) wr_9_38 rfl ?_
                refine Gp_bald 1 hmq669698 he672263 dr_cX14_word_89 rfl (gB_in bg672260' (by decide) (by decide)) (G_nam fun z672289 hz672289 => ?_)
                have bz672289 : gB z672289 (-128) 127 := by rw [hz672289]; exact bf669712 _
                refine Gw_callS (As := [.int z672289]) (gV_ok D I) (cp_668112_Reader_isDigit l hl0 D I P669695 F672261 z672289 ) dr_cX14_word_90 ⟨wr_7_219, wr_1_32, wr_7_221, by decide, rfl, (Nat.le_of_ble_eq_true rfl), (Nat.le_of_ble_eq_true rfl)⟩ wr_7_220 (show 0 + 0 ≤ ((16 * (p669699.toInt - p669700.toInt)).toNat) by first | omega | decide) (show 0 + 0 ≤ ((160 * (p669699.toInt - p669700.toInt)).toNat) by first | omega | decide) (Nat.le_of_ble_eq_true rfl) (fun r672293 w672294 dc672290 ds672291 hp672292 => ?_) (fun _ _ _ _ _ z => z.elim)
                obtain ⟨o672295, rfl, rfl, hdc, hds, bo672295, x672296, ht672297⟩ := hp672292
                change G _ _ _ _ _ _ _ (.int o672295 :: _) _ _ _
                refine G_widen (cs' := 0) (sl' := 0) (by omega) (by omega) ?_
                refine G_if_eq 136 dr_cX14_word_93 (by decide +kernel) (fun hc672298 => ?_) (fun hc672298 => ?_)
                · have r672299 : o672295.toInt = 0 := gj_eq hc672298 (show Int32.toInt 0 = 0 by decide)
                  have bo672295' : gB o672295 0 0 := ⟨by omega, by omega⟩
                  have hx672300 : tl_RReader_word_70_2 p669699 f669712 (0 : Int64) z672094 136 gl672259 g672260 := kt70_672267 136 gl672259 g672260 (fun R c1 c2 c3 => c2 gl672259 g672260 z672289 o672295 bg672260 r672288 hz672289 bz672289 bo672295 ht672297 r672299)
                  clear he669723 he669724 hfr669725 jn669726 bz672094 bo672104' he672114 he672115 hfr672116 bo672295 ht672297 bo672295'; try clear r672102; try clear w672103; try clear dc672099; try clear ds672100; try clear hp672101; try clear x672105; try clear r672293; try clear w672294; try clear dc672290; try clear ds672291; try clear hp672292; try clear x672296; try clear r672299
                  refine G_aload_n 2 dr_cX14_word_136 rfl ?_
                  refine G_lload_n 0 dr_cX14_word_137 rfl ?_
                  refine G_l2i dr_cX14_word_138 (G_nam fun z672301 hz672301 => ?_)
                  have bz672301 : gB z672301 (-2147483648) 2147483647 := gB_any z672301
                  refine Gp_put 5 hmq669697 he672262 dr_cX14_word_139 (gk_X14 D I) (Nat.le_of_ble_eq_true rfl) wr_9_41 rfl rfl rfl (Nat.le_of_ble_eq_true rfl) (fun F672302 e672303 n672304 => ?_)
                  have he672305 : F672302 q669698 = .inl (I .byte, 8192, .inl f669712) := (n672304 q669698 (rn_ao he672263 he672262)).trans he672263
                  have he672306 : F672302 q669697 = .inr (19, [.ref q669698, .int p669699, .int g672260, .int 6, .int p669702, .int z672301, .int p669704, .ref qo669705, .int p669706, .int p669707, .int p669708, .ref qo669709, .ref qo669710, .int p669711]) := e672303
                  have hfr672307 : rFr [q669697] P669695 F669696 F672302 := rFr_put' List.mem_cons_self hfr672264 n672304
                  refine G_lload_n 0 dr_cX14_word_142 rfl ?_
                  refine G_iload_n 1 dr_cX14_word_143 rfl ?_
                  refine G_bipush 118 dr_cX14_word_144 (by decide +kernel) ?_
                  refine G_icmp_ne 155 dr_cX14_word_146 (by decide +kernel) (fun _ => ?_) (fun hc => absurd (show False by have := gj_eq hc (show Int32.toInt 118 = 118 by decide); omega) not_false)
                  refine G_ldc2 39 dr_cX14_word_155 wr_7_234 ?_
                  refine G_lcmp dr_cX14_word_158 (G_nam fun z672308 hz672308 => ?_)
                  have bz672308 : gB z672308 (-1) 1 := gB_cmp hz672308
                  refine G_if_gt 177 dr_cX14_word_159 (by decide +kernel) (fun hc672309 => ?_) (fun hc672309 => ?_)
                  · have r672310 : 0 < z672308.toInt := gj_ltL hc672309 (show Int32.toInt 0 = 0 by decide)
                    have bz672308' : gB z672308 1 1 := ⟨by omega, by omega⟩
                    have lhc672309 := gC_cmpS hz672308 (by omega)
                    exact G_vretA dr_cX14_word_177 rfl (show 0 ≤ ((16 * (p669699.toInt - p669700.toInt)).toNat) by omega) (show 0 ≤ ((160 * (p669699.toInt - p669700.toInt)).toNat) by omega) ⟨P669695, F672302, g672260, 6, z672301, qo669705, (0, fun _ => 0), rfl, rfl, (rSub_rf (P := P669695)), hfr672307, he672306, he672305, (by omega), (by omega), (gB_w bg672260' (by decide) (by decide)), (gB_w (gBl (show Int32.toInt 6 = 6 by decide)) (by decide) (by decide)), (by have qa0 : Int32.toInt 6 = 6 := (by decide); omega), (by have qa0 : Int32.toInt 6 = 6 := (by decide); omega), (tP_no (by decide) (by decide)), (vP_no (by decide) (by decide)), (fun R c1 c2 c3 c4 c5 c6 => c5 z669719 z672094 z672098 o672104 gl672259 g672260 z672301 z672308 hz669719 bz669719 r672090 r672093 ez672094 r672097 hz672098 bz672098 bo672104 ht672106 r672109 hx672300 hz672301 hz672308 r672310)⟩
                  · have r672311 : z672308.toInt ≤ 0 := gj_nltL hc672309 (show Int32.toInt 0 = 0 by decide)
                    have bz672308' : gB z672308 (-1) 0 := ⟨by omega, by omega⟩
                    refine G_aload_n 2 dr_cX14_word_162 rfl ?_
                    refine G_iload_n 1 dr_cX14_word_163 rfl ?_
                    refine G_bipush 118 dr_cX14_word_164 (by decide +kernel) ?_
                    refine G_icmp_ne 173 dr_cX14_word_166 (by decide +kernel) (fun _ => ?_) (fun hc => absurd (show False by have := gj_eq hc (show Int32.toInt 118 = 118 by decide); omega) not_false)
                    refine G_iconst 3 dr_cX14_word_173 (by decide +kernel) ?_
                    refine Gp_put 3 hmq669697 he672306 dr_cX14_word_174 (gk_X14 D I) (Nat.le_of_ble_eq_true rfl) wr_9_39 rfl rfl rfl (Nat.le_of_ble_eq_true rfl) (fun F672312 e672313 n672314 => ?_)
                    have he672315 : F672312 q669698 = .inl (I .byte, 8192, .inl f669712) := (n672314 q669698 (rn_ao he672305 he672306)).trans he672305
                    have he672316 : F672312 q669697 = .inr (19, [.ref q669698, .int p669699, .int g672260, .int 3, .int p669702, .int z672301, .int p669704, .ref qo669705, .int p669706, .int p669707, .int p669708, .ref qo669709, .ref qo669710, .int p669711]) := e672313
                    have hfr672317 : rFr [q669697] P669695 F669696 F672312 := rFr_put' List.mem_cons_self hfr672307 n672314
                    exact G_vretA dr_cX14_word_177 rfl (show 0 ≤ ((16 * (p669699.toInt - p669700.toInt)).toNat) by omega) (show 0 ≤ ((160 * (p669699.toInt - p669700.toInt)).toNat) by omega) ⟨P669695, F672312, g672260, 3, z672301, qo669705, (0, fun _ => 0), rfl, rfl, (rSub_rf (P := P669695)), hfr672317, he672316, he672315, (by omega), (by omega), (gB_w bg672260' (by decide) (by decide)), (gB_w (gBl (show Int32.toInt 3 = 3 by decide)) (by decide) (by decide)), (by have qa0 : Int32.toInt 3 = 3 := (by decide); omega), (by have qa0 : Int32.toInt 3 = 3 := (by decide); omega), (tP_no (by decide) (by decide)), (vP_b (by assumption) (by assumption) (by assumption) (by omega)), (fun R c1 c2 c3 c4 c5 c6 => c6 z669719 z672094 z672098 o672104 gl672259 g672260 z672301 z672308 hz669719 bz669719 r672090 r672093 ez672094 r672097 hz672098 bz672098 bo672104 ht672106 r672109 hx672300 hz672301 hz672308 r672311)⟩
                · have r672318 : o672295.toInt ≠ 0 := gj_neq hc672298 (show Int32.toInt 0 = 0 by decide)
                  have bo672295' : gB o672295 1 1 := ⟨by omega, by omega⟩
                  have bi672319 : gB z672289 48 57 := isP_1 x672296 (by omega)
                  refine G_lload_n 0 dr_cX14_word_96 rfl ?_
                  refine G_ldc2 10 dr_cX14_word_97 wr_7_229 ?_
                  refine G_lmul dr_cX14_word_100 (G_namL fun u672320 hu672320 => ?_)
                  refine G_aload_n 2 dr_cX14_word_101 rfl ?_
                  refine Gp_get 0 hmq669697 he672262 dr_cX14_word_102 (gk_X14 D I) (Nat.le_of_ble_eq_true rfl) wr_9_36 rfl ?_
                  refine G_aload_n 2 dr_cX14_word_105 rfl ?_
                  refine Gp_get 2 hmq669697 he672262 dr_cX14_word_106 (gk_X14 D I) (Nat.le_of_ble_eq_true rfl) wr_9_38 rfl ?_
                  refine Gp_bald 1 hmq669698 he672263 dr_cX14_word_109 rfl (gB_in bg672260' (by decide) (by decide)) (G_eqi (y := z672289) hz672289.symm ?_)
                  refine G_i2l dr_cX14_word_110 (G_namL fun u672321 hu672321 => ?_)
                  refine G_ladd dr_cX14_word_111 (G_namL fun u672322 hu672322 => ?_)
                  refine G_ldc2 48 dr_cX14_word_112 wr_7_230 ?_
                  refine G_lsub dr_cX14_word_115 (G_namL fun u672323 hu672323 => ?_)
                  refine G_ldc2 1000000 dr_cX14_word_116 wr_7_231 ?_
                  refine Gw_callS (As := [.long u672323, .long 1000000]) (gV_ok D I) (cp_668166_Math_min l hl0 D I P669695 F672261 u672323 1000000 ) dr_cX14_word_119 ⟨wr_7_232, wr_1_6, wr_3_40, by decide, rfl, (Nat.le_of_ble_eq_true rfl), (Nat.le_of_ble_eq_true rfl)⟩ wr_3_39 (show 0 + 0 ≤ ((16 * (p669699.toInt - p669700.toInt)).toNat) by first | omega | decide) (show 0 + 0 ≤ ((160 * (p669699.toInt - p669700.toInt)).toNat) by first | omega | decide) (Nat.le_of_ble_eq_true rfl) (fun r672327 w672328 dc672324 ds672325 hp672326 => ?_) (fun _ _ _ _ _ z => z.elim)
                  obtain ⟨ol672329, rfl, rfl, hdc, hds, x672330, ht672331⟩ := hp672326
                  change G _ _ _ _ _ _ _ (.long ol672329 :: _) _ _ _
                  refine G_widen (cs' := 0) (sl' := 0) (by omega) (by omega) ?_
                  refine G_lstore_n (L' := [(2, .long ol672329), (1, .int z669719), (0, .ref q669697)]) dr_cX14_word_122 (Nat.le_of_ble_eq_true rfl) rfl ?_
                  refine G_aload_n 2 dr_cX14_word_123 rfl ?_
                  refine G_dup dr_cX14_word_124 rfl ?_
                  refine Gp_get 2 hmq669697 he672262 dr_cX14_word_125 (gk_X14 D I) (Nat.le_of_ble_eq_true rfl) wr_9_38 rfl ?_
                  refine G_iconst 1 dr_cX14_word_128 (by decide +kernel) ?_
                  refine G_iadd dr_cX14_word_129 (G_nam fun z672332 hz672332 => ?_)
                  have ez672332 : z672332.toInt = g672260.toInt + 1 := by rw [gI_add hz672332 bg672260' (gBl (show Int32.toInt 1 = 1 by decide)) (by decide) (by decide), show Int32.toInt 1 = 1 from by decide]
                  have bz672332 : gB z672332 1 8192 := gB_add (gI_add hz672332 bg672260' (gBl (show Int32.toInt 1 = 1 by decide)) (by decide) (by decide)) bg672260' (gBl (show Int32.toInt 1 = 1 by decide)) (by decide) (by decide)
                  refine Gp_put 2 hmq669697 he672262 dr_cX14_word_130 (gk_X14 D I) (Nat.le_of_ble_eq_true rfl) wr_9_38 rfl rfl rfl (Nat.le_of_ble_eq_true rfl) (fun F672333 e672334 n672335 => ?_)
                  have he672336 : F672333 q669698 = .inl (I .byte, 8192, .inl f669712) := (n672335 q669698 (rn_ao he672263 he672262)).trans he672263
                  have he672337 : F672333 q669697 = .inr (19, [.ref q669698, .int p669699, .int z672332, .int 6, .int p669702, .int p669703, .int p669704, .ref qo669705, .int p669706, .int p669707, .int p669708, .ref qo669709, .ref qo669710, .int p669711]) := e672334
                  have hfr672338 : rFr [q669697] P669695 F669696 F672333 := rFr_put' List.mem_cons_self hfr672264 n672335
                  refine G_goto 70 dr_cX14_word_133 (by decide +kernel) ?_
                  exact ih70_672267 F672333 ol672329 z672332 (gB_w bz672332 (by decide) (by decide)) hfr672338 he672337 he672336 (lgSt (by assumption) (by assumption) (by assumption) (by assumption) (by assumption) (by assumption) (by omega) (by omega)) (by have qa0 : Int32.toInt 6 = 6 := (by decide); omega) (by have qa0 : Int32.toInt 6 = 6 := (by decide); omega) (fun k e1 e2 ht => kt70_672267 k e1 e2 (fun R c1 c2 c3 => c3 gl672259 g672260 z672289 o672295 u672320 u672321 u672322 u672323 ol672329 z672332 k e1 e2 bg672260 r672288 hz672289 bz672289 bo672295 ht672297 r672318 hu672320 hu672321 hu672322 hu672323 ht672331 ez672332 (ht R c1 c2 c3))) (by have qa0 : Int32.toInt 6 = 6 := (by decide); omega)
          exact hlp70_672267 (((8193 : Int) - z672094.toInt).toNat + 1) F672111 0 z672094 (gB_w bz672094' (by decide) (by decide)) hfr672116 he672115 he672114 LG_0 (by have qa0 : Int32.toInt 6 = 6 := (by decide); omega) (by have qa0 : Int32.toInt 6 = 6 := (by decide); omega) (fun k e1 e2 ht => ht) (Nat.lt_succ_self _)
/- tl_RReader_next_35: a0_at; out: a0_at -/
def tl_RReader_next_35 (a0_n : Int32) (a0_t_v : Nat → Int32) (s1 : Int32) (k : Nat) (e1 : Int32) : Prop := ∀ R : (Int32) → Nat → (Int32) → Prop,
  (∀ (a0_at_2 : Int32), gB a0_at_2 0 8192 → a0_n.toInt ≤ a0_at_2.toInt → R a0_at_2 107 a0_at_2) →
  (∀ (a0_at_2 : Int32) (x1 : Int32), gB a0_at_2 0 8192 → a0_at_2.toInt < a0_n.toInt → x1 = a0_t_v a0_at_2.toNatClampNeg → gB x1 (-128) 127 → x1.toInt = 10 → R a0_at_2 107 a0_at_2) →
  (∀ (a0_at_2 : Int32) (x1 : Int32) (x2 : Int32) (k : Nat) (e1 : Int32), gB a0_at_2 0 8192 → a0_at_2.toInt < a0_n.toInt → x1 = a0_t_v a0_at_2.toNatClampNeg → gB x1 (-128) 127 → x1.toInt ≠ 10 → x2.toInt = a0_at_2.toInt + 1 → R x2 k e1 → R a0_at_2 k e1) →
  R s1 k e1
/- tl_RReader_next_8: a0_at; out: a0_at -/
def tl_RReader_next_8 (a0_n : Int32) (a0_t_v : Nat → Int32) (s1 : Int32) (k : Nat) (e1 : Int32) : Prop := ∀ R : (Int32) → Nat → (Int32) → Prop,
  (∀ (a0_at_1 : Int32), gB a0_at_1 0 8192 → a0_n.toInt ≤ a0_at_1.toInt → R a0_at_1 110 a0_at_1) →
  (∀ (a0_at_1 : Int32) (x1 : Int32) (x2 : Int32) (k : Nat) (e1 : Int32), gB a0_at_1 0 8192 → a0_at_1.toInt < a0_n.toInt → x1 = a0_t_v a0_at_1.toNatClampNeg → gB x1 (-128) 127 → x1.toInt ≠ 59 → x1.toInt = 9 → x2.toInt = a0_at_1.toInt + 1 → R x2 k e1 → R a0_at_1 k e1) →
  (∀ (a0_at_1 : Int32) (x1 : Int32) (x2 : Int32) (k : Nat) (e1 : Int32), gB a0_at_1 0 8192 → a0_at_1.toInt < a0_n.toInt → x1 = a0_t_v a0_at_1.toNatClampNeg → gB x1 (-128) 127 → x1.toInt ≠ 59 → x1.toInt ≠ 9 → x1.toInt = 10 → x2.toInt = a0_at_1.toInt + 1 → R x2 k e1 → R a0_at_1 k e1) →
  (∀ (a0_at_1 : Int32) (x1 : Int32) (x2 : Int32) (k : Nat) (e1 : Int32), gB a0_at_1 0 8192 → a0_at_1.toInt < a0_n.toInt → x1 = a0_t_v a0_at_1.toNatClampNeg → gB x1 (-128) 127 → x1.toInt ≠ 59 → x1.toInt ≠ 9 → x1.toInt ≠ 10 → x1.toInt = 13 → x2.toInt = a0_at_1.toInt + 1 → R x2 k e1 → R a0_at_1 k e1) →
  (∀ (a0_at_1 : Int32) (x1 : Int32), gB a0_at_1 0 8192 → a0_at_1.toInt < a0_n.toInt → x1 = a0_t_v a0_at_1.toNatClampNeg → gB x1 (-128) 127 → x1.toInt ≠ 59 → x1.toInt ≠ 9 → x1.toInt ≠ 10 → x1.toInt ≠ 13 → x1.toInt ≠ 32 → R a0_at_1 110 a0_at_1) →
  (∀ (a0_at_1 : Int32) (x1 : Int32) (x2 : Int32) (k : Nat) (e1 : Int32), gB a0_at_1 0 8192 → a0_at_1.toInt < a0_n.toInt → x1 = a0_t_v a0_at_1.toNatClampNeg → gB x1 (-128) 127 → x1.toInt ≠ 59 → x1.toInt ≠ 9 → x1.toInt ≠ 10 → x1.toInt ≠ 13 → x1.toInt = 32 → x2.toInt = a0_at_1.toInt + 1 → R x2 k e1 → R a0_at_1 k e1) →
  (∀ (a0_at_1 : Int32) (x1 : Int32) (x2 : Int32) (k : Nat) (e1 : Int32), gB a0_at_1 0 8192 → a0_at_1.toInt < a0_n.toInt → x1 = a0_t_v a0_at_1.toNatClampNeg → gB x1 (-128) 127 → x1.toInt = 59 → tl_RReader_next_35 a0_n a0_t_v a0_at_1 107 x2 → R x2 k e1 → R a0_at_1 k e1) →
  R s1 k e1
/- tr_RReader_next: a.0...at, a.0...kind, a.0...place, a.0...value -/
def tr_RReader_next (a0_n : Int32) (a0_at : Int32) (a0_kind : Int32) (a0_value : Int32) (a0_t_v : Nat → Int32) (o1 : Int32) (o2 : Int32) (o3 : Int32) (o4 : Int32) (o5 : gTx) : Prop := ∀ R : (Int32) → (Int32) → (Int32) → (Int32) → (gTx) → Prop,
  (∀ (x1 : Int32) (x2 : Int32) (x3 : Int32) (x4 : Int32) (x5 : gTx) (x6 : Int32) (x7 : Int32) (x8 : Int32), tl_RReader_next_8 a0_n a0_t_v a0_at 110 x1 → x1.toInt ≠ a0_n.toInt → x2 = a0_t_v x1.toNatClampNeg → gB x2 (-128) 127 → (((x2.toInt ≠ 45) ∨ (∃ (y1 : Int32), x2.toInt = 45 ∧ y1.toInt = x1.toInt + 1 ∧ a0_n.toInt ≤ y1.toInt) ∨ (∃ (y1 : Int32) (y2 : Int32) (y3 : Int32), x2.toInt = 45 ∧ y1.toInt = x1.toInt + 1 ∧ y1.toInt < a0_n.toInt ∧ y2 = a0_t_v y1.toNatClampNeg ∧ gB y2 (-128) 127 ∧ gB y3 0 1 ∧ tr_RReader_isDigit2 y2 y3 ∧ y3.toInt = 0) ∨ (∃ (y1 : Int32) (y2 : Int32) (y3 : Int32), x2.toInt = 45 ∧ y1.toInt = x1.toInt + 1 ∧ y1.toInt < a0_n.toInt ∧ y2 = a0_t_v y1.toNatClampNeg ∧ gB y2 (-128) 127 ∧ gB y3 0 1 ∧ tr_RReader_isDigit2 y2 y3 ∧ y3.toInt ≠ 0 ∧ a0_kind.toInt = 2) ∨ (∃ (y1 : Int32) (y2 : Int32) (y3 : Int32), x2.toInt = 45 ∧ y1.toInt = x1.toInt + 1 ∧ y1.toInt < a0_n.toInt ∧ y2 = a0_t_v y1.toNatClampNeg ∧ gB y2 (-128) 127 ∧ gB y3 0 1 ∧ tr_RReader_isDigit2 y2 y3 ∧ y3.toInt ≠ 0 ∧ a0_kind.toInt ≠ 2 ∧ a0_kind.toInt = 4))) → gB x3 0 1 → tr_RReader_isLetter2 x2 x3 → x3.toInt = 0 → gB x4 0 1 → tr_RReader_isDigit2 x2 x4 → x4.toInt ≠ 0 → gB x6 0 8192 → gB x7 4 6 → tr_RReader_number (0 : Int32) a0_n x1 a0_t_v x6 x7 x8 x5 → R x6 x7 x1 x8 x5) →
  (∀ (x1 : Int32) (x2 : Int32) (x3 : Int32) (x4 : Int32) (x5 : gTx) (x6 : Int32) (x7 : Int32), tl_RReader_next_8 a0_n a0_t_v a0_at 110 x1 → x1.toInt ≠ a0_n.toInt → x2 = a0_t_v x1.toNatClampNeg → gB x2 (-128) 127 → (((x2.toInt ≠ 45) ∨ (∃ (y1 : Int32), x2.toInt = 45 ∧ y1.toInt = x1.toInt + 1 ∧ a0_n.toInt ≤ y1.toInt) ∨ (∃ (y1 : Int32) (y2 : Int32) (y3 : Int32), x2.toInt = 45 ∧ y1.toInt = x1.toInt + 1 ∧ y1.toInt < a0_n.toInt ∧ y2 = a0_t_v y1.toNatClampNeg ∧ gB y2 (-128) 127 ∧ gB y3 0 1 ∧ tr_RReader_isDigit2 y2 y3 ∧ y3.toInt = 0) ∨ (∃ (y1 : Int32) (y2 : Int32) (y3 : Int32), x2.toInt = 45 ∧ y1.toInt = x1.toInt + 1 ∧ y1.toInt < a0_n.toInt ∧ y2 = a0_t_v y1.toNatClampNeg ∧ gB y2 (-128) 127 ∧ gB y3 0 1 ∧ tr_RReader_isDigit2 y2 y3 ∧ y3.toInt ≠ 0 ∧ a0_kind.toInt = 2) ∨ (∃ (y1 : Int32) (y2 : Int32) (y3 : Int32), x2.toInt = 45 ∧ y1.toInt = x1.toInt + 1 ∧ y1.toInt < a0_n.toInt ∧ y2 = a0_t_v y1.toNatClampNeg ∧ gB y2 (-128) 127 ∧ gB y3 0 1 ∧ tr_RReader_isDigit2 y2 y3 ∧ y3.toInt ≠ 0 ∧ a0_kind.toInt ≠ 2 ∧ a0_kind.toInt = 4))) → gB x3 0 1 → tr_RReader_isLetter2 x2 x3 → x3.toInt = 0 → gB x4 0 1 → tr_RReader_isDigit2 x2 x4 → x4.toInt = 0 → gB x6 1 8192 → gB x7 5 6 → tr_RReader_symbol x2 a0_n x1 a0_t_v x6 x7 x5 → R x6 x7 x1 a0_value x5) →
  (∀ (x1 : Int32) (x2 : Int32) (x3 : Int32) (x4 : gTx) (x5 : Int32) (x6 : Int32) (x7 : Int32), tl_RReader_next_8 a0_n a0_t_v a0_at 110 x1 → x1.toInt ≠ a0_n.toInt → x2 = a0_t_v x1.toNatClampNeg → gB x2 (-128) 127 → (((x2.toInt ≠ 45) ∨ (∃ (y1 : Int32), x2.toInt = 45 ∧ y1.toInt = x1.toInt + 1 ∧ a0_n.toInt ≤ y1.toInt) ∨ (∃ (y1 : Int32) (y2 : Int32) (y3 : Int32), x2.toInt = 45 ∧ y1.toInt = x1.toInt + 1 ∧ y1.toInt < a0_n.toInt ∧ y2 = a0_t_v y1.toNatClampNeg ∧ gB y2 (-128) 127 ∧ gB y3 0 1 ∧ tr_RReader_isDigit2 y2 y3 ∧ y3.toInt = 0) ∨ (∃ (y1 : Int32) (y2 : Int32) (y3 : Int32), x2.toInt = 45 ∧ y1.toInt = x1.toInt + 1 ∧ y1.toInt < a0_n.toInt ∧ y2 = a0_t_v y1.toNatClampNeg ∧ gB y2 (-128) 127 ∧ gB y3 0 1 ∧ tr_RReader_isDigit2 y2 y3 ∧ y3.toInt ≠ 0 ∧ a0_kind.toInt = 2) ∨ (∃ (y1 : Int32) (y2 : Int32) (y3 : Int32), x2.toInt = 45 ∧ y1.toInt = x1.toInt + 1 ∧ y1.toInt < a0_n.toInt ∧ y2 = a0_t_v y1.toNatClampNeg ∧ gB y2 (-128) 127 ∧ gB y3 0 1 ∧ tr_RReader_isDigit2 y2 y3 ∧ y3.toInt ≠ 0 ∧ a0_kind.toInt ≠ 2 ∧ a0_kind.toInt = 4))) → gB x3 0 1 → tr_RReader_isLetter2 x2 x3 → x3.toInt ≠ 0 → gB x5 0 8192 → gB x6 1 6 → tr_RReader_word a0_n x1 a0_value a0_t_v x5 x6 x7 x4 → R x5 x6 x1 x7 x4) →
  (∀ (x1 : Int32) (x2 : Int32) (x3 : Int32) (x4 : Int32) (x5 : Int32) (x6 : Int32) (x7 : Int32) (x8 : gTx) (x9 : Int32) (x10 : Int32) (x11 : Int32), tl_RReader_next_8 a0_n a0_t_v a0_at 110 x1 → x1.toInt ≠ a0_n.toInt → x2 = a0_t_v x1.toNatClampNeg → gB x2 (-128) 127 → x2.toInt = 45 → x3.toInt = x1.toInt + 1 → x3.toInt < a0_n.toInt → x4 = a0_t_v x3.toNatClampNeg → gB x4 (-128) 127 → gB x5 0 1 → tr_RReader_isDigit2 x4 x5 → x5.toInt ≠ 0 → a0_kind.toInt ≠ 2 → a0_kind.toInt ≠ 4 → gB x6 0 1 → tr_RReader_isLetter2 x2 x6 → x6.toInt = 0 → gB x7 0 1 → tr_RReader_isDigit2 x2 x7 → x7.toInt ≠ 0 → gB x9 0 8192 → gB x10 4 6 → tr_RReader_number (1 : Int32) a0_n x1 a0_t_v x9 x10 x11 x8 → R x9 x10 x1 x11 x8) →
  (∀ (x1 : Int32) (x2 : Int32) (x3 : Int32) (x4 : Int32) (x5 : Int32) (x6 : Int32) (x7 : Int32) (x8 : gTx) (x9 : Int32) (x10 : Int32) (x11 : Int32), tl_RReader_next_8 a0_n a0_t_v a0_at 110 x1 → x1.toInt ≠ a0_n.toInt → x2 = a0_t_v x1.toNatClampNeg → gB x2 (-128) 127 → x2.toInt = 45 → x3.toInt = x1.toInt + 1 → x3.toInt < a0_n.toInt → x4 = a0_t_v x3.toNatClampNeg → gB x4 (-128) 127 → gB x5 0 1 → tr_RReader_isDigit2 x4 x5 → x5.toInt ≠ 0 → a0_kind.toInt ≠ 2 → a0_kind.toInt ≠ 4 → gB x6 0 1 → tr_RReader_isLetter2 x2 x6 → x6.toInt = 0 → gB x7 0 1 → tr_RReader_isDigit2 x2 x7 → x7.toInt = 0 → gB x9 0 8192 → gB x10 4 6 → tr_RReader_number (1 : Int32) a0_n x1 a0_t_v x9 x10 x11 x8 → R x9 x10 x1 x11 x8) →
  (∀ (x1 : Int32) (x2 : Int32) (x3 : Int32) (x4 : Int32) (x5 : Int32) (x6 : Int32) (x7 : gTx) (x8 : Int32) (x9 : Int32) (x10 : Int32), tl_RReader_next_8 a0_n a0_t_v a0_at 110 x1 → x1.toInt ≠ a0_n.toInt → x2 = a0_t_v x1.toNatClampNeg → gB x2 (-128) 127 → x2.toInt = 45 → x3.toInt = x1.toInt + 1 → x3.toInt < a0_n.toInt → x4 = a0_t_v x3.toNatClampNeg → gB x4 (-128) 127 → gB x5 0 1 → tr_RReader_isDigit2 x4 x5 → x5.toInt ≠ 0 → a0_kind.toInt ≠ 2 → a0_kind.toInt ≠ 4 → gB x6 0 1 → tr_RReader_isLetter2 x2 x6 → x6.toInt ≠ 0 → gB x8 0 8192 → gB x9 1 6 → tr_RReader_word a0_n x1 a0_value a0_t_v x8 x9 x10 x7 → R x8 x9 x1 x10 x7) →
  (∀ (x1 : Int32), tl_RReader_next_8 a0_n a0_t_v a0_at 110 x1 → x1.toInt = a0_n.toInt → R x1 (0 : Int32) x1 a0_value (0, fun _ => 0)) →
  (∀ (x1 : Int32) (x2 : Int32) (x3 : Int32) (x4 : Int32) (x5 : gTx) (x6 : Int32) (x7 : Int32) (x8 : Int32), tl_RReader_next_8 a0_n a0_t_v a0_at 110 x1 → x1.toInt ≠ a0_n.toInt → x2 = a0_t_v x1.toNatClampNeg → (((x2.toInt ≠ 45) ∨ (∃ (y1 : Int32), x2.toInt = 45 ∧ y1.toInt = x1.toInt + 1 ∧ a0_n.toInt ≤ y1.toInt) ∨ (∃ (y1 : Int32) (y2 : Int32) (y3 : Int32), x2.toInt = 45 ∧ y1.toInt = x1.toInt + 1 ∧ y1.toInt < a0_n.toInt ∧ y2 = a0_t_v y1.toNatClampNeg ∧ gB y2 (-128) 127 ∧ gB y3 0 1 ∧ tr_RReader_isDigit2 y2 y3 ∧ y3.toInt = 0) ∨ (∃ (y1 : Int32) (y2 : Int32) (y3 : Int32), x2.toInt = 45 ∧ y1.toInt = x1.toInt + 1 ∧ y1.toInt < a0_n.toInt ∧ y2 = a0_t_v y1.toNatClampNeg ∧ gB y2 (-128) 127 ∧ gB y3 0 1 ∧ tr_RReader_isDigit2 y2 y3 ∧ y3.toInt ≠ 0 ∧ a0_kind.toInt = 2) ∨ (∃ (y1 : Int32) (y2 : Int32) (y3 : Int32), x2.toInt = 45 ∧ y1.toInt = x1.toInt + 1 ∧ y1.toInt < a0_n.toInt ∧ y2 = a0_t_v y1.toNatClampNeg ∧ gB y2 (-128) 127 ∧ gB y3 0 1 ∧ tr_RReader_isDigit2 y2 y3 ∧ y3.toInt ≠ 0 ∧ a0_kind.toInt ≠ 2 ∧ a0_kind.toInt = 4))) → gB x3 0 1 → tr_RReader_isLetter2 x2 x3 → x3.toInt = 0 → gB x4 0 1 → tr_RReader_isDigit2 x2 x4 → x4.toInt ≠ 0 → gB x6 0 8192 → gB x7 4 6 → tr_RReader_number (0 : Int32) a0_n x1 a0_t_v x6 x7 x8 x5 → R x6 x7 x1 x8 x5) →
  (∀ (x1 : Int32) (x2 : Int32) (x3 : Int32) (x4 : Int32) (x5 : gTx) (x6 : Int32) (x7 : Int32), tl_RReader_next_8 a0_n a0_t_v a0_at 110 x1 → x1.toInt ≠ a0_n.toInt → x2 = a0_t_v x1.toNatClampNeg → (((x2.toInt ≠ 45) ∨ (∃ (y1 : Int32), x2.toInt = 45 ∧ y1.toInt = x1.toInt + 1 ∧ a0_n.toInt ≤ y1.toInt) ∨ (∃ (y1 : Int32) (y2 : Int32) (y3 : Int32), x2.toInt = 45 ∧ y1.toInt = x1.toInt + 1 ∧ y1.toInt < a0_n.toInt ∧ y2 = a0_t_v y1.toNatClampNeg ∧ gB y2 (-128) 127 ∧ gB y3 0 1 ∧ tr_RReader_isDigit2 y2 y3 ∧ y3.toInt = 0) ∨ (∃ (y1 : Int32) (y2 : Int32) (y3 : Int32), x2.toInt = 45 ∧ y1.toInt = x1.toInt + 1 ∧ y1.toInt < a0_n.toInt ∧ y2 = a0_t_v y1.toNatClampNeg ∧ gB y2 (-128) 127 ∧ gB y3 0 1 ∧ tr_RReader_isDigit2 y2 y3 ∧ y3.toInt ≠ 0 ∧ a0_kind.toInt = 2) ∨ (∃ (y1 : Int32) (y2 : Int32) (y3 : Int32), x2.toInt = 45 ∧ y1.toInt = x1.toInt + 1 ∧ y1.toInt < a0_n.toInt ∧ y2 = a0_t_v y1.toNatClampNeg ∧ gB y2 (-128) 127 ∧ gB y3 0 1 ∧ tr_RReader_isDigit2 y2 y3 ∧ y3.toInt ≠ 0 ∧ a0_kind.toInt ≠ 2 ∧ a0_kind.toInt = 4))) → gB x3 0 1 → tr_RReader_isLetter2 x2 x3 → x3.toInt = 0 → gB x4 0 1 → tr_RReader_isDigit2 x2 x4 → x4.toInt = 0 → gB x6 1 8192 → gB x7 5 6 → tr_RReader_symbol x2 a0_n x1 a0_t_v x6 x7 x5 → R x6 x7 x1 a0_value x5) →
  (∀ (x1 : Int32) (x2 : Int32) (x3 : Int32) (x4 : gTx) (x5 : Int32) (x6 : Int32) (x7 : Int32), tl_RReader_next_8 a0_n a0_t_v a0_at 110 x1 → x1.toInt ≠ a0_n.toInt → x2 = a0_t_v x1.toNatClampNeg → (((x2.toInt ≠ 45) ∨ (∃ (y1 : Int32), x2.toInt = 45 ∧ y1.toInt = x1.toInt + 1 ∧ a0_n.toInt ≤ y1.toInt) ∨ (∃ (y1 : Int32) (y2 : Int32) (y3 : Int32), x2.toInt = 45 ∧ y1.toInt = x1.toInt + 1 ∧ y1.toInt < a0_n.toInt ∧ y2 = a0_t_v y1.toNatClampNeg ∧ gB y2 (-128) 127 ∧ gB y3 0 1 ∧ tr_RReader_isDigit2 y2 y3 ∧ y3.toInt = 0) ∨ (∃ (y1 : Int32) (y2 : Int32) (y3 : Int32), x2.toInt = 45 ∧ y1.toInt = x1.toInt + 1 ∧ y1.toInt < a0_n.toInt ∧ y2 = a0_t_v y1.toNatClampNeg ∧ gB y2 (-128) 127 ∧ gB y3 0 1 ∧ tr_RReader_isDigit2 y2 y3 ∧ y3.toInt ≠ 0 ∧ a0_kind.toInt = 2) ∨ (∃ (y1 : Int32) (y2 : Int32) (y3 : Int32), x2.toInt = 45 ∧ y1.toInt = x1.toInt + 1 ∧ y1.toInt < a0_n.toInt ∧ y2 = a0_t_v y1.toNatClampNeg ∧ gB y2 (-128) 127 ∧ gB y3 0 1 ∧ tr_RReader_isDigit2 y2 y3 ∧ y3.toInt ≠ 0 ∧ a0_kind.toInt ≠ 2 ∧ a0_kind.toInt = 4))) → gB x3 0 1 → tr_RReader_isLetter2 x2 x3 → x3.toInt ≠ 0 → gB x5 0 8192 → gB x6 1 6 → tr_RReader_word a0_n x1 a0_value a0_t_v x5 x6 x7 x4 → R x5 x6 x1 x7 x4) →
  (∀ (x1 : Int32) (x2 : Int32) (x3 : Int32) (x4 : Int32) (x5 : Int32) (x6 : Int32) (x7 : Int32) (x8 : gTx) (x9 : Int32) (x10 : Int32) (x11 : Int32), tl_RReader_next_8 a0_n a0_t_v a0_at 110 x1 → x1.toInt ≠ a0_n.toInt → x2 = a0_t_v x1.toNatClampNeg → x2.toInt = 45 → x3.toInt = x1.toInt + 1 → x3.toInt < a0_n.toInt → x4 = a0_t_v x3.toNatClampNeg → gB x4 (-128) 127 → gB x5 0 1 → tr_RReader_isDigit2 x4 x5 → x5.toInt ≠ 0 → a0_kind.toInt ≠ 2 → a0_kind.toInt ≠ 4 → gB x6 0 1 → tr_RReader_isLetter2 x2 x6 → x6.toInt = 0 → gB x7 0 1 → tr_RReader_isDigit2 x2 x7 → x7.toInt ≠ 0 → gB x9 0 8192 → gB x10 4 6 → tr_RReader_number (1 : Int32) a0_n x1 a0_t_v x9 x10 x11 x8 → R x9 x10 x1 x11 x8) →
  (∀ (x1 : Int32) (x2 : Int32) (x3 : Int32) (x4 : Int32) (x5 : Int32) (x6 : Int32) (x7 : Int32) (x8 : gTx) (x9 : Int32) (x10 : Int32) (x11 : Int32), tl_RReader_next_8 a0_n a0_t_v a0_at 110 x1 → x1.toInt ≠ a0_n.toInt → x2 = a0_t_v x1.toNatClampNeg → x2.toInt = 45 → x3.toInt = x1.toInt + 1 → x3.toInt < a0_n.toInt → x4 = a0_t_v x3.toNatClampNeg → gB x4 (-128) 127 → gB x5 0 1 → tr_RReader_isDigit2 x4 x5 → x5.toInt ≠ 0 → a0_kind.toInt ≠ 2 → a0_kind.toInt ≠ 4 → gB x6 0 1 → tr_RReader_isLetter2 x2 x6 → x6.toInt = 0 → gB x7 0 1 → tr_RReader_isDigit2 x2 x7 → x7.toInt = 0 → gB x9 0 8192 → gB x10 4 6 → tr_RReader_number (1 : Int32) a0_n x1 a0_t_v x9 x10 x11 x8 → R x9 x10 x1 x11 x8) →
  (∀ (x1 : Int32) (x2 : Int32) (x3 : Int32) (x4 : Int32) (x5 : Int32) (x6 : Int32) (x7 : gTx) (x8 : Int32) (x9 : Int32) (x10 : Int32), tl_RReader_next_8 a0_n a0_t_v a0_at 110 x1 → x1.toInt ≠ a0_n.toInt → x2 = a0_t_v x1.toNatClampNeg → x2.toInt = 45 → x3.toInt = x1.toInt + 1 → x3.toInt < a0_n.toInt → x4 = a0_t_v x3.toNatClampNeg → gB x4 (-128) 127 → gB x5 0 1 → tr_RReader_isDigit2 x4 x5 → x5.toInt ≠ 0 → a0_kind.toInt ≠ 2 → a0_kind.toInt ≠ 4 → gB x6 0 1 → tr_RReader_isLetter2 x2 x6 → x6.toInt ≠ 0 → gB x8 0 8192 → gB x9 1 6 → tr_RReader_word a0_n x1 a0_value a0_t_v x8 x9 x10 x7 → R x8 x9 x1 x10 x7) →
  R o1 o2 o3 o4 o5
