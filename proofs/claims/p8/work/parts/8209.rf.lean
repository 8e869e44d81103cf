theorem dr_cX14_word_0 : decode cX14_word 0 = .ok (.aload_n 0, 1) := by decide +kernel
theorem dr_cX14_word_1 : decode cX14_word 1 = .ok (.getfield 28, 3) := by decide +kernel
theorem dr_cX14_word_4 : decode cX14_word 4 = .ok (.aload_n 0, 1) := by decide +kernel
theorem dr_cX14_word_5 : decode cX14_word 5 = .ok (.getfield 44, 3) := by decide +kernel
theorem dr_cX14_word_8 : decode cX14_word 8 = .ok (.baload, 1) := by decide +kernel
theorem dr_cX14_word_9 : decode cX14_word 9 = .ok (.istore_n 1, 1) := by decide +kernel
theorem dr_cX14_word_10 : decode cX14_word 10 = .ok (.aload_n 0, 1) := by decide +kernel
theorem dr_cX14_word_11 : decode cX14_word 11 = .ok (.bipush 6, 2) := by decide +kernel
theorem dr_cX14_word_13 : decode cX14_word 13 = .ok (.putfield 38, 3) := by decide +kernel
theorem dr_cX14_word_178 : decode cX14_word 178 = .ok (.new 87, 3) := by decide +kernel
theorem dr_cX14_word_181 : decode cX14_word 181 = .ok (.dup, 1) := by decide +kernel
theorem dr_cX14_word_182 : decode cX14_word 182 = .ok (.invokespecial 89, 3) := by decide +kernel
theorem dr_cX14_word_185 : decode cX14_word 185 = .ok (.astore_n 2, 1) := by decide +kernel
theorem dr_cX14_word_186 : decode cX14_word 186 = .ok (.aload_n 0, 1) := by decide +kernel
theorem dr_cX14_word_187 : decode cX14_word 187 = .ok (.getfield 44, 3) := by decide +kernel
theorem dr_cX14_word_190 : decode cX14_word 190 = .ok (.aload_n 0, 1) := by decide +kernel
theorem dr_cX14_word_191 : decode cX14_word 191 = .ok (.getfield 32, 3) := by decide +kernel
theorem dr_cX14_word_194 : decode cX14_word 194 = .ok (.if_icmp .ge 46, 3) := by decide +kernel
theorem dr_cX14_word_240 : decode cX14_word 240 = .ok (.aload_n 0, 1) := by decide +kernel
theorem dr_cX14_word_241 : decode cX14_word 241 = .ok (.aload_n 2, 1) := by decide +kernel
theorem dr_cX14_word_242 : decode cX14_word 242 = .ok (.invokevirtual 94, 3) := by decide +kernel
theorem dr_cX14_word_245 : decode cX14_word 245 = .ok (.putfield 11, 3) := by decide +kernel
theorem dr_cX14_word_248 : decode cX14_word 248 = .ok (.ldc 98, 2) := by decide +kernel
theorem dr_cX14_word_250 : decode cX14_word 250 = .ok (.new 87, 3) := by decide +kernel
theorem dr_cX14_word_253 : decode cX14_word 253 = .ok (.dup, 1) := by decide +kernel
theorem dr_cX14_word_254 : decode cX14_word 254 = .ok (.invokespecial 89, 3) := by decide +kernel
theorem dr_cX14_word_257 : decode cX14_word 257 = .ok (.ldc 100, 2) := by decide +kernel
theorem dr_cX14_word_259 : decode cX14_word 259 = .ok (.invokevirtual 102, 3) := by decide +kernel
theorem dr_cX14_word_262 : decode cX14_word 262 = .ok (.aload_n 0, 1) := by decide +kernel
theorem dr_cX14_word_263 : decode cX14_word 263 = .ok (.getfield 11, 3) := by decide +kernel
theorem dr_cX14_word_266 : decode cX14_word 266 = .ok (.invokevirtual 102, 3) := by decide +kernel
theorem dr_cX14_word_269 : decode cX14_word 269 = .ok (.ldc 100, 2) := by decide +kernel
theorem dr_cX14_word_271 : decode cX14_word 271 = .ok (.invokevirtual 102, 3) := by decide +kernel
theorem dr_cX14_word_274 : decode cX14_word 274 = .ok (.invokevirtual 94, 3) := by decide +kernel
theorem dr_cX14_word_277 : decode cX14_word 277 = .ok (.invokevirtual 105, 3) := by decide +kernel
theorem dr_cX14_word_280 : decode cX14_word 280 = .ok (.ifCond .lt 8, 3) := by decide +kernel
theorem dr_cX14_word_288 : decode cX14_word 288 = .ok (.return_, 1) := by decide +kernel
theorem dr_cX14_word_283 : decode cX14_word 283 = .ok (.aload_n 0, 1) := by decide +kernel
theorem dr_cX14_word_284 : decode cX14_word 284 = .ok (.iconst 1, 1) := by decide +kernel
theorem dr_cX14_word_285 : decode cX14_word 285 = .ok (.putfield 38, 3) := by decide +kernel
theorem dr_cX14_word_197 : decode cX14_word 197 = .ok (.aload_n 0, 1) := by decide +kernel
theorem dr_cX14_word_198 : decode cX14_word 198 = .ok (.getfield 28, 3) := by decide +kernel
theorem dr_cX14_word_201 : decode cX14_word 201 = .ok (.aload_n 0, 1) := by decide +kernel
theorem dr_cX14_word_202 : decode cX14_word 202 = .ok (.getfield 44, 3) := by decide +kernel
theorem dr_cX14_word_205 : decode cX14_word 205 = .ok (.baload, 1) := by decide +kernel
theorem dr_cX14_word_206 : decode cX14_word 206 = .ok (.invokestatic 54, 3) := by decide +kernel
theorem wr_7_222 : (Jvm.Cond.methodLink "SpillForgeModel$Reader" (54 : Nat) ({ cls := "SpillForgeModel$Reader", name := "isLetter", desc := "(I)Z" } : Jvm.MethodName)) ∈ gw := gw_7 222 rfl rfl
theorem wr_7_224 : (Jvm.Cond.code ({ cls := "SpillForgeModel$Reader", name := "isLetter", desc := "(I)Z" } : Jvm.MethodName) prog_17_method_3_code (1 : Nat) (Option.some Jvm.ClassFile.FieldType.boolean)) ∈ gw := gw_7 224 rfl rfl
theorem wr_7_223 : (Jvm.Cond.static ({ cls := "SpillForgeModel$Reader", name := "isLetter", desc := "(I)Z" } : Jvm.MethodName)) ∈ gw := gw_7 223 rfl rfl
theorem dr_cX14_word_209 : decode cX14_word 209 = .ok (.ifCond .eq 31, 3) := by decide +kernel
theorem dr_cX14_word_212 : decode cX14_word 212 = .ok (.aload_n 2, 1) := by decide +kernel
theorem dr_cX14_word_213 : decode cX14_word 213 = .ok (.aload_n 0, 1) := by decide +kernel
theorem dr_cX14_word_214 : decode cX14_word 214 = .ok (.getfield 28, 3) := by decide +kernel
theorem dr_cX14_word_217 : decode cX14_word 217 = .ok (.aload_n 0, 1) := by decide +kernel
theorem dr_cX14_word_218 : decode cX14_word 218 = .ok (.getfield 44, 3) := by decide +kernel
theorem dr_cX14_word_221 : decode cX14_word 221 = .ok (.baload, 1) := by decide +kernel
theorem dr_cX14_word_222 : decode cX14_word 222 = .ok (.i2c, 1) := by decide +kernel
theorem dr_cX14_word_223 : decode cX14_word 223 = .ok (.invokevirtual 90, 3) := by decide +kernel
theorem dr_cX14_word_226 : decode cX14_word 226 = .ok (.pop, 1) := by decide +kernel
theorem dr_cX14_word_227 : decode cX14_word 227 = .ok (.aload_n 0, 1) := by decide +kernel
theorem dr_cX14_word_228 : decode cX14_word 228 = .ok (.dup, 1) := by decide +kernel
theorem dr_cX14_word_229 : decode cX14_word 229 = .ok (.getfield 44, 3) := by decide +kernel
theorem dr_cX14_word_232 : decode cX14_word 232 = .ok (.iconst 1, 1) := by decide +kernel
theorem dr_cX14_word_233 : decode cX14_word 233 = .ok (.iadd, 1) := by decide +kernel
theorem dr_cX14_word_234 : decode cX14_word 234 = .ok (.putfield 44, 3) := by decide +kernel
theorem dr_cX14_word_237 : decode cX14_word 237 = .ok (.goto (-51), 3) := by decide +kernel
theorem dr_cX14_word_16 : decode cX14_word 16 = .ok (.iload_n 1, 1) := by decide +kernel
theorem dr_cX14_word_17 : decode cX14_word 17 = .ok (.bipush 118, 2) := by decide +kernel
theorem dr_cX14_word_19 : decode cX14_word 19 = .ok (.if_icmp .eq 9, 3) := by decide +kernel
theorem dr_cX14_word_28 : decode cX14_word 28 = .ok (.aload_n 0, 1) := by decide +kernel
theorem dr_cX14_word_29 : decode cX14_word 29 = .ok (.getfield 44, 3) := by decide +kernel
theorem dr_cX14_word_32 : decode cX14_word 32 = .ok (.iconst 1, 1) := by decide +kernel
theorem dr_cX14_word_33 : decode cX14_word 33 = .ok (.iadd, 1) := by decide +kernel
theorem dr_cX14_word_34 : decode cX14_word 34 = .ok (.aload_n 0, 1) := by decide +kernel
theorem dr_cX14_word_35 : decode cX14_word 35 = .ok (.getfield 32, 3) := by decide +kernel
theorem dr_cX14_word_38 : decode cX14_word 38 = .ok (.if_icmp .ge 140, 3) := by decide +kernel
theorem dr_cX14_word_41 : decode cX14_word 41 = .ok (.aload_n 0, 1) := by decide +kernel
theorem dr_cX14_word_42 : decode cX14_word 42 = .ok (.getfield 28, 3) := by decide +kernel
theorem dr_cX14_word_45 : decode cX14_word 45 = .ok (.aload_n 0, 1) := by decide +kernel
theorem dr_cX14_word_46 : decode cX14_word 46 = .ok (.getfield 44, 3) := by decide +kernel
theorem dr_cX14_word_49 : decode cX14_word 49 = .ok (.iconst 1, 1) := by decide +kernel
theorem dr_cX14_word_50 : decode cX14_word 50 = .ok (.iadd, 1) := by decide +kernel
theorem dr_cX14_word_51 : decode cX14_word 51 = .ok (.baload, 1) := by decide +kernel
theorem dr_cX14_word_52 : decode cX14_word 52 = .ok (.invokestatic 50, 3) := by decide +kernel
theorem dr_cX14_word_55 : decode cX14_word 55 = .ok (.ifCond .eq 123, 3) := by decide +kernel
theorem dr_cX14_word_58 : decode cX14_word 58 = .ok (.lconst 0, 1) := by decide +kernel
theorem dr_cX14_word_59 : decode cX14_word 59 = .ok (.lstore_n 2, 1) := by decide +kernel
theorem dr_cX14_word_60 : decode cX14_word 60 = .ok (.aload_n 0, 1) := by decide +kernel
theorem dr_cX14_word_61 : decode cX14_word 61 = .ok (.dup, 1) := by decide +kernel
theorem dr_cX14_word_62 : decode cX14_word 62 = .ok (.getfield 44, 3) := by decide +kernel
theorem dr_cX14_word_65 : decode cX14_word 65 = .ok (.iconst 1, 1) := by decide +kernel
theorem dr_cX14_word_66 : decode cX14_word 66 = .ok (.iadd, 1) := by decide +kernel
theorem dr_cX14_word_67 : decode cX14_word 67 = .ok (.putfield 44, 3) := by decide +kernel
theorem dr_cX14_word_70 : decode cX14_word 70 = .ok (.aload_n 0, 1) := by decide +kernel
theorem dr_cX14_word_71 : decode cX14_word 71 = .ok (.getfield 44, 3) := by decide +kernel
theorem dr_cX14_word_74 : decode cX14_word 74 = .ok (.aload_n 0, 1) := by decide +kernel
theorem dr_cX14_word_75 : decode cX14_word 75 = .ok (.getfield 32, 3) := by decide +kernel
theorem dr_cX14_word_78 : decode cX14_word 78 = .ok (.if_icmp .ge 58, 3) := by decide +kernel
theorem dr_cX14_word_136 : decode cX14_word 136 = .ok (.aload_n 0, 1) := by decide +kernel
theorem dr_cX14_word_137 : decode cX14_word 137 = .ok (.lload_n 2, 1) := by decide +kernel
theorem dr_cX14_word_138 : decode cX14_word 138 = .ok (.l2i, 1) := by decide +kernel
theorem dr_cX14_word_139 : decode cX14_word 139 = .ok (.putfield 80, 3) := by decide +kernel
theorem dr_cX14_word_142 : decode cX14_word 142 = .ok (.lload_n 2, 1) := by decide +kernel
theorem dr_cX14_word_143 : decode cX14_word 143 = .ok (.iload_n 1, 1) := by decide +kernel
theorem dr_cX14_word_144 : decode cX14_word 144 = .ok (.bipush 118, 2) := by decide +kernel
theorem dr_cX14_word_146 : decode cX14_word 146 = .ok (.if_icmp .ne 9, 3) := by decide +kernel
theorem dr_cX14_word_149 : decode cX14_word 149 = .ok (.ldc2_w 83, 3) := by decide +kernel
theorem wr_7_233 : (Jvm.Cond.constantLong "SpillForgeModel$Reader" (83 : Nat) (99 : Int64)) ∈ gw := gw_7 233 rfl rfl
theorem dr_cX14_word_152 : decode cX14_word 152 = .ok (.goto 6, 3) := by decide +kernel
theorem dr_cX14_word_158 : decode cX14_word 158 = .ok (.lcmp, 1) := by decide +kernel
theorem dr_cX14_word_159 : decode cX14_word 159 = .ok (.ifCond .gt 18, 3) := by decide +kernel
theorem dr_cX14_word_177 : decode cX14_word 177 = .ok (.return_, 1) := by decide +kernel
theorem dr_cX14_word_162 : decode cX14_word 162 = .ok (.aload_n 0, 1) := by decide +kernel
theorem dr_cX14_word_163 : decode cX14_word 163 = .ok (.iload_n 1, 1) := by decide +kernel
theorem dr_cX14_word_164 : decode cX14_word 164 = .ok (.bipush 118, 2) := by decide +kernel
theorem dr_cX14_word_166 : decode cX14_word 166 = .ok (.if_icmp .ne 7, 3) := by decide +kernel
theorem dr_cX14_word_169 : decode cX14_word 169 = .ok (.iconst 2, 1) := by decide +kernel
theorem dr_cX14_word_170 : decode cX14_word 170 = .ok (.goto 4, 3) := by decide +kernel
theorem dr_cX14_word_174 : decode cX14_word 174 = .ok (.putfield 38, 3) := by decide +kernel
theorem dr_cX14_word_81 : decode cX14_word 81 = .ok (.aload_n 0, 1) := by decide +kernel
theorem dr_cX14_word_82 : decode cX14_word 82 = .ok (.getfield 28, 3) := by decide +kernel
theorem dr_cX14_word_85 : decode cX14_word 85 = .ok (.aload_n 0, 1) := by decide +kernel
theorem dr_cX14_word_86 : decode cX14_word 86 = .ok (.getfield 44, 3) := by decide +kernel
theorem dr_cX14_word_89 : decode cX14_word 89 = .ok (.baload, 1) := by decide +kernel
theorem dr_cX14_word_90 : decode cX14_word 90 = .ok (.invokestatic 50, 3) := by decide +kernel
theorem dr_cX14_word_93 : decode cX14_word 93 = .ok (.ifCond .eq 43, 3) := by decide +kernel
theorem dr_cX14_word_96 : decode cX14_word 96 = .ok (.lload_n 2, 1) := by decide +kernel
theorem dr_cX14_word_97 : decode cX14_word 97 = .ok (.ldc2_w 68, 3) := by decide +kernel
theorem dr_cX14_word_100 : decode cX14_word 100 = .ok (.lmul, 1) := by decide +kernel
theorem dr_cX14_word_101 : decode cX14_word 101 = .ok (.aload_n 0, 1) := by decide +kernel
theorem dr_cX14_word_102 : decode cX14_word 102 = .ok (.getfield 28, 3) := by decide +kernel
theorem dr_cX14_word_105 : decode cX14_word 105 = .ok (.aload_n 0, 1) := by decide +kernel
theorem dr_cX14_word_106 : decode cX14_word 106 = .ok (.getfield 44, 3) := by decide +kernel
theorem dr_cX14_word_109 : decode cX14_word 109 = .ok (.baload, 1) := by decide +kernel
theorem dr_cX14_word_110 : decode cX14_word 110 = .ok (.i2l, 1) := by decide +kernel
theorem dr_cX14_word_111 : decode cX14_word 111 = .ok (.ladd, 1) := by decide +kernel
theorem dr_cX14_word_112 : decode cX14_word 112 = .ok (.ldc2_w 70, 3) := by decide +kernel
theorem dr_cX14_word_115 : decode cX14_word 115 = .ok (.lsub, 1) := by decide +kernel
theorem dr_cX14_word_116 : decode cX14_word 116 = .ok (.ldc2_w 72, 3) := by decide +kernel
theorem wr_7_231 : (Jvm.Cond.constantLong "SpillForgeModel$Reader" (72 : Nat) (1000000 : Int64)) ∈ gw := gw_7 231 rfl rfl
theorem dr_cX14_word_119 : decode cX14_word 119 = .ok (.invokestatic 74, 3) := by decide +kernel
theorem dr_cX14_word_122 : decode cX14_word 122 = .ok (.lstore_n 2, 1) := by decide +kernel
theorem dr_cX14_word_123 : decode cX14_word 123 = .ok (.aload_n 0, 1) := by decide +kernel
theorem dr_cX14_word_124 : decode cX14_word 124 = .ok (.dup, 1) := by decide +kernel
theorem dr_cX14_word_125 : decode cX14_word 125 = .ok (.getfield 44, 3) := by decide +kernel
theorem dr_cX14_word_128 : decode cX14_word 128 = .ok (.iconst 1, 1) := by decide +kernel
theorem dr_cX14_word_129 : decode cX14_word 129 = .ok (.iadd, 1) := by decide +kernel
theorem dr_cX14_word_130 : decode cX14_word 130 = .ok (.putfield 44, 3) := by decide +kernel
theorem dr_cX14_word_133 : decode cX14_word 133 = .ok (.goto (-63), 3) := by decide +kernel
theorem dr_cX14_word_22 : decode cX14_word 22 = .ok (.iload_n 1, 1) := by decide +kernel
theorem dr_cX14_word_23 : decode cX14_word 23 = .ok (.bipush 98, 2) := by decide +kernel
theorem dr_cX14_word_25 : decode cX14_word 25 = .ok (.if_icmp .ne 153, 3) := by decide +kernel
theorem dr_cX14_word_155 : decode cX14_word 155 = .ok (.ldc2_w 85, 3) := by decide +kernel
theorem wr_7_234 : (Jvm.Cond.constantLong "SpillForgeModel$Reader" (85 : Nat) (39 : Int64)) ∈ gw := gw_7 234 rfl rfl
theorem dr_cX14_word_173 : decode cX14_word 173 = .ok (.iconst 3, 1) := by decide +kernel
abbrev ky_666991_Reader_isLetter : gKey := (cX14_isLetter, 1, "SpillForgeModel$Reader", (some FieldType.boolean), [], "isLetter", fun _ _ => True)
def pp_666991_Reader_isLetter (D : va_G) (I : FieldType → ClassId) (P666988 : List Nat) (F666989 : Nat → va_E) (p666990 : Int32) : Option Value → va_W → Nat → Nat → Prop := fun r w dc ds => ∃ (o666998 : Int32), r = some (.int o666998) ∧ w = va_pl P666988 F666989 ∧ dc ≤ 0 ∧ ds ≤ 0 ∧ gB o666998 0 1 ∧ isP p666990 97 122 o666998 ∧ tr_RReader_isLetter2 p666990 o666998
set_option maxRecDepth 100000 in
set_option maxHeartbeats 4000000 in
theorem cp_666991_Reader_isLetter (l : Launch) (hl0 : l.stackTraces = false) (D : va_G) (I : FieldType → ClassId) (P666988 : List Nat) (F666989 : Nat → va_E) (p666990 : Int32)  : CtA (gV D I) l yX14_isLetter cX14_isLetter 1 (some FieldType.boolean) 0 0 0 0 [.int p666990] (va_pl P666988 F666989) (pp_666991_Reader_isLetter D I P666988 F666989 p666990) gNA := by
  refine CtA_of hl0 (by decide) (Nat.le_of_ble_eq_true rfl) ?_
  have bp666990 := gB_any p666990
  refine G_iload_n 0 dr_cX14_isLetter_0 rfl ?_
  refine G_bipush 97 dr_cX14_isLetter_1 (by decide +kernel) ?_
  refine G_icmp_lt 16 dr_cX14_isLetter_3 (by decide +kernel) (fun hc666992 => ?_) (fun hc666992 => ?_)
  · have r666993 : p666990.toInt < 97 := gj_lt hc666992 (show Int32.toInt 97 = 97 by decide)
    have bp666990' : gB p666990 (-2147483648) 96 := ⟨by omega, by omega⟩
    refine G_iconst 0 dr_cX14_isLetter_16 (by decide +kernel) ?_
    exact G_zretA FieldType.boolean dr_cX14_isLetter_17 rfl rfl (Nat.le_of_ble_eq_true rfl) (Nat.le_of_ble_eq_true rfl) ⟨0, rfl, rfl, (Nat.le_of_ble_eq_true rfl), (Nat.le_of_ble_eq_true rfl), (gB_w (gBl (show Int32.toInt 0 = 0 by decide)) (by decide) (by decide)), (isP_n (by omega)), (fun R c1 c2 c3 => c1 r666993)⟩
  · have r666994 : 97 ≤ p666990.toInt := gj_nlt hc666992 (show Int32.toInt 97 = 97 by decide)
    have bp666990' : gB p666990 97 2147483647 := ⟨by omega, by omega⟩
    refine G_iload_n 0 dr_cX14_isLetter_6 rfl ?_
    refine G_bipush 122 dr_cX14_isLetter_7 (by decide +kernel) ?_
    refine G_icmp_gt 16 dr_cX14_isLetter_9 (by decide +kernel) (fun hc666995 => ?_) (fun hc666995 => ?_)
    · have r666996 : 122 < p666990.toInt := gj_ltL hc666995 (show Int32.toInt 122 = 122 by decide)
      have bp666990'' : gB p666990 123 2147483647 := ⟨by omega, by omega⟩
      refine G_iconst 0 dr_cX14_isLetter_16 (by decide +kernel) ?_
      exact G_zretA FieldType.boolean dr_cX14_isLetter_17 rfl rfl (Nat.le_of_ble_eq_true rfl) (Nat.le_of_ble_eq_true rfl) ⟨0, rfl, rfl, (Nat.le_of_ble_eq_true rfl), (Nat.le_of_ble_eq_true rfl), (gB_w (gBl (show Int32.toInt 0 = 0 by decide)) (by decide) (by decide)), (isP_n (by omega)), (fun R c1 c2 c3 => c2 r666994 r666996)⟩
    · have r666997 : p666990.toInt ≤ 122 := gj_nltL hc666995 (show Int32.toInt 122 = 122 by decide)
      have bp666990'' : gB p666990 97 122 := ⟨by omega, by omega⟩
      refine G_iconst 1 dr_cX14_isLetter_12 (by decide +kernel) ?_
      refine G_goto 17 dr_cX14_isLetter_13 (by decide +kernel) ?_
      exact G_zretA FieldType.boolean dr_cX14_isLetter_17 rfl rfl (Nat.le_of_ble_eq_true rfl) (Nat.le_of_ble_eq_true rfl) ⟨1, rfl, rfl, (Nat.le_of_ble_eq_true rfl), (Nat.le_of_ble_eq_true rfl), (gB_w (gBl (show Int32.toInt 1 = 1 by decide)) (by decide) (by decide)), (isP_y (by omega) (by omega)), (fun R c1 c2 c3 => c3 r666994 r666997)⟩
/- tr_RAbstractStringBuilder_append8: a.0...count, a.0.value.#, a.0.value.[] -/
def tr_RAbstractStringBuilder_append8 (a1 : Int32) (a0_count : Int32) (a0_value_v : Nat → Int32) (a0_value_n : Nat) (o1 : Int32) (o2 : Nat) (o3 : Nat → Int32) : Prop := ∀ R : (Int32) → (Nat) → (Nat → Int32) → Prop,
  (∀ (x1 : Int32) (x2 : Nat) (x3 : Nat → Int32) (x4 : Int32) (x5 : Int32) (x6 : Nat → Int32), x1.toInt = a0_count.toInt + 1 → tr_RAbstractStringBuilder_ensureCapacityInternal2 x1 a0_value_v a0_value_n x2 x3 → tr_RStringLatin1_canEncode a1 (1 : Int32) → x4.toInt = a0_count.toInt + 1 → x5 = a1.toInt8.toInt32 → x6 = upd x3 a0_count.toNatClampNeg (vp_nar .byte x5) → R x4 x2 x6) →
  R o1 o2 o3
abbrev ky_667329_AbstractStringBuilder_append : gKey := (cJ5_append_3fe6f, 2, "java/lang/AbstractStringBuilder", (some (FieldType.object "java/lang/AbstractStringBuilder")), [], "append", fun _ _ => True)
def pp_667329_AbstractStringBuilder_append (D : va_G) (I : FieldType → ClassId) (P667316 : List Nat) (F667317 : Nat → va_E) (q667318 : Nat) (q667319 : Nat) (p667320 : Int32) (p667321 : Int32) (p667322 : Int32) (f667323 : Nat → Int32) (n667324 : Nat) : Option Value → va_W → Nat → Nat → Prop := fun r w dc ds => ∃ (P667394 : List Nat) (F667395 : Nat → va_E) (o667390 : Int32) (q667391 : Nat) (n667392 : Nat) (f667393 : Nat → Int32), r = some (.ref q667318) ∧ w = va_pl P667394 F667395 ∧ rSub P667316 P667394 ∧ rFr [q667319, q667318] P667316 F667317 F667395 ∧ F667395 q667318 = .inr (1, [.ref q667391, .int 0, .int p667321, .int o667390]) ∧ F667395 q667391 = .inl (I .byte, n667392, .inl f667393) ∧ q667391 ∈ P667394 ∧ (q667391 = q667319 ∨ q667391 ∉ P667316) ∧ dc ≤ 1 ∧ ds ≤ 2 * (n667392 - n667324) ∧ gB o667390 1 16777216 ∧ gF f667393 (-128) 127 ∧ o667390.toInt = p667322.toInt + 1 ∧ o667390.toInt ≤ (n667392 : Int) ∧ (n667324 : Int) ≤ (n667392 : Int) ∧ (n667392 : Int) ≤ 2 * o667390.toInt + 16 ∧ (n667392 : Int) ≤ 2 * (n667324 : Int) + 2 ∧ tr_RAbstractStringBuilder_append8 p667320 p667322 f667323 n667324 o667390 n667392 f667393
set_option maxRecDepth 100000 in
set_option maxHeartbeats 4000000 in
theorem cp_667329_AbstractStringBuilder_append (l : Launch) (hl0 : l.stackTraces = false) (D : va_G) (I : FieldType → ClassId) (P667316 : List Nat) (F667317 : Nat → va_E) (q667318 : Nat) (q667319 : Nat) (p667320 : Int32) (p667321 : Int32) (p667322 : Int32) (f667323 : Nat → Int32) (n667324 : Nat) (hmq667318 : q667318 ∈ P667316) (hmq667319 : q667319 ∈ P667316) (heq667318 : F667317 q667318 = .inr (1, [.ref q667319, .int 0, .int p667321, .int p667322])) (heq667319 : F667317 q667319 = .inl (I .byte, n667324, .inl f667323)) (bp667320 : gB p667320 0 255) (bp667321 : gB p667321 0 1) (bp667322 : gB p667322 0 16777216) (bf667323 : gF f667323 (-128) 127) (x667325 : (n667324 : Int) ≤ 8388608 - 100000) (x667326 : p667322.toInt ≤ (n667324 : Int)) (x667327 : (n667324 : Int) ≤ 2 * p667322.toInt + 16) (x667328 : ((n667324 : Int) ≤ 16777216)) : CtA (gV D I) l yJ5_append_3fe6f cJ5_append_3fe6f 2 (some (FieldType.object "java/lang/AbstractStringBuilder")) 4 84 1 (4 * n667324 + 8) [.ref q667318, .int p667320] (va_pl P667316 F667317) (pp_667329_AbstractStringBuilder_append D I P667316 F667317 q667318 q667319 p667320 p667321 p667322 f667323 n667324) gNA := by
  refine CtA_ofF hl0 (by decide +kernel) (Nat.le_of_ble_eq_true rfl) ?_
  refine G_aload_n 0 dr_cJ5_append_3fe6f_0 rfl ?_
  refine G_aload_n 0 dr_cJ5_append_3fe6f_1 rfl ?_
  refine Gp_get 3 hmq667318 heq667318 dr_cJ5_append_3fe6f_2 (gk_J4 D I) (Nat.le_of_ble_eq_true rfl) wr_7_64 rfl ?_
  refine G_iconst 1 dr_cJ5_append_3fe6f_5 (by decide +kernel) ?_
  refine G_iadd dr_cJ5_append_3fe6f_6 (G_nam fun z667330 hz667330 => ?_)
  have ez667330 : z667330.toInt = p667322.toInt + 1 := by rw [gI_add hz667330 bp667322 (gBl (show Int32.toInt 1 = 1 by decide)) (by decide) (by decide), show Int32.toInt 1 = 1 from by decide]
  have bz667330 : gB z667330 1 16777217 := gB_add (gI_add hz667330 bp667322 (gBl (show Int32.toInt 1 = 1 by decide)) (by decide) (by decide)) bp667322 (gBl (show Int32.toInt 1 = 1 by decide)) (by decide) (by decide)
  refine Gw_callVB (As := [.int z667330]) (gV_ok D I) (cp_655588_AbstractStringBuilder_ensureCapacityInternal l hl0 D I P667316 F667317 q667318 q667319 z667330 p667321 p667322 f667323 n667324 hmq667318 hmq667319 heq667318 heq667319 ⟨by omega, by omega⟩ bp667321 bp667322 bf667323 (by have qa0 : Int32.toInt 0 = 0 := (by decide); omega) (by have qa0 : Int32.toInt 0 = 0 := (by decide); omega)) dr_cJ5_append_3fe6f_7 ⟨wr_8_4, wr_1_19, wr_8_7, by decide, rfl, (Nat.le_of_ble_eq_true rfl), (Nat.le_of_ble_eq_true rfl)⟩ wr_8_6 wr_s_0 hmq667318 heq667318 rfl (show 0 + 1 ≤ 1 by first | omega | decide) (show 0 + (2 * n667324 + 2 + z667330.toInt.toNat) ≤ (4 * n667324 + 8) by first | omega | decide) (Nat.le_of_ble_eq_true rfl) (fun r667334 w667335 dc667331 ds667332 hp667333 => ?_) (fun _ _ _ _ _ z => z.elim)
  obtain ⟨P667344, F667345, q667336, n667337, f667338, rfl, rfl, hsb667346, hfr667347, he667348, he667349, hm667350, hq667351, hdc, hds, bf667338, x667339, x667340, x667341, x667342, ht667343⟩ := hp667333
  have hm667352 : q667318 ∈ P667344 := hsb667346 q667318 hmq667318
  have hm667353 : q667319 ∈ P667344 := hsb667346 q667319 hmq667319
  have hor667354 : q667336 = q667319 ∨ q667336 ∉ P667316 := hq667351.elim Or.inl (fun n => Or.inr (fun z => n ((rSub_rf (P := P667316)) _ z)))
  have hsb667355 : rSub P667316 P667344 := rSub_tr (rSub_rf (P := P667316)) hsb667346
  have he667356 : F667345 q667319 = .inl (I .byte, n667324, .inl f667323) := (hfr667347 q667319 hmq667319 (nm_c (rn_ao heq667319 heq667318) nm_n)).trans heq667319
  have hfr667357 : rFr [q667318] P667316 F667317 F667345 := rFr_call (rSub_rf (P := P667316)) (rFr_rf (W := []) (P := P667316) (F := F667317)) hfr667347 (fun b hb hn => ⟨nm_n, (nm_c (fun e => hn (e ▸ List.mem_cons_self)) nm_n)⟩)
  change G _ _ _ _ _ _ _ _ _ _ _
  refine G_widen (cs' := 1) (sl' := 2 * (n667337 - n667324)) (by omega) (by omega) ?_
  refine G_aload_n 0 dr_cJ5_append_3fe6f_10 rfl ?_
  refine Gw_callVB (As := []) (gV_ok D I) (cp_655489_AbstractStringBuilder_isLatin1 l hl0 D I P667344 F667345 q667318 q667336 p667321 p667322 f667338 n667337 hm667352 hm667350 he667348 he667349 bp667321 bp667322 bf667338 (by have qa0 : Int32.toInt 0 = 0 := (by decide); omega)) dr_cJ5_append_3fe6f_11 ⟨wr_8_33, wr_1_19, wr_8_37, by decide, rfl, (Nat.le_of_ble_eq_true rfl), (Nat.le_of_ble_eq_true rfl)⟩ wr_8_34 wr_8_36 hm667352 he667348 rfl (show 1 + 0 ≤ 1 by first | omega | decide) (show 2 * (n667337 - n667324) + 0 ≤ (4 * n667324 + 8) by first | omega | decide) (Nat.le_of_ble_eq_true rfl) (fun r667361 w667362 dc667358 ds667359 hp667360 => ?_) (fun _ _ _ _ _ z => z.elim)
  obtain ⟨rfl, rfl, hdc, hds⟩ := hp667360
  change G _ _ _ _ _ _ _ (.int 1 :: _) _ _ _
  refine G_widen (cs' := 1) (sl' := 2 * (n667337 - n667324) + 0) (by omega) (by omega) ?_
  refine G_if_eq 45 dr_cJ5_append_3fe6f_14 (by decide +kernel) (fun hc => absurd hc (by decide)) (fun _ => ?_)
  refine G_iload_n 1 dr_cJ5_append_3fe6f_17 rfl ?_
  refine Gw_callS (As := [.int p667320]) (gV_ok D I) (cp_655498_StringLatin1_canEncode l hl0 D I P667344 F667345 p667320 (gB_w bp667320 (by decide) (by decide))) dr_cJ5_append_3fe6f_18 ⟨wr_8_38, wr_1_28, wr_8_40, by decide, rfl, (Nat.le_of_ble_eq_true rfl), (Nat.le_of_ble_eq_true rfl)⟩ wr_8_39 (show 1 + 0 ≤ 1 by first | omega | decide) (show 2 * (n667337 - n667324) + 0 + 0 ≤ (4 * n667324 + 8) by first | omega | decide) (Nat.le_of_ble_eq_true rfl) (fun r667366 w667367 dc667363 ds667364 hp667365 => ?_) (fun _ _ _ _ _ z => z.elim)
  rcases hp667365 with ⟨rfl, rfl, hdc, hds, r667368, r667369⟩ | ⟨rfl, rfl, hdc, hds, r667370, r667371⟩
  · exact absurd (show False by omega) not_false
  · change G _ _ _ _ _ _ _ (.int 1 :: _) _ _ _
    refine G_widen (cs' := 1) (sl' := 2 * (n667337 - n667324) + 0 + 0) (by omega) (by omega) ?_
    refine G_if_eq 45 dr_cJ5_append_3fe6f_21 (by decide +kernel) (fun hc => absurd hc (by decide)) (fun _ => ?_)
    refine G_aload_n 0 dr_cJ5_append_3fe6f_24 rfl ?_
    refine Gp_get 0 hm667352 he667348 dr_cJ5_append_3fe6f_25 (gk_J4 D I) (Nat.le_of_ble_eq_true rfl) wr_7_60 rfl ?_
    refine G_aload_n 0 dr_cJ5_append_3fe6f_28 rfl ?_
    refine G_dup dr_cJ5_append_3fe6f_29 rfl ?_
    refine Gp_get 3 hm667352 he667348 dr_cJ5_append_3fe6f_30 (gk_J4 D I) (Nat.le_of_ble_eq_true rfl) wr_7_64 rfl ?_
    refine G_dup_x1 dr_cJ5_append_3fe6f_33 rfl rfl ?_
    refine G_iconst 1 dr_cJ5_append_3fe6f_34 (by decide +kernel) ?_
    refine G_iadd dr_cJ5_append_3fe6f_35 (G_nam fun z667373 hz667373 => ?_)
    have ez667373 : z667373.toInt = p667322.toInt + 1 := by rw [gI_add hz667373 bp667322 (gBl (show Int32.toInt 1 = 1 by decide)) (by decide) (by decide), show Int32.toInt 1 = 1 from by decide]
    have bz667373 : gB z667373 1 16777217 := gB_add (gI_add hz667373 bp667322 (gBl (show Int32.toInt 1 = 1 by decide)) (by decide) (by decide)) bp667322 (gBl (show Int32.toInt 1 = 1 by decide)) (by decide) (by decide)
    refine Gp_put 3 hm667352 he667348 dr_cJ5_append_3fe6f_36 (gk_J4 D I) (Nat.le_of_ble_eq_true rfl) wr_7_64 rfl rfl rfl (Nat.le_of_ble_eq_true rfl) (fun F667374 e667375 n667376 => ?_)
    have he667377 : F667374 q667319 = .inl (I .byte, n667324, .inl f667323) := (n667376 q667319 (rn_ao he667356 he667348)).trans he667356
    have he667378 : F667374 q667336 = .inl (I .byte, n667337, .inl f667338) := (n667376 q667336 (rn_ao he667349 he667348)).trans he667349
    have he667379 : F667374 q667318 = .inr (1, [.ref q667336, .int 0, .int p667321, .int z667373]) := e667375
    have hfr667380 : rFr [q667318] P667316 F667317 F667374 := rFr_put' List.mem_cons_self hfr667357 n667376
    refine G_iload_n 1 dr_cJ5_append_3fe6f_39 rfl ?_
    refine G_i2b dr_cJ5_append_3fe6f_40 (G_nam fun z667381 hz667381 => ?_)
    have bz667381 : gB z667381 (-128) 127 := gB_i2b hz667381
    refine Gp_bast 1 hm667350 he667378 dr_cJ5_append_3fe6f_41 rfl (gB_inr (by omega) (by omega)) (fun F667382 e667383 n667384 => ?_)
    obtain ⟨f667385, hf667385⟩ : ∃ z, z = upd f667338 p667322.toNatClampNeg (vp_nar .byte z667381) := ⟨_, rfl⟩
    rw [← hf667385] at e667383
    have he667387 : F667382 q667318 = .inr (1, [.ref q667336, .int 0, .int p667321, .int z667373]) := (n667384 q667318 (rn_oa he667379 he667378)).trans he667379
    have he667388 : F667382 q667336 = .inl (I .byte, n667337, .inl f667385) := e667383
    have hfr667389 : rFr [q667319, q667318] P667316 F667317 F667382 := rFr_eit hor667354 hfr667380 n667384
    have bf667385 : gF f667385 (-128) 127 := gF_upd hf667385 bf667338 gB_byte
    refine G_goto 75 dr_cJ5_append_3fe6f_42 (by decide +kernel) ?_
    refine G_aload_n 0 dr_cJ5_append_3fe6f_75 rfl ?_
    exact G_aretA (FieldType.object "java/lang/AbstractStringBuilder") dr_cJ5_append_3fe6f_76 rfl (by first | exact Or.inl ⟨_, rfl⟩ | exact Or.inr ⟨_, rfl⟩) (Or.inr ⟨_, rfl⟩) (Nat.le_of_ble_eq_true rfl) (show 2 * (n667337 - n667324) + 0 + 0 ≤ (4 * n667324 + 8) by omega) ⟨P667344, F667382, z667373, q667336, n667337, f667385, rfl, rfl, hsb667355, hfr667389, he667387, he667388, hm667350, hor667354, (Nat.le_of_ble_eq_true rfl), (by omega), ⟨by omega, by omega⟩, bf667385, (by have qa0 : Int32.toInt 0 = 0 := (by decide); omega), (by have qa0 : Int32.toInt 0 = 0 := (by decide); omega), (by have qa0 : Int32.toInt 0 = 0 := (by decide); omega), (by have qa0 : Int32.toInt 0 = 0 := (by decide); omega), (by have qa0 : Int32.toInt 0 = 0 := (by decide); omega), (fun R c1 => c1 z667330 n667337 f667338 z667373 z667381 f667385 ez667330 ht667343 r667371 ez667373 hz667381 hf667385)⟩
/- tr_RStringBuilder_append8: a.0...count, a.0.value.#, a.0.value.[] -/
def tr_RStringBuilder_append8 (a1 : Int32) (a0_count : Int32) (a0_value_v : Nat → Int32) (a0_value_n : Nat) (o1 : Int32) (o2 : Nat) (o3 : Nat → Int32) : Prop := ∀ R : (Int32) → (Nat) → (Nat → Int32) → Prop,
  (∀ (x1 : Int32) (x2 : Nat) (x3 : Nat → Int32), gB x1 1 16777216 → tr_RAbstractStringBuilder_append8 a1 a0_count a0_value_v a0_value_n x1 x2 x3 → R x1 x2 x3) →
  R o1 o2 o3
abbrev ky_667315_StringBuilder_append : gKey := (cJ4_append_cf468, 2, "java/lang/StringBuilder", (some (FieldType.object "java/lang/StringBuilder")), [], "append", fun _ _ => True)
def pp_667315_StringBuilder_append (D : va_G) (I : FieldType → ClassId) (P667302 : List Nat) (F667303 : Nat → va_E) (q667304 : Nat) (q667305 : Nat) (p667306 : Int32) (p667307 : Int32) (p667308 : Int32) (f667309 : Nat → Int32) (n667310 : Nat) : Option Value → va_W → Nat → Nat → Prop := fun r w dc ds => ∃ (P667428 : List Nat) (F667429 : Nat → va_E) (o667424 : Int32) (q667425 : Nat) (n667426 : Nat) (f667427 : Nat → Int32), r = some (.ref q667304) ∧ w = va_pl P667428 F667429 ∧ rSub P667302 P667428 ∧ rFr [q667305, q667304] P667302 F667303 F667429 ∧ F667429 q667304 = .inr (1, [.ref q667425, .int 0, .int p667307, .int o667424]) ∧ F667429 q667425 = .inl (I .byte, n667426, .inl f667427) ∧ q667425 ∈ P667428 ∧ (q667425 = q667305 ∨ q667425 ∉ P667302) ∧ dc ≤ 1 ∧ ds ≤ 2 * (n667426 - n667310) ∧ gB o667424 1 16777216 ∧ gF f667427 (-128) 127 ∧ o667424.toInt = p667308.toInt + 1 ∧ o667424.toInt ≤ (n667426 : Int) ∧ (n667310 : Int) ≤ (n667426 : Int) ∧ (n667426 : Int) ≤ 2 * o667424.toInt + 16 ∧ (n667426 : Int) ≤ 2 * (n667310 : Int) + 2 ∧ tr_RStringBuilder_append8 p667306 p667308 f667309 n667310 o667424 n667426 f667427
set_option maxRecDepth 100000 in
set_option maxHeartbeats 4000000 in
theorem cp_667315_StringBuilder_append (l : Launch) (hl0 : l.stackTraces = false) (D : va_G) (I : FieldType → ClassId) (P667302 : List Nat) (F667303 : Nat → va_E) (q667304 : Nat) (q667305 : Nat) (p667306 : Int32) (p667307 : Int32) (p667308 : Int32) (f667309 : Nat → Int32) (n667310 : Nat) (hmq667304 : q667304 ∈ P667302) (hmq667305 : q667305 ∈ P667302) (heq667304 : F667303 q667304 = .inr (1, [.ref q667305, .int 0, .int p667307, .int p667308])) (heq667305 : F667303 q667305 = .inl (I .byte, n667310, .inl f667309)) (bp667306 : gB p667306 0 255) (bp667307 : gB p667307 0 1) (bp667308 : gB p667308 0 16777216) (bf667309 : gF f667309 (-128) 127) (x667311 : (n667310 : Int) ≤ 8388608 - 100000) (x667312 : p667308.toInt ≤ (n667310 : Int)) (x667313 : (n667310 : Int) ≤ 2 * p667308.toInt + 16) (x667314 : ((n667310 : Int) ≤ 16777216)) : CtA (gV D I) l yJ4_append_cf468 cJ4_append_cf468 2 (some (FieldType.object "java/lang/StringBuilder")) 5 105 1 (4 * n667310 + 8) [.ref q667304, .int p667306] (va_pl P667302 F667303) (pp_667315_StringBuilder_append D I P667302 F667303 q667304 q667305 p667306 p667307 p667308 f667309 n667310) gNA := by
  refine CtA_ofF hl0 (by decide +kernel) (Nat.le_of_ble_eq_true rfl) ?_
  refine G_aload_n 0 dr_cJ4_append_cf468_0 rfl ?_
  refine G_iload_n 1 dr_cJ4_append_cf468_1 rfl ?_
  refine Gw_callSU (As := [.int p667306]) (gV_ok D I) (cp_667329_AbstractStringBuilder_append l hl0 D I P667302 F667303 q667304 q667305 p667306 p667307 p667308 f667309 n667310 hmq667304 hmq667305 heq667304 heq667305 bp667306 bp667307 bp667308 bf667309 (by have qa0 : Int32.toInt 0 = 0 := (by decide); omega) (by have qa0 : Int32.toInt 0 = 0 := (by decide); omega) (by have qa0 : Int32.toInt 0 = 0 := (by decide); omega) (by have qa0 : Int32.toInt 0 = 0 := (by decide); omega)) dr_cJ4_append_cf468_2 ⟨wr_8_1, wr_1_19, wr_8_3, by decide, rfl, (Nat.le_of_ble_eq_true rfl), (Nat.le_of_ble_eq_true rfl)⟩ wr_8_2 wr_11_224 wr_7_73 wr_7_44 (by decide) hmq667304 heq667304 rfl (show 0 + 1 ≤ 1 by first | omega | decide) (show 0 + (4 * n667310 + 8) ≤ (4 * n667310 + 8) by first | omega | decide) (Nat.le_of_ble_eq_true rfl) (fun r667399 w667400 dc667396 ds667397 hp667398 => ?_)
  obtain ⟨P667411, F667412, o667401, q667402, n667403, f667404, rfl, rfl, hsb667413, hfr667414, he667415, he667416, hm667417, hq667418, hdc, hds, bo667401, bf667404, x667405, x667406, x667407, x667408, x667409, ht667410⟩ := hp667398
  have hm667419 : q667304 ∈ P667411 := hsb667413 q667304 hmq667304
  have hm667420 : q667305 ∈ P667411 := hsb667413 q667305 hmq667305
  have hor667421 : q667402 = q667305 ∨ q667402 ∉ P667302 := hq667418.elim Or.inl (fun n => Or.inr (fun z => n ((rSub_rf (P := P667302)) _ z)))
  have hsb667422 : rSub P667302 P667411 := rSub_tr (rSub_rf (P := P667302)) hsb667413
  have hfr667423 : rFr [q667305, q667304] P667302 F667303 F667412 := rFr_call (rSub_rf (P := P667302)) (rFr_rf (W := []) (P := P667302) (F := F667303)) hfr667414 (fun b hb hn => ⟨nm_n, (nm_c (fun e => hn (e ▸ List.mem_cons_self)) (nm_c (fun e => hn (e ▸ (List.mem_cons_of_mem _ List.mem_cons_self))) nm_n))⟩)
  change G _ _ _ _ _ _ _ (.ref q667304 :: _) _ _ _
  refine G_widen (cs' := 1) (sl' := 2 * (n667403 - n667310)) (by omega) (by omega) ?_
  refine G_pop dr_cJ4_append_cf468_5 rfl ?_
  refine G_aload_n 0 dr_cJ4_append_cf468_6 rfl ?_
  exact G_aretA (FieldType.object "java/lang/StringBuilder") dr_cJ4_append_cf468_7 rfl (by first | exact Or.inl ⟨_, rfl⟩ | exact Or.inr ⟨_, rfl⟩) (Or.inr ⟨_, rfl⟩) (Nat.le_of_ble_eq_true rfl) (show 2 * (n667403 - n667310) ≤ (4 * n667310 + 8) by omega) ⟨P667411, F667412, o667401, q667402, n667403, f667404, rfl, rfl, hsb667422, hfr667423, he667415, he667416, hm667417, hor667421, (Nat.le_of_ble_eq_true rfl), (by omega), bo667401, bf667404, (by have qa0 : Int32.toInt 0 = 0 := (by decide); omega), (by have qa0 : Int32.toInt 0 = 0 := (by decide); omega), (by have qa0 : Int32.toInt 0 = 0 := (by decide); omega), (by have qa0 : Int32.toInt 0 = 0 := (by decide); omega), (by have qa0 : Int32.toInt 0 = 0 := (by decide); omega), (fun R c1 => c1 o667401 n667403 f667404 bo667401 ht667410)⟩
/- tl_RReader_word_186: a0_at, a3_count, a3_value_n, a3_value_v; out: a0_at, a3_count, a3_value_n, a3_value_v -/
def tl_RReader_word_186 (a0_n : Int32) (a0_t_v : Nat → Int32) (s1 : Int32) (s2 : Int32) (s3 : Nat) (s4 : Nat → Int32) (k : Nat) (e1 : Int32) (e2 : Int32) (e3 : Nat) (e4 : Nat → Int32) : Prop := ∀ R : (Int32) → (Int32) → (Nat) → (Nat → Int32) → Nat → (Int32) → (Int32) → (Nat) → (Nat → Int32) → Prop,
  (∀ (a0_at_1 : Int32) (a3_count_1 : Int32) (a3_value_n_1 : Nat) (a3_value_v_1 : Nat → Int32), gB a0_at_1 0 8192 → gB a3_count_1 0 16777216 → a0_n.toInt ≤ a0_at_1.toInt → R a0_at_1 a3_count_1 a3_value_n_1 a3_value_v_1 240 a0_at_1 a3_count_1 a3_value_n_1 a3_value_v_1) →
  (∀ (a0_at_1 : Int32) (a3_count_1 : Int32) (a3_value_n_1 : Nat) (a3_value_v_1 : Nat → Int32) (x1 : Int32) (x2 : Int32), gB a0_at_1 0 8192 → gB a3_count_1 0 16777216 → a0_at_1.toInt < a0_n.toInt → x1 = a0_t_v a0_at_1.toNatClampNeg → gB x1 (-128) 127 → gB x2 0 1 → tr_RReader_isLetter2 x1 x2 → x2.toInt = 0 → R a0_at_1 a3_count_1 a3_value_n_1 a3_value_v_1 240 a0_at_1 a3_count_1 a3_value_n_1 a3_value_v_1) →
  (∀ (a0_at_1 : Int32) (a3_count_1 : Int32) (a3_value_n_1 : Nat) (a3_value_v_1 : Nat → Int32) (x1 : Int32) (x2 : Int32) (x3 : Int32) (x4 : Int32) (x5 : Nat) (x6 : Nat → Int32) (x7 : Int32) (k : Nat) (e1 : Int32) (e2 : Int32) (e3 : Nat) (e4 : Nat → Int32), gB a0_at_1 0 8192 → gB a3_count_1 0 16777216 → a0_at_1.toInt < a0_n.toInt → x1 = a0_t_v a0_at_1.toNatClampNeg → gB x1 (-128) 127 → gB x2 0 1 → tr_RReader_isLetter2 x1 x2 → x2.toInt ≠ 0 → x3 = (x1.toUInt32 % 65536).toInt32 → gB x4 1 16777216 → tr_RStringBuilder_append8 x3 a3_count_1 a3_value_v_1 a3_value_n_1 x4 x5 x6 → x7.toInt = a0_at_1.toInt + 1 → R x7 x4 x5 x6 k e1 e2 e3 e4 → R a0_at_1 a3_count_1 a3_value_n_1 a3_value_v_1 k e1 e2 e3 e4) →
  R s1 s2 s3 s4 k e1 e2 e3 e4
/- tl_RReader_word_70: l2, a0_at; out: l2, a0_at -/
def tl_RReader_word_70 (a0_n : Int32) (a0_t_v : Nat → Int32) (s1 : Int64) (s2 : Int32) (k : Nat) (e1 : Int64) (e2 : Int32) : Prop := ∀ R : (Int64) → (Int32) → Nat → (Int64) → (Int32) → Prop,
  (∀ (l2_1 : Int64) (a0_at_1 : Int32), gB a0_at_1 0 8192 → a0_n.toInt ≤ a0_at_1.toInt → R l2_1 a0_at_1 136 l2_1 a0_at_1) →
  (∀ (l2_1 : Int64) (a0_at_1 : Int32) (x1 : Int32) (x2 : Int32), gB a0_at_1 0 8192 → a0_at_1.toInt < a0_n.toInt → x1 = a0_t_v a0_at_1.toNatClampNeg → gB x1 (-128) 127 → gB x2 0 1 → tr_RReader_isDigit2 x1 x2 → x2.toInt = 0 → R l2_1 a0_at_1 136 l2_1 a0_at_1) →
  (∀ (l2_1 : Int64) (a0_at_1 : Int32) (x1 : Int32) (x2 : Int32) (x3 : Int64) (x4 : Int64) (x5 : Int64) (x6 : Int64) (x7 : Int64) (x8 : Int32) (k : Nat) (e1 : Int64) (e2 : Int32), gB a0_at_1 0 8192 → a0_at_1.toInt < a0_n.toInt → x1 = a0_t_v a0_at_1.toNatClampNeg → gB x1 (-128) 127 → gB x2 0 1 → tr_RReader_isDigit2 x1 x2 → x2.toInt ≠ 0 → x3 = l2_1 * (10 : Int64) → x4 = x1.toInt64 → x5 = x3 + x4 → x6 = x5 - (48 : Int64) → tr_RMath_min x6 (1000000 : Int64) x7 → x8.toInt = a0_at_1.toInt + 1 → R x7 x8 k e1 e2 → R l2_1 a0_at_1 k e1 e2) →
  R s1 s2 k e1 e2
/- tl_RReader_word_70_2: l2, a0_at; out: l2, a0_at -/
def tl_RReader_word_70_2 (a0_n : Int32) (a0_t_v : Nat → Int32) (s1 : Int64) (s2 : Int32) (k : Nat) (e1 : Int64) (e2 : Int32) : Prop := ∀ R : (Int64) → (Int32) → Nat → (Int64) → (Int32) → Prop,
  (∀ (l2_1 : Int64) (a0_at_1 : Int32), gB a0_at_1 0 8192 → a0_n.toInt ≤ a0_at_1.toInt → R l2_1 a0_at_1 136 l2_1 a0_at_1) →
  (∀ (l2_1 : Int64) (a0_at_1 : Int32) (x1 : Int32) (x2 : Int32), gB a0_at_1 0 8192 → a0_at_1.toInt < a0_n.toInt → x1 = a0_t_v a0_at_1.toNatClampNeg → gB x1 (-128) 127 → gB x2 0 1 → tr_RReader_isDigit2 x1 x2 → x2.toInt = 0 → R l2_1 a0_at_1 136 l2_1 a0_at_1) →
  (∀ (l2_1 : Int64) (a0_at_1 : Int32) (x1 : Int32) (x2 : Int32) (x3 : Int64) (x4 : Int64) (x5 : Int64) (x6 : Int64) (x7 : Int64) (x8 : Int32) (k : Nat) (e1 : Int64) (e2 : Int32), gB a0_at_1 0 8192 → a0_at_1.toInt < a0_n.toInt → x1 = a0_t_v a0_at_1.toNatClampNeg → gB x1 (-128) 127 → gB x2 0 1 → tr_RReader_isDigit2 x1 x2 → x2.toInt ≠ 0 → x3 = l2_1 * (10 : Int64) → x4 = x1.toInt64 → x5 = x3 + x4 → x6 = x5 - (48 : Int64) → tr_RMath_min x6 (1000000 : Int64) x7 → x8.toInt = a0_at_1.toInt + 1 → R x7 x8 k e1 e2 → R l2_1 a0_at_1 k e1 e2) →
  R s1 s2 k e1 e2
/- tr_RReader_word: a.0...at, a.0...kind, a.0...value -/
def tr_RReader_word (a0_n : Int32) (a0_at : Int32) (a0_value : Int32) (a0_t_v : Nat → Int32) (o1 : Int32) (o2 : Int32) (o3 : Int32) (o4 : gTx) : Prop := ∀ R : (Int32) → (Int32) → (Int32) → (gTx) → Prop,
  (∀ (x1 : Int32) (x2 : Int32) (x3 : Int32) (x4 : Nat) (x5 : Nat → Int32) (x6 : Nat) (x7 : Nat → Int32) (x8 : Int32) (x9 : Nat → Int32) (x10 : Int32) (x11 : Nat) (x12 : Nat → Int32) (x13 : Int32) (x14 : Nat) (x15 : Nat → Int32) (x16 : Nat) (x17 : Nat → Int32) (x18 : Int32), x1 = a0_t_v a0_at.toNatClampNeg → gB x1 (-128) 127 → (((∃ (y1 : Int32), x1.toInt = 118 ∧ y1.toInt = a0_at.toInt + 1 ∧ a0_n.toInt ≤ y1.toInt) ∨ (∃ (y1 : Int32) (y2 : Int32) (y3 : Int32), x1.toInt = 118 ∧ y1.toInt = a0_at.toInt + 1 ∧ y1.toInt < a0_n.toInt ∧ y2 = a0_t_v y1.toNatClampNeg ∧ gB y2 (-128) 127 ∧ gB y3 0 1 ∧ tr_RReader_isDigit2 y2 y3 ∧ y3.toInt = 0) ∨ (x1.toInt ≠ 118 ∧ x1.toInt ≠ 98) ∨ (∃ (y1 : Int32), x1.toInt ≠ 118 ∧ x1.toInt = 98 ∧ y1.toInt = a0_at.toInt + 1 ∧ a0_n.toInt ≤ y1.toInt) ∨ (∃ (y1 : Int32) (y2 : Int32) (y3 : Int32), x1.toInt ≠ 118 ∧ x1.toInt = 98 ∧ y1.toInt = a0_at.toInt + 1 ∧ y1.toInt < a0_n.toInt ∧ y2 = a0_t_v y1.toNatClampNeg ∧ gB y2 (-128) 127 ∧ gB y3 0 1 ∧ tr_RReader_isDigit2 y2 y3 ∧ y3.toInt = 0))) → (tl_RReader_word_186 a0_n a0_t_v a0_at (0 : Int32) 16 (fun _ => 0 : Nat → Int32) 240 x2 x3 x4 x5) → tr_RStringBuilder_toString x3 x5 x4 x6 x7 → gB x8 0 16777216 → (tr_RStringBuilder_append4 sb_35 (0 : Int32) (fun _ => 0) 16 x8 x9) → gB x10 0 16777216 → tr_RStringBuilder_append5 x8 x9 16 x7 x6 x10 x11 x12 → gB x13 0 16777216 → tr_RStringBuilder_append6 sb_35 x10 x12 x11 x13 x14 x15 → tr_RStringBuilder_toString x13 x15 x14 x16 x17 → gB x18 (-2147483646) 16777215 → tr_RString_indexOf sb_34 x17 x16 x18 → x18.toInt < 0 → R x2 (6 : Int32) a0_value (0, fun _ => 0)) →
  (∀ (x1 : Int32) (x2 : Int32) (x3 : Int32) (x4 : Nat) (x5 : Nat → Int32) (x6 : Nat) (x7 : Nat → Int32) (x8 : Int32) (x9 : Nat → Int32) (x10 : Int32) (x11 : Nat) (x12 : Nat → Int32) (x13 : Int32) (x14 : Nat) (x15 : Nat → Int32) (x16 : Nat) (x17 : Nat → Int32) (x18 : Int32), x1 = a0_t_v a0_at.toNatClampNeg → gB x1 (-128) 127 → (((∃ (y1 : Int32), x1.toInt = 118 ∧ y1.toInt = a0_at.toInt + 1 ∧ a0_n.toInt ≤ y1.toInt) ∨ (∃ (y1 : Int32) (y2 : Int32) (y3 : Int32), x1.toInt = 118 ∧ y1.toInt = a0_at.toInt + 1 ∧ y1.toInt < a0_n.toInt ∧ y2 = a0_t_v y1.toNatClampNeg ∧ gB y2 (-128) 127 ∧ gB y3 0 1 ∧ tr_RReader_isDigit2 y2 y3 ∧ y3.toInt = 0) ∨ (x1.toInt ≠ 118 ∧ x1.toInt ≠ 98) ∨ (∃ (y1 : Int32), x1.toInt ≠ 118 ∧ x1.toInt = 98 ∧ y1.toInt = a0_at.toInt + 1 ∧ a0_n.toInt ≤ y1.toInt) ∨ (∃ (y1 : Int32) (y2 : Int32) (y3 : Int32), x1.toInt ≠ 118 ∧ x1.toInt = 98 ∧ y1.toInt = a0_at.toInt + 1 ∧ y1.toInt < a0_n.toInt ∧ y2 = a0_t_v y1.toNatClampNeg ∧ gB y2 (-128) 127 ∧ gB y3 0 1 ∧ tr_RReader_isDigit2 y2 y3 ∧ y3.toInt = 0))) → (tl_RReader_word_186 a0_n a0_t_v a0_at (0 : Int32) 16 (fun _ => 0 : Nat → Int32) 240 x2 x3 x4 x5) → tr_RStringBuilder_toString x3 x5 x4 x6 x7 → gB x8 0 16777216 → (tr_RStringBuilder_append4 sb_35 (0 : Int32) (fun _ => 0) 16 x8 x9) → gB x10 0 16777216 → tr_RStringBuilder_append5 x8 x9 16 x7 x6 x10 x11 x12 → gB x13 0 16777216 → tr_RStringBuilder_append6 sb_35 x10 x12 x11 x13 x14 x15 → tr_RStringBuilder_toString x13 x15 x14 x16 x17 → gB x18 (-2147483646) 16777215 → tr_RString_indexOf sb_34 x17 x16 x18 → 0 ≤ x18.toInt → R x2 (1 : Int32) a0_value (x6, x7)) →
  (∀ (x1 : Int32) (x2 : Int32) (x3 : Int32) (x4 : Int32) (x5 : Int64) (x6 : Int32) (x7 : Int32) (x8 : Int32), x1 = a0_t_v a0_at.toNatClampNeg → gB x1 (-128) 127 → x1.toInt = 118 → x2.toInt = a0_at.toInt + 1 → x2.toInt < a0_n.toInt → x3 = a0_t_v x2.toNatClampNeg → gB x3 (-128) 127 → gB x4 0 1 → tr_RReader_isDigit2 x3 x4 → x4.toInt ≠ 0 → tl_RReader_word_70 a0_n a0_t_v (0 : Int64) x2 136 x5 x6 → x7 = x5.toInt32 → x8 = lg_cmp x5 (99 : Int64) → 0 < x8.toInt → R x6 (6 : Int32) x7 (0, fun _ => 0)) →
  (∀ (x1 : Int32) (x2 : Int32) (x3 : Int32) (x4 : Int32) (x5 : Int64) (x6 : Int32) (x7 : Int32) (x8 : Int32), x1 = a0_t_v a0_at.toNatClampNeg → gB x1 (-128) 127 → x1.toInt = 118 → x2.toInt = a0_at.toInt + 1 → x2.toInt < a0_n.toInt → x3 = a0_t_v x2.toNatClampNeg → gB x3 (-128) 127 → gB x4 0 1 → tr_RReader_isDigit2 x3 x4 → x4.toInt ≠ 0 → tl_RReader_word_70 a0_n a0_t_v (0 : Int64) x2 136 x5 x6 → x7 = x5.toInt32 → x8 = lg_cmp x5 (99 : Int64) → x8.toInt ≤ 0 → R x6 (2 : Int32) x7 (0, fun _ => 0)) →
  (∀ (x1 : Int32) (x2 : Int32) (x3 : Int32) (x4 : Int32) (x5 : Int64) (x6 : Int32) (x7 : Int32) (x8 : Int32), x1 = a0_t_v a0_at.toNatClampNeg → gB x1 (-128) 127 → x1.toInt ≠ 118 → x1.toInt = 98 → x2.toInt = a0_at.toInt + 1 → x2.toInt < a0_n.toInt → x3 = a0_t_v x2.toNatClampNeg → gB x3 (-128) 127 → gB x4 0 1 → tr_RReader_isDigit2 x3 x4 → x4.toInt ≠ 0 → tl_RReader_word_70_2 a0_n a0_t_v (0 : Int64) x2 136 x5 x6 → x7 = x5.toInt32 → x8 = lg_cmp x5 (39 : Int64) → 0 < x8.toInt → R x6 (6 : Int32) x7 (0, fun _ => 0)) →
  (∀ (x1 : Int32) (x2 : Int32) (x3 : Int32) (x4 : Int32) (x5 : Int64) (x6 : Int32) (x7 : Int32) (x8 : Int32), x1 = a0_t_v a0_at.toNatClampNeg → gB x1 (-128) 127 → x1.toInt ≠ 118 → x1.toInt = 98 → x2.toInt = a0_at.toInt + 1 → x2.toInt < a0_n.toInt → x3 = a0_t_v x2.toNatClampNeg → gB x3 (-128) 127 → gB x4 0 1 → tr_RReader_isDigit2 x3 x4 → x4.toInt ≠ 0 → tl_RReader_word_70_2 a0_n a0_t_v (0 : Int64) x2 136 x5 x6 → x7 = x5.toInt32 → x8 = lg_cmp x5 (39 : Int64) → x8.toInt ≤ 0 → R x6 (3 : Int32) x7 (0, fun _ => 0)) →
  R o1 o2 o3 o4
abbrev ky_666647_Reader_word : gKey := (cX14_word, 4, "SpillForgeModel$Reader", none, [], "word", fun _ _ => True)
def pp_666647_Reader_word (D : va_G) (I : FieldType → ClassId) (P666624 : List Nat) (F666625 : Nat → va_E) (q666626 : Nat) (q666627 : Nat) (p666628 : Int32) (p666629 : Int32) (p666630 : Int32) (p666631 : Int32) (p666632 : Int32) (p666633 : Int32) (qo666634 : Nat) (p666635 : Int32) (p666636 : Int32) (p666637 : Int32) (qo666638 : Nat) (qo666639 : Nat) (p666640 : Int32) (f666641 : Nat → Int32) : Option Value → va_W → Nat → Nat → Prop := fun r w dc ds => ∃ (P669272 : List Nat) (F669273 : Nat → va_E) (o669268 : Int32) (o669269 : Int32) (o669270 : Int32) (q669271 : Nat) (xt669274 : gTx), r = none ∧ w = va_pl P669272 F669273 ∧ rSub P666624 P669272 ∧ rFr [q666626] P666624 F666625 F669273 ∧ F669273 q666626 = .inr (19, [.ref q666627, .int p666628, .int o669268, .int o669269, .int p666631, .int o669270, .int p666633, .ref q669271, .int p666635, .int p666636, .int p666637, .ref qo666638, .ref qo666639, .int p666640]) ∧ F669273 q666627 = .inl (I .byte, 8192, .inl f666641) ∧ dc ≤ (16 * (o669268.toInt - p666629.toInt)).toNat ∧ ds ≤ (160 * (o669268.toInt - p666629.toInt)).toNat ∧ gB o669268 0 8192 ∧ gB o669269 1 6 ∧ p666629.toInt < o669268.toInt ∧ o669268.toInt ≤ p666628.toInt ∧ tP I P669272 F669273 o669269 q669271 qo666639 qo666638 xt669274 ∧ vP o669269 o669270 ∧ tr_RReader_word p666628 p666629 p666632 f666641 o669268 o669269 o669270 xt669274
set_option maxRecDepth 100000 in
set_option maxHeartbeats 4000000 in
theorem cp_666647_Reader_word (l : Launch) (hl0 : l.stackTraces = false) (D : va_G) (I : FieldType → ClassId) (P666624 : List Nat) (F666625 : Nat → va_E) (q666626 : Nat) (q666627 : Nat) (p666628 : Int32) (p666629 : Int32) (p666630 : Int32) (p666631 : Int32) (p666632 : Int32) (p666633 : Int32) (qo666634 : Nat) (p666635 : Int32) (p666636 : Int32) (p666637 : Int32) (qo666638 : Nat) (qo666639 : Nat) (p666640 : Int32) (f666641 : Nat → Int32) (hmq666626 : q666626 ∈ P666624) (hmq666627 : q666627 ∈ P666624) (heq666626 : F666625 q666626 = .inr (19, [.ref q666627, .int p666628, .int p666629, .int p666630, .int p666631, .int p666632, .int p666633, .ref qo666634, .int p666635, .int p666636, .int p666637, .ref qo666638, .ref qo666639, .int p666640])) (heq666627 : F666625 q666627 = .inl (I .byte, 8192, .inl f666641)) (bp666628 : gB p666628 0 8192) (bp666629 : gB p666629 0 8192) (bp666630 : gB p666630 0 6) (bp666631 : gB p666631 0 8192) (bp666633 : gB p666633 0 6) (bp666635 : gB p666635 (-1) 8192) (bp666636 : gB p666636 0 4) (bp666637 : gB p666637 0 1000000) (bp666640 : gB p666640 0 1000000) (bf666641 : gF f666641 (-128) 127) (x666642 : p666629.toInt ≤ p666628.toInt) (x666643 : p666629.toInt < p666628.toInt) (x666644 : cLt f666641 p666629) (x666645 : qo666639 ∈ P666624) (x666646 : qo666638 ∈ P666624) : CtA (gV D I) l yX14_word cX14_word 4 none 6 132 ((16 * (p666628.toInt - p666629.toInt)).toNat) ((160 * (p666628.toInt - p666629.toInt)).toNat) [.ref q666626] (va_pl P666624 F666625) (pp_666647_Reader_word D I P666624 F666625 q666626 q666627 p666628 p666629 p666630 p666631 p666632 p666633 qo666634 p666635 p666636 p666637 qo666638 qo666639 p666640 f666641) gNA := by
  refine CtA_of hl0 (by decide) (Nat.le_of_ble_eq_true rfl) ?_
  have bp666632 := gB_any p666632
  refine G_aload_n 0 dr_cX14_word_0 rfl ?_
  refine Gp_get 0 hmq666626 heq666626 dr_cX14_word_1 (gk_X14 D I) (Nat.le_of_ble_eq_true rfl) wr_9_36 rfl ?_
  refine G_aload_n 0 dr_cX14_word_4 rfl ?_
  refine Gp_get 2 hmq666626 heq666626 dr_cX14_word_5 (gk_X14 D I) (Nat.le_of_ble_eq_true rfl) wr_9_38 rfl ?_
  refine Gp_bald 1 hmq666627 heq666627 dr_cX14_word_8 rfl (gB_inr (by omega) (by omega)) (G_nam fun z666648 hz666648 => ?_)
  have bz666648 : gB z666648 (-128) 127 := by rw [hz666648]; exact bf666641 _
  refine G_istore_n (L' := [(1, .int z666648), (0, .ref q666626)]) dr_cX14_word_9 (Nat.le_of_ble_eq_true rfl) rfl ?_
  refine G_aload_n 1 dr_cX14_word_10 rfl ?_
  refine G_bipush 6 dr_cX14_word_11 (by decide +kernel) ?_
  refine Gp_put 3 hmq666626 heq666626 dr_cX14_word_13 (gk_X14 D I) (Nat.le_of_ble_eq_true rfl) wr_9_39 rfl rfl rfl (Nat.le_of_ble_eq_true rfl) (fun F666649 e666650 n666651 => ?_)
  have he666652 : F666649 q666627 = .inl (I .byte, 8192, .inl f666641) := (n666651 q666627 (rn_ao heq666627 heq666626)).trans heq666627
  have he666653 : F666649 q666626 = .inr (19, [.ref q666627, .int p666628, .int p666629, .int 6, .int p666631, .int p666632, .int p666633, .ref qo666634, .int p666635, .int p666636, .int p666637, .ref qo666638, .ref qo666639, .int p666640]) := e666650
  have hfr666654 : rFr [q666626] P666624 F666625 F666649 := rFr_put (rFr_rf (W := []) (P := P666624) (F := F666625)) n666651
  have jn666655 : ((∃ (y1 : Int32), z666648.toInt = 118 ∧ y1.toInt = p666629.toInt + 1 ∧ p666628.toInt ≤ y1.toInt) ∨ (∃ (y1 : Int32) (y2 : Int32) (y3 : Int32), z666648.toInt = 118 ∧ y1.toInt = p666629.toInt + 1 ∧ y1.toInt < p666628.toInt ∧ y2 = f666641 y1.toNatClampNeg ∧ gB y2 (-128) 127 ∧ gB y3 0 1 ∧ tr_RReader_isDigit2 y2 y3 ∧ y3.toInt = 0) ∨ (z666648.toInt ≠ 118 ∧ z666648.toInt ≠ 98) ∨ (∃ (y1 : Int32), z666648.toInt ≠ 118 ∧ z666648.toInt = 98 ∧ y1.toInt = p666629.toInt + 1 ∧ p666628.toInt ≤ y1.toInt) ∨ (∃ (y1 : Int32) (y2 : Int32) (y3 : Int32), z666648.toInt ≠ 118 ∧ z666648.toInt = 98 ∧ y1.toInt = p666629.toInt + 1 ∧ y1.toInt < p666628.toInt ∧ y2 = f666641 y1.toNatClampNeg ∧ gB y2 (-128) 127 ∧ gB y3 0 1 ∧ tr_RReader_isDigit2 y2 y3 ∧ y3.toInt = 0)) → G (gV D I) l (gRm 6 132 ((16 * (p666628.toInt - p666629.toInt)).toNat) ((160 * (p666628.toInt - p666629.toInt)).toNat)) (gMA (gV D I) (pp_666647_Reader_word D I P666624 F666625 q666626 q666627 p666628 p666629 p666630 p666631 p666632 p666633 qo666634 p666635 p666636 p666637 qo666638 qo666639 p666640 f666641) gNA ((16 * (p666628.toInt - p666629.toInt)).toNat) ((160 * (p666628.toInt - p666629.toInt)).toNat)) ky_666647_Reader_word 178 [(1, .int z666648), (0, .ref q666626)] [] (va_pl P666624 F666649) 0 0 := by
    intro hJ666656
    refine G_new [.null, .int 0, .int 0, .int 0] dr_cX14_word_178 (gk_J4 D I) wr_7_235 wr_7_44 wr_1_20 (gfs_J4) (show 0 + 1 ≤ ((16 * (p666628.toInt - p666629.toInt)).toNat) by first | omega | decide) (show 0 + 4 ≤ ((160 * (p666628.toInt - p666629.toInt)).toNat) by first | omega | decide) (fun q666657 => Gp_in (fun P666658 F666659 hq666660 hP666661 e666662 n666663 => ?_))
    refine G_widen (cs' := 1) (sl' := 4) (by omega) (by omega) ?_
    have he666664 : F666659 q666626 = .inr (19, [.ref q666627, .int p666628, .int p666629, .int 6, .int p666631, .int p666632, .int p666633, .ref qo666634, .int p666635, .int p666636, .int p666637, .ref qo666638, .ref qo666639, .int p666640]) := (n666663 q666626 (fun h => hq666660 (h ▸ hmq666626))).trans he666653
    have he666665 : F666659 q666627 = .inl (I .byte, 8192, .inl f666641) := (n666663 q666627 (fun h => hq666660 (h ▸ hmq666627))).trans he666652
    have he666666 : F666659 q666657 = .inr (1, [.null, .int 0, .int 0, .int 0]) := e666662
    have hm666667 : q666626 ∈ P666658 := (hP666661 q666626).mpr (Or.inl hmq666626)
    have hm666668 : q666627 ∈ P666658 := (hP666661 q666627).mpr (Or.inl hmq666627)
    have hm666669 : q666657 ∈ P666658 := (hP666661 q666657).mpr (Or.inr rfl)
    have hq666670 : q666657 ∉ P666624 := fun z => hq666660 ((rSub_rf (P := P666624)) q666657 z)
    have hfr666671 : rFr [q666626] P666624 F666625 F666659 := rFr_new (rSub_rf (P := P666624)) hq666660 hfr666654 n666663
    have hsb666672 : rSub P666624 P666658 := rSub_new (rSub_rf (P := P666624)) hP666661
    refine G_dup dr_cX14_word_181 rfl ?_
    refine Gw_callI (As := []) (gV_ok D I) (cp_655881_StringBuilder_init l hl0 D I P666658 F666659 q666657 0 0 hm666669 he666666 (gB_w (gBl (show Int32.toInt 0 = 0 by decide)) (by decide) (by decide)) (gB_w (gBl (show Int32.toInt 0 = 0 by decide)) (by decide) (by decide))) dr_cX14_word_182 ⟨wr_7_236, wr_1_20, wr_7_47, by decide, rfl, (Nat.le_of_ble_eq_true rfl), (Nat.le_of_ble_eq_true rfl)⟩ wr_7_46 rfl (show 1 + 1 ≤ ((16 * (p666628.toInt - p666629.toInt)).toNat) by first | omega | decide) (show 4 + 16 ≤ ((160 * (p666628.toInt - p666629.toInt)).toNat) by first | omega | decide) (Nat.le_of_ble_eq_true rfl) (fun r666676 w666677 dc666673 ds666674 hp666675 => ?_)
    obtain ⟨P666679, F666680, q666678, rfl, rfl, hsb666681, hfr666682, he666683, he666684, hm666685, hq666686, hdc, hds⟩ := hp666675
    have hm666687 : q666626 ∈ P666679 := hsb666681 q666626 hm666667
    have hm666688 : q666627 ∈ P666679 := hsb666681 q666627 hm666668
    have hm666689 : q666657 ∈ P666679 := hsb666681 q666657 hm666669
    have hq666690 : q666678 ∉ P666624 := fun z => hq666686 (hsb666672 q666678 z)
    have hsb666691 : rSub P666624 P666679 := rSub_tr hsb666672 hsb666681
    have he666692 : F666680 q666626 = .inr (19, [.ref q666627, .int p666628, .int p666629, .int 6, .int p666631, .int p666632, .int p666633, .ref qo666634, .int p666635, .int p666636, .int p666637, .ref qo666638, .ref qo666639, .int p666640]) := (hfr666682 q666626 hm666667 (nm_c (fun h => hq666670 (h ▸ hmq666626)) nm_n)).trans he666664
    have he666693 : F666680 q666627 = .inl (I .byte, 8192, .inl f666641) := (hfr666682 q666627 hm666668 (nm_c (fun h => hq666670 (h ▸ hmq666627)) nm_n)).trans he666665
    have hfr666694 : rFr [q666626] P666624 F666625 F666680 := rFr_call hsb666672 hfr666671 hfr666682 (fun b hb hn => ⟨(nm_c (fun e => hn (e ▸ List.mem_cons_self)) nm_n), (nm_c (fun e => hq666670 (e ▸ hb)) nm_n)⟩)
    change G _ _ _ _ _ _ _ _ _ _ _
    refine G_widen (cs' := 2) (sl' := 20) (by omega) (by omega) ?_
    refine G_astore_n (L' := [(2, .ref q666657), (1, .int z666648), (0, .ref q666626)]) dr_cX14_word_185 (Nat.le_of_ble_eq_true rfl) rfl ?_
    refine G_widen (cs' := 2 + (0 : Int).toNat) (sl' := 4 + 2 * 16) (by omega) (by omega) ?_
    have hlp186_668147 : ∀ (n186_668147 : Nat) (P668137 : List Nat) (F668131 : Nat → va_E) (g668125 : Int32) (g668126 : Int32) (q668127 : Nat) (n668128 : Nat) (f668129 : Nat → Int32), gB g668125 0 8192 → gB g668126 0 16777216 → gF f668129 (-128) 127 → rSub P666624 P668137 → rFr [q666626] P666624 F666625 F668131 → q666626 ∈ P668137 → F668131 q666626 = .inr (19, [.ref q666627, .int p666628, .int g668125, .int 6, .int p666631, .int p666632, .int p666633, .ref qo666634, .int p666635, .int p666636, .int p666637, .ref qo666638, .ref qo666639, .int p666640]) → q666627 ∈ P668137 → F668131 q666627 = .inl (I .byte, 8192, .inl f666641) → q666657 ∈ P668137 → F668131 q666657 = .inr (1, [.ref q668127, .int 0, .int 0, .int g668126]) → q668127 ∈ P668137 → F668131 q668127 = .inl (I .byte, n668128, .inl f668129) → q668127 ∉ P666624 → p666629.toInt ≤ g668125.toInt → g668125.toInt ≤ p666628.toInt → g668126.toInt = g668125.toInt - p666629.toInt → g668126.toInt ≤ (n668128 : Int) → (n668128 : Int) ≤ 2 * g668126.toInt + 16 → (∀ (k : Nat) (e1 : Int32) (e2 : Int32) (e3 : Nat) (e4 : Nat → Int32), tl_RReader_word_186 p666628 f666641 g668125 g668126 n668128 f668129 k e1 e2 e3 e4 → tl_RReader_word_186 p666628 f666641 p666629 (0 : Int32) 16 (fun _ => 0 : Nat → Int32) k e1 e2 e3 e4) → ((8193 : Int) - g668125.toInt).toNat < n186_668147 → G (gV D I) l (gRm 6 132 ((16 * (p666628.toInt - p666629.toInt)).toNat) ((160 * (p666628.toInt - p666629.toInt)).toNat)) (gMA (gV D I) (pp_666647_Reader_word D I P666624 F666625 q666626 q666627 p666628 p666629 p666630 p666631 p666632 p666633 qo666634 p666635 p666636 p666637 qo666638 qo666639 p666640 f666641) gNA ((16 * (p666628.toInt - p666629.toInt)).toNat) ((160 * (p666628.toInt - p666629.toInt)).toNat)) ky_666647_Reader_word 186 [(2, .ref q666657), (1, .int z666648), (0, .ref q666626)] [] (va_pl P668137 F668131) (2 + (g668126.toInt : Int).toNat) (4 + 2 * n668128) := by
      intro n186_668147
      induction n186_668147 with
      | zero => intro P668137 F668131 g668125 g668126 q668127 n668128 f668129 bg668125 bg668126 bf668129 hsb668142 hfr668136 hm668138 he668132 hm668139 he668133 hm668140 he668134 hm668141 he668135 hq668130 x668143 x668144 x668145 x668146 x668147 kt186_668147 hm186_668147; exact absurd hm186_668147 (Nat.not_lt_zero _)
      | succ n186_668147 ih186_668147 =>
        intro P668137 F668131 g668125 g668126 q668127 n668128 f668129 bg668125 bg668126 bf668129 hsb668142 hfr668136 hm668138 he668132 hm668139 he668133 hm668140 he668134 hm668141 he668135 hq668130 x668143 x668144 x668145 x668146 x668147 kt186_668147 hm186_668147
        refine G_aload_n 2 dr_cX14_word_186 rfl ?_
        refine Gp_get 2 hm668138 he668132 dr_cX14_word_187 (gk_X14 D I) (Nat.le_of_ble_eq_true rfl) wr_9_38 rfl ?_
        refine G_aload_n 2 dr_cX14_word_190 rfl ?_
        refine Gp_get 1 hm668138 he668132 dr_cX14_word_191 (gk_X14 D I) (Nat.le_of_ble_eq_true rfl) wr_9_37 rfl ?_
        refine G_icmp_ge 240 dr_cX14_word_194 (by decide +kernel) (fun hc668148 => ?_) (fun hc668148 => ?_)
        · have r668149 : p666628.toInt ≤ g668125.toInt := gC_le hc668148
          have hx668150 : tl_RReader_word_186 p666628 f666641 p666629 (0 : Int32) 16 (fun _ => 0 : Nat → Int32) 240 g668125 g668126 n668128 f668129 := kt186_668147 240 g668125 g668126 n668128 f668129 (fun R c1 c2 c3 => c1 g668125 g668126 n668128 f668129 bg668125 bg668126 r668149)
          have x668151 : p666629.toInt < g668125.toInt := by first | omega | exact cLt_lt x666644 (by assumption) (isP_0 (by assumption) (by omega)) (by omega)
          refine G_aload_n 2 dr_cX14_word_240 rfl ?_
          refine G_aload_n 0 dr_cX14_word_241 rfl ?_
          refine Gw_callV (As := []) (gV_ok D I) (cp_656656_StringBuilder_toString l hl0 D I P668137 F668131 q666657 q668127 0 g668126 f668129 n668128 hm668140 hm668141 he668134 he668135 (gB_w (gBl (show Int32.toInt 0 = 0 by decide)) (by decide) (by decide)) bg668126 bf668129 (by have qa0 : Int32.toInt 0 = 0 := (by decide); have qa1 : Int32.toInt 6 = 6 := (by decide); omega) (by have qa0 : Int32.toInt 0 = 0 := (by decide); have qa1 : Int32.toInt 6 = 6 := (by decide); omega)) dr_cX14_word_242 ⟨wr_8_66, wr_1_20, wr_8_69, by decide, rfl, (Nat.le_of_ble_eq_true rfl), (Nat.le_of_ble_eq_true rfl)⟩ wr_8_67 wr_8_68 hm668140 he668134 rfl (show 2 + (g668126.toInt : Int).toNat + 2 ≤ ((16 * (p666628.toInt - p666629.toInt)).toNat) by first | omega | decide) (show 4 + 2 * n668128 + (g668126.toInt.toNat + 4) ≤ ((160 * (p666628.toInt - p666629.toInt)).toNat) by first | omega | decide) (Nat.le_of_ble_eq_true rfl) (fun r668155 w668156 dc668152 ds668153 hp668154 => ?_) (fun _ _ _ _ _ z => z.elim)
          obtain ⟨P668164, F668165, q668157, q668158, n668159, f668160, rfl, rfl, hsb668166, hfr668167, he668168, he668169, he668170, he668171, hm668172, hq668173, hm668174, hq668175, hdc, hds, bf668160, x668161, x668162, ht668163⟩ := hp668154
          have hm668176 : q666626 ∈ P668164 := hsb668166 q666626 hm668138
          have hm668177 : q666627 ∈ P668164 := hsb668166 q666627 hm668139
          have hm668178 : q666657 ∈ P668164 := hsb668166 q666657 hm668140
          have hm668179 : q668127 ∈ P668164 := hsb668166 q668127 hm668141
          have hq668180 : q668157 ∉ P666624 := fun z => hq668173 (hsb668142 q668157 z)
          have hq668181 : q668158 ∉ P666624 := fun z => hq668175 (hsb668142 q668158 z)
          have hsb668182 : rSub P666624 P668164 := rSub_tr hsb668142 hsb668166
          have he668183 : F668165 q666626 = .inr (19, [.ref q666627, .int p666628, .int g668125, .int 6, .int p666631, .int p666632, .int p666633, .ref qo666634, .int p666635, .int p666636, .int p666637, .ref qo666638, .ref qo666639, .int p666640]) := (hfr668167 q666626 hm668138 nm_n).trans he668132
          have he668184 : F668165 q666627 = .inl (I .byte, 8192, .inl f666641) := (hfr668167 q666627 hm668139 nm_n).trans he668133
          have hfr668185 : rFr [q666626] P666624 F666625 F668165 := rFr_call hsb668142 hfr668136 hfr668167 (fun b hb hn => ⟨(nm_c (fun e => hn (e ▸ List.mem_cons_self)) nm_n), nm_n⟩)
          have hne668186 : q668127 ≠ q668158 := fun h => hq668175 (h ▸ hm668141)
          change G _ _ _ _ _ _ _ (.ref q668157 :: _) _ _ _
          refine G_widen (cs' := 2 + (g668126.toInt : Int).toNat + 2) (sl' := 4 + 2 * n668128 + (g668126.toInt.toNat + 4)) (by omega) (by omega) ?_
          have x668187 : (n668159 : Int) = g668125.toInt - p666629.toInt := by omega
          clear he666652 he666653 hfr666654 he666664 he666665 he666666 hm666667 hm666668 hm666669 hfr666671 hsb666672 hsb666681 hfr666682 he666683 he666684 hm666685 hq666686 hm666687 hm666688 hm666689 hq666690 hsb666691 he666692 he666693 hfr666694 hsb668166 hfr668167 hq668173 hq668175; try clear r666676; try clear w666677; try clear dc666673; try clear ds666674; try clear hp666675; try clear r668155; try clear w668156; try clear dc668152; try clear ds668153; try clear hp668154
          refine Gp_put 7 hm668176 he668183 dr_cX14_word_245 (gk_X14 D I) (Nat.le_of_ble_eq_true rfl) wr_9_43 rfl rfl rfl (Nat.le_of_ble_eq_true rfl) (fun F668188 e668189 n668190 => ?_)
          have he668191 : F668188 q666627 = .inl (I .byte, 8192, .inl f666641) := (n668190 q666627 (rn_ao he668184 he668183)).trans he668184
          have he668192 : F668188 q668157 = .inr (0, [.ref q668158, .int 0, .int 0, .int 0]) := (n668190 q668157 (fun h => hq668180 (h ▸ hmq666626))).trans he668168
          have he668193 : F668188 q666657 = .inr (1, [.ref q668127, .int 0, .int 0, .int g668126]) := (n668190 q666657 (fun h => hq666670 (h ▸ hmq666626))).trans he668169
          have he668194 : F668188 q668127 = .inl (I .byte, n668128, .inl f668129) := (n668190 q668127 (fun h => hq668130 (h ▸ hmq666626))).trans he668170
          have he668195 : F668188 q668158 = .inl (I .byte, n668159, .inl f668160) := (n668190 q668158 (fun h => hq668181 (h ▸ hmq666626))).trans he668171
          have he668196 : F668188 q666626 = .inr (19, [.ref q666627, .int p666628, .int g668125, .int 6, .int p666631, .int p666632, .int p666633, .ref q668157, .int p666635, .int p666636, .int p666637, .ref qo666638, .ref qo666639, .int p666640]) := e668189
          have hfr668197 : rFr [q666626] P666624 F666625 F668188 := rFr_put' List.mem_cons_self hfr668185 n668190
          refine G_widen (cs' := (4 + (g668125.toInt - p666629.toInt) : Int).toNat) (sl' := (40 + 5 * (g668125.toInt - p666629.toInt) : Int).toNat) (by omega) (by omega) ?_
          clear he668168 he668169 he668170 he668171 he668183 he668184 hfr668185
          refine G_ldcK (a := D.2 1000 34) dr_cX14_word_248 (fun _ _ _ h => gx_vk 34 rfl rfl h) ?_
          have hl34_668197 : (sb_34.length : Int) = 25 := rfl
          refine G_new [.null, .int 0, .int 0, .int 0] dr_cX14_word_250 (gk_J4 D I) wr_7_235 wr_7_44 wr_1_20 (gfs_J4) (show (4 + (g668125.toInt - p666629.toInt) : Int).toNat + 1 ≤ ((16 * (p666628.toInt - p666629.toInt)).toNat) by first | omega | decide) (show (40 + 5 * (g668125.toInt - p666629.toInt) : Int).toNat + 4 ≤ ((160 * (p666628.toInt - p666629.toInt)).toNat) by first | omega | decide) (fun q668199 => Gp_in (fun P668200 F668201 hq668202 hP668203 e668204 n668205 => ?_))
          refine G_widen (cs' := (4 + (g668125.toInt - p666629.toInt) : Int).toNat + 1) (sl' := (40 + 5 * (g668125.toInt - p666629.toInt) : Int).toNat + 4) (by omega) (by omega) ?_
          have he668206 : F668201 q666626 = .inr (19, [.ref q666627, .int p666628, .int g668125, .int 6, .int p666631, .int p666632, .int p666633, .ref q668157, .int p666635, .int p666636, .int p666637, .ref qo666638, .ref qo666639, .int p666640]) := (n668205 q666626 (fun h => hq668202 (h ▸ hm668176))).trans he668196
          have he668207 : F668201 q666627 = .inl (I .byte, 8192, .inl f666641) := (n668205 q666627 (fun h => hq668202 (h ▸ hm668177))).trans he668191
          have he668208 : F668201 q668157 = .inr (0, [.ref q668158, .int 0, .int 0, .int 0]) := (n668205 q668157 (fun h => hq668202 (h ▸ hm668172))).trans he668192
          have he668209 : F668201 q666657 = .inr (1, [.ref q668127, .int 0, .int 0, .int g668126]) := (n668205 q666657 (fun h => hq668202 (h ▸ hm668178))).trans he668193
          have he668210 : F668201 q668127 = .inl (I .byte, n668128, .inl f668129) := (n668205 q668127 (fun h => hq668202 (h ▸ hm668179))).trans he668194
          have he668211 : F668201 q668158 = .inl (I .byte, n668159, .inl f668160) := (n668205 q668158 (fun h => hq668202 (h ▸ hm668174))).trans he668195
          have he668212 : F668201 q668199 = .inr (1, [.null, .int 0, .int 0, .int 0]) := e668204
          have hm668213 : q666626 ∈ P668200 := (hP668203 q666626).mpr (Or.inl hm668176)
          have hm668214 : q666627 ∈ P668200 := (hP668203 q666627).mpr (Or.inl hm668177)
          have hm668215 : q666657 ∈ P668200 := (hP668203 q666657).mpr (Or.inl hm668178)
          have hm668216 : q668127 ∈ P668200 := (hP668203 q668127).mpr (Or.inl hm668179)
          have hm668217 : q668157 ∈ P668200 := (hP668203 q668157).mpr (Or.inl hm668172)
          have hm668218 : q668158 ∈ P668200 := (hP668203 q668158).mpr (Or.inl hm668174)
          have hm668219 : q668199 ∈ P668200 := (hP668203 q668199).mpr (Or.inr rfl)
          have hq668220 : q668199 ∉ P666624 := fun z => hq668202 (hsb668182 q668199 z)
          have hfr668221 : rFr [q666626] P666624 F666625 F668201 := rFr_new hsb668182 hq668202 hfr668197 n668205
          have hsb668222 : rSub P666624 P668200 := rSub_new hsb668182 hP668203
          have hne668223 : q666657 ≠ q668199 := fun h => hq668202 (h ▸ hm668178)
          refine G_dup dr_cX14_word_253 rfl ?_
          refine Gw_callI (As := []) (gV_ok D I) (cp_655881_StringBuilder_init l hl0 D I P668200 F668201 q668199 0 0 hm668219 he668212 (gB_w (gBl (show Int32.toInt 0 = 0 by decide)) (by decide) (by decide)) (gB_w (gBl (show Int32.toInt 0 = 0 by decide)) (by decide) (by decide))) dr_cX14_word_254 ⟨wr_7_236, wr_1_20, wr_7_47, by decide, rfl, (Nat.le_of_ble_eq_true rfl), (Nat.le_of_ble_eq_true rfl)⟩ wr_7_46 rfl (show (4 + (g668125.toInt - p666629.toInt) : Int).toNat + 1 + 1 ≤ ((16 * (p666628.toInt - p666629.toInt)).toNat) by first | omega | decide) (show (40 + 5 * (g668125.toInt - p666629.toInt) : Int).toNat + 4 + 16 ≤ ((160 * (p666628.toInt - p666629.toInt)).toNat) by first | omega | decide) (Nat.le_of_ble_eq_true rfl) (fun r668227 w668228 dc668224 ds668225 hp668226 => ?_)
          obtain ⟨P668230, F668231, q668229, rfl, rfl, hsb668232, hfr668233, he668234, he668235, hm668236, hq668237, hdc, hds⟩ := hp668226
          have hm668238 : q666626 ∈ P668230 := hsb668232 q666626 hm668213
          have hm668239 : q666627 ∈ P668230 := hsb668232 q666627 hm668214
          have hm668240 : q666657 ∈ P668230 := hsb668232 q666657 hm668215
          have hm668241 : q668127 ∈ P668230 := hsb668232 q668127 hm668216
          have hm668242 : q668157 ∈ P668230 := hsb668232 q668157 hm668217
          have hm668243 : q668158 ∈ P668230 := hsb668232 q668158 hm668218
          have hm668244 : q668199 ∈ P668230 := hsb668232 q668199 hm668219
          have hq668245 : q668229 ∉ P666624 := fun z => hq668237 (hsb668222 q668229 z)
          have hsb668246 : rSub P666624 P668230 := rSub_tr hsb668222 hsb668232
          have he668247 : F668231 q666626 = .inr (19, [.ref q666627, .int p666628, .int g668125, .int 6, .int p666631, .int p666632, .int p666633, .ref q668157, .int p666635, .int p666636, .int p666637, .ref qo666638, .ref qo666639, .int p666640]) := (hfr668233 q666626 hm668213 (nm_c (fun h => hq668220 (h ▸ hmq666626)) nm_n)).trans he668206
          have he668248 : F668231 q666627 = .inl (I .byte, 8192, .inl f666641) := (hfr668233 q666627 hm668214 (nm_c (fun h => hq668220 (h ▸ hmq666627)) nm_n)).trans he668207
          have he668249 : F668231 q668157 = .inr (0, [.ref q668158, .int 0, .int 0, .int 0]) := (hfr668233 q668157 hm668217 (nm_c (rn_oo he668208 he668212 (by decide)) nm_n)).trans he668208
          have he668250 : F668231 q666657 = .inr (1, [.ref q668127, .int 0, .int 0, .int g668126]) := (hfr668233 q666657 hm668215 (nm_c hne668223 nm_n)).trans he668209
          have he668251 : F668231 q668127 = .inl (I .byte, n668128, .inl f668129) := (hfr668233 q668127 hm668216 (nm_c (rn_ao he668210 he668212) nm_n)).trans he668210
          have he668252 : F668231 q668158 = .inl (I .byte, n668159, .inl f668160) := (hfr668233 q668158 hm668218 (nm_c (rn_ao he668211 he668212) nm_n)).trans he668211
          have hfr668253 : rFr [q666626] P666624 F666625 F668231 := rFr_call hsb668222 hfr668221 hfr668233 (fun b hb hn => ⟨(nm_c (fun e => hn (e ▸ List.mem_cons_self)) nm_n), (nm_c (fun e => hq668220 (e ▸ hb)) nm_n)⟩)
          have hne668254 : q668127 ≠ q668229 := fun h => hq668237 (h ▸ hm668216)
          have hne668255 : q668158 ≠ q668229 := fun h => hq668237 (h ▸ hm668218)
          change G _ _ _ _ _ _ _ _ _ _ _
          refine G_widen (cs' := (4 + (g668125.toInt - p666629.toInt) : Int).toNat + 1 + 1) (sl' := (40 + 5 * (g668125.toInt - p666629.toInt) : Int).toNat + 4 + 16) (by omega) (by omega) ?_
          refine G_ldcK (a := D.2 1000 35) dr_cX14_word_257 (fun _ _ _ h => gx_vk 35 rfl rfl h) ?_
          have hl35_668255 : (sb_35.length : Int) = 1 := rfl
          refine Gw_callV (As := [.ref (D.2 1000 35)]) (gV_ok D I) (cp_656183_StringBuilder_append l hl0 D I P668230 F668231 q668199 q668229 (D.2 1000 35) (D.2 1001 35) sb_35 0 0 (fun _ => 0) 16 hm668244 hm668236 he668234 he668235 (gx_sc 35 rfl rfl) (by omega) (by decide +kernel) (gB_w (gBl (show Int32.toInt 0 = 0 by decide)) (by decide) (by decide)) (gB_w (gBl (show Int32.toInt 0 = 0 by decide)) (by decide) (by decide)) (gF_w gF_0 (by decide) (by decide)) (by have qa0 : Int32.toInt 0 = 0 := (by decide); have qa1 : Int32.toInt 6 = 6 := (by decide); omega) (by have qa0 : Int32.toInt 0 = 0 := (by decide); have qa1 : Int32.toInt 6 = 6 := (by decide); omega)) dr_cX14_word_259 ⟨wr_8_195, wr_1_20, wr_8_143, by decide, rfl, (Nat.le_of_ble_eq_true rfl), (Nat.le_of_ble_eq_true rfl)⟩ wr_8_141 wr_8_142 hm668244 he668234 rfl (show (4 + (g668125.toInt - p666629.toInt) : Int).toNat + 1 + 1 + 0 ≤ ((16 * (p666628.toInt - p666629.toInt)).toNat) by first | omega | decide) (show (40 + 5 * (g668125.toInt - p666629.toInt) : Int).toNat + 4 + 16 + 0 ≤ ((160 * (p666628.toInt - p666629.toInt)).toNat) by first | omega | decide) (Nat.le_of_ble_eq_true rfl) (fun r668260 w668261 dc668257 ds668258 hp668259 => ?_) (fun _ _ _ _ _ z => z.elim)
          obtain ⟨F668268, o668262, f668263, rfl, rfl, hfr668270, he668271, he668272, hdc, hds, bo668262, bf668263, x668264, x668265, x668266, ht668267⟩ := hp668259
          have he668273 : F668268 q666626 = .inr (19, [.ref q666627, .int p666628, .int g668125, .int 6, .int p666631, .int p666632, .int p666633, .ref q668157, .int p666635, .int p666636, .int p666637, .ref qo666638, .ref qo666639, .int p666640]) := (hfr668270 q666626 hm668238 (nm_c (fun h => hq668220 (h ▸ hmq666626)) (nm_c (fun h => hq668245 (h ▸ hmq666626)) nm_n))).trans he668247
          have he668274 : F668268 q666627 = .inl (I .byte, 8192, .inl f666641) := (hfr668270 q666627 hm668239 (nm_c (fun h => hq668220 (h ▸ hmq666627)) (nm_c (fun h => hq668245 (h ▸ hmq666627)) nm_n))).trans he668248
          have he668275 : F668268 q668157 = .inr (0, [.ref q668158, .int 0, .int 0, .int 0]) := (hfr668270 q668157 hm668242 (nm_c (rn_oo he668249 he668234 (by decide)) (nm_c (rn_oa he668249 he668235) nm_n))).trans he668249
          have he668276 : F668268 q666657 = .inr (1, [.ref q668127, .int 0, .int 0, .int g668126]) := (hfr668270 q666657 hm668240 (nm_c hne668223 (nm_c (rn_oa he668250 he668235) nm_n))).trans he668250
          have he668277 : F668268 q668127 = .inl (I .byte, n668128, .inl f668129) := (hfr668270 q668127 hm668241 (nm_c (rn_ao he668251 he668234) (nm_c hne668254 nm_n))).trans he668251
          have he668278 : F668268 q668158 = .inl (I .byte, n668159, .inl f668160) := (hfr668270 q668158 hm668243 (nm_c (rn_ao he668252 he668234) (nm_c hne668255 nm_n))).trans he668252
          have hfr668279 : rFr [q666626] P666624 F666625 F668268 := rFr_call hsb668246 hfr668253 hfr668270 (fun b hb hn => ⟨(nm_c (fun e => hn (e ▸ List.mem_cons_self)) nm_n), (nm_c (fun e => hq668220 (e ▸ hb)) (nm_c (fun e => hq668245 (e ▸ hb)) nm_n))⟩)
          rw [show Int32.toInt 0 = 0 from by decide] at x668264
          have bo668262' : gB o668262 1 1 := ⟨by omega, by omega⟩
          rw [show Int32.toInt 0 = 0 from by decide] at x668265
          rw [show Int32.toInt 0 = 0 from by decide] at x668266
          change G _ _ _ _ _ _ _ (.ref q668199 :: _) _ _ _
          refine G_widen (cs' := (4 + (g668125.toInt - p666629.toInt) : Int).toNat + 1 + 1 + 0) (sl' := (40 + 5 * (g668125.toInt - p666629.toInt) : Int).toNat + 4 + 16 + 0) (by omega) (by omega) ?_
          refine G_aload_n 2 dr_cX14_word_262 rfl ?_
          clear hm668172 hm668174 hm668176 hm668177 hm668178 hm668179 hsb668182 he668191 he668192 he668193 he668194 he668195 he668196 hfr668197 he668206 he668207 he668208 he668209 he668210 he668211 he668212 hm668213 hm668214 hm668215 hm668216 hm668217 hm668218 hm668219 hfr668221 hsb668222 hsb668232 hfr668233 he668234 he668235 hq668237 he668247 he668248 he668249 he668250 he668251 he668252 hfr668253 hfr668270; try clear r668227; try clear w668228; try clear dc668224; try clear ds668225; try clear hp668226; try clear r668260; try clear w668261; try clear dc668257; try clear ds668258; try clear hp668259
          refine Gp_get 7 hm668238 he668273 dr_cX14_word_263 (gk_X14 D I) (Nat.le_of_ble_eq_true rfl) wr_9_43 rfl ?_
          refine Gw_callV (As := [.ref q668157]) (gV_ok D I) (cp_656383_StringBuilder_append l hl0 D I P668230 F668268 q668199 q668157 q668229 q668158 0 o668262 0 0 f668263 16 f668160 n668159 hm668244 hm668242 hm668236 hm668243 he668271 he668275 he668272 he668278 (Ne.symm hne668255) (gB_w (gBl (show Int32.toInt 0 = 0 by decide)) (by decide) (by decide)) (gB_w bo668262' (by decide) (by decide)) (gB_w (gBl (show Int32.toInt 0 = 0 by decide)) (by decide) (by decide)) bf668263 bf668160 (by have qa0 : Int32.toInt 0 = 0 := (by decide); have qa1 : Int32.toInt 6 = 6 := (by decide); omega) (by have qa0 : Int32.toInt 0 = 0 := (by decide); have qa1 : Int32.toInt 6 = 6 := (by decide); omega) (by have qa0 : Int32.toInt 0 = 0 := (by decide); have qa1 : Int32.toInt 6 = 6 := (by decide); omega) (by have qa0 : Int32.toInt 0 = 0 := (by decide); have qa1 : Int32.toInt 6 = 6 := (by decide); omega) (by have qa0 : Int32.toInt 0 = 0 := (by decide); have qa1 : Int32.toInt 6 = 6 := (by decide); omega)) dr_cX14_word_266 ⟨wr_8_195, wr_1_20, wr_8_143, by decide, rfl, (Nat.le_of_ble_eq_true rfl), (Nat.le_of_ble_eq_true rfl)⟩ wr_8_141 wr_8_142 hm668244 he668271 rfl (show (4 + (g668125.toInt - p666629.toInt) : Int).toNat + 1 + 1 + 0 + 1 ≤ ((16 * (p666628.toInt - p666629.toInt)).toNat) by first | omega | decide) (show (40 + 5 * (g668125.toInt - p666629.toInt) : Int).toNat + 4 + 16 + 0 + (4 * 16 + 4 + 2 * n668159) ≤ ((160 * (p666628.toInt - p666629.toInt)).toNat) by first | omega | decide) (Nat.le_of_ble_eq_true rfl) (fun r668283 w668284 dc668280 ds668281 hp668282 => ?_) (fun _ _ _ _ _ z => z.elim)
          obtain ⟨P668295, F668296, o668285, q668286, n668287, f668288, rfl, rfl, hsb668297, hfr668298, he668299, he668300, he668301, he668302, hm668303, hq668304, hdc, hds, bo668285, bf668288, x668289, x668290, x668291, x668292, x668293, ht668294⟩ := hp668282
          have hm668305 : q666626 ∈ P668295 := hsb668297 q666626 hm668238
          have hm668306 : q666627 ∈ P668295 := hsb668297 q666627 hm668239
          have hm668307 : q666657 ∈ P668295 := hsb668297 q666657 hm668240
          have hm668308 : q668127 ∈ P668295 := hsb668297 q668127 hm668241
          have hm668309 : q668157 ∈ P668295 := hsb668297 q668157 hm668242
          have hm668310 : q668158 ∈ P668295 := hsb668297 q668158 hm668243
          have hm668311 : q668199 ∈ P668295 := hsb668297 q668199 hm668244
          have hm668312 : q668229 ∈ P668295 := hsb668297 q668229 hm668236
          have hq668313 : q668286 ∉ P666624 := fun z => hq668304.elim (fun e => hq668245 (e ▸ z)) (fun n => n (hsb668246 _ z))
          have hsb668314 : rSub P666624 P668295 := rSub_tr hsb668246 hsb668297
          have he668315 : F668296 q666626 = .inr (19, [.ref q666627, .int p666628, .int g668125, .int 6, .int p666631, .int p666632, .int p666633, .ref q668157, .int p666635, .int p666636, .int p666637, .ref qo666638, .ref qo666639, .int p666640]) := (hfr668298 q666626 hm668238 (nm_c (fun h => hq668220 (h ▸ hmq666626)) (nm_c (fun h => hq668245 (h ▸ hmq666626)) nm_n))).trans he668273
          have he668316 : F668296 q666627 = .inl (I .byte, 8192, .inl f666641) := (hfr668298 q666627 hm668239 (nm_c (fun h => hq668220 (h ▸ hmq666627)) (nm_c (fun h => hq668245 (h ▸ hmq666627)) nm_n))).trans he668274
          have he668317 : F668296 q666657 = .inr (1, [.ref q668127, .int 0, .int 0, .int g668126]) := (hfr668298 q666657 hm668240 (nm_c hne668223 (nm_c (rn_oa he668276 he668272) nm_n))).trans he668276
          have he668318 : F668296 q668127 = .inl (I .byte, n668128, .inl f668129) := (hfr668298 q668127 hm668241 (nm_c (rn_ao he668277 he668271) (nm_c hne668254 nm_n))).trans he668277
          have hfr668319 : rFr [q666626] P666624 F666625 F668296 := rFr_call hsb668246 hfr668279 hfr668298 (fun b hb hn => ⟨(nm_c (fun e => hn (e ▸ List.mem_cons_self)) nm_n), (nm_c (fun e => hq668220 (e ▸ hb)) (nm_c (fun e => hq668245 (e ▸ hb)) nm_n))⟩)
          have hne668320 : q668127 ≠ q668286 := fun e => hq668304.elim (fun e2 => hne668254 (e.trans e2)) (fun n => n (e ▸ hm668241))
          have hne668321 : q668158 ≠ q668286 := fun e => hq668304.elim (fun e2 => hne668255 (e.trans e2)) (fun n => n (e ▸ hm668243))
          have bo668285' : gB o668285 1 16777216 := ⟨by omega, by omega⟩
          change G _ _ _ _ _ _ _ (.ref q668199 :: _) _ _ _
          refine G_widen (cs' := (4 + (g668125.toInt - p666629.toInt) : Int).toNat + 1 + 1 + 0 + 1) (sl' := (40 + 5 * (g668125.toInt - p666629.toInt) : Int).toNat + 4 + 16 + 0 + (2 * (n668287 - 16))) (by omega) (by omega) ?_
          refine G_widen (cs' := (7 + (g668125.toInt - p666629.toInt) : Int).toNat) (sl' := (60 + 10 * (g668125.toInt - p666629.toInt) : Int).toNat) (by omega) (by omega) ?_
          clear hm668236 hm668238 hm668239 hm668240 hm668241 hm668242 hm668243 hm668244 hq668245 hsb668246 hne668254 hne668255 he668271 he668272 bf668263 he668273 he668274 he668275 he668276 he668277 he668278 hfr668279 hsb668297 hfr668298 hq668304 hm668312; try clear x668265; try clear x668266; try clear r668283; try clear w668284; try clear dc668280; try clear ds668281; try clear hp668282
          refine G_ldcK (a := D.2 1000 35) dr_cX14_word_269 (fun _ _ _ h => gx_vk 35 rfl rfl h) ?_
          have hl35_668321 : (sb_35.length : Int) = 1 := rfl
          refine Gw_callV (As := [.ref (D.2 1000 35)]) (gV_ok D I) (cp_656531_StringBuilder_append l hl0 D I P668295 F668296 q668199 q668286 (D.2 1000 35) (D.2 1001 35) sb_35 0 o668285 f668288 n668287 hm668311 hm668303 he668299 he668301 (gx_sc 35 rfl rfl) (by omega) (by decide +kernel) (gB_w (gBl (show Int32.toInt 0 = 0 by decide)) (by decide) (by decide)) (gB_w bo668285' (by decide) (by decide)) bf668288 (by have qa0 : Int32.toInt 0 = 0 := (by decide); have qa1 : Int32.toInt 6 = 6 := (by decide); omega) (by have qa0 : Int32.toInt 0 = 0 := (by decide); have qa1 : Int32.toInt 6 = 6 := (by decide); omega) (by have qa0 : Int32.toInt 0 = 0 := (by decide); have qa1 : Int32.toInt 6 = 6 := (by decide); omega) (by have qa0 : Int32.toInt 0 = 0 := (by decide); have qa1 : Int32.toInt 6 = 6 := (by decide); omega)) dr_cX14_word_271 ⟨wr_8_195, wr_1_20, wr_8_143, by decide, rfl, (Nat.le_of_ble_eq_true rfl), (Nat.le_of_ble_eq_true rfl)⟩ wr_8_141 wr_8_142 hm668311 he668299 rfl (show (7 + (g668125.toInt - p666629.toInt) : Int).toNat + 1 ≤ ((16 * (p666628.toInt - p666629.toInt)).toNat) by first | omega | decide) (show (60 + 10 * (g668125.toInt - p666629.toInt) : Int).toNat + (4 * n668287 + 4 + 2 * sb_35.length) ≤ ((160 * (p666628.toInt - p666629.toInt)).toNat) by first | omega | decide) (Nat.le_of_ble_eq_true rfl) (fun r668326 w668327 dc668323 ds668324 hp668325 => ?_) (fun _ _ _ _ _ z => z.elim)
          obtain ⟨P668338, F668339, o668328, q668329, n668330, f668331, rfl, rfl, hsb668340, hfr668341, he668342, he668343, hm668344, hq668345, hdc, hds, bo668328, bf668331, x668332, x668333, x668334, x668335, x668336, ht668337⟩ := hp668325
          have hm668346 : q666626 ∈ P668338 := hsb668340 q666626 hm668305
          have hm668347 : q666627 ∈ P668338 := hsb668340 q666627 hm668306
          have hm668348 : q666657 ∈ P668338 := hsb668340 q666657 hm668307
          have hm668349 : q668127 ∈ P668338 := hsb668340 q668127 hm668308
          have hm668350 : q668157 ∈ P668338 := hsb668340 q668157 hm668309
          have hm668351 : q668158 ∈ P668338 := hsb668340 q668158 hm668310
          have hm668352 : q668199 ∈ P668338 := hsb668340 q668199 hm668311
          have hm668353 : q668286 ∈ P668338 := hsb668340 q668286 hm668303
          have hq668354 : q668329 ∉ P666624 := fun z => hq668345.elim (fun e => hq668313 (e ▸ z)) (fun n => n (hsb668314 _ z))
          have hsb668355 : rSub P666624 P668338 := rSub_tr hsb668314 hsb668340
          have he668356 : F668339 q666626 = .inr (19, [.ref q666627, .int p666628, .int g668125, .int 6, .int p666631, .int p666632, .int p666633, .ref q668157, .int p666635, .int p666636, .int p666637, .ref qo666638, .ref qo666639, .int p666640]) := (hfr668341 q666626 hm668305 (nm_c (fun h => hq668220 (h ▸ hmq666626)) (nm_c (fun h => hq668313 (h ▸ hmq666626)) nm_n))).trans he668315
          have he668357 : F668339 q666627 = .inl (I .byte, 8192, .inl f666641) := (hfr668341 q666627 hm668306 (nm_c (fun h => hq668220 (h ▸ hmq666627)) (nm_c (fun h => hq668313 (h ▸ hmq666627)) nm_n))).trans he668316
          have he668358 : F668339 q666657 = .inr (1, [.ref q668127, .int 0, .int 0, .int g668126]) := (hfr668341 q666657 hm668307 (nm_c hne668223 (nm_c (rn_oa he668317 he668301) nm_n))).trans he668317
          have he668359 : F668339 q668127 = .inl (I .byte, n668128, .inl f668129) := (hfr668341 q668127 hm668308 (nm_c (rn_ao he668318 he668299) (nm_c hne668320 nm_n))).trans he668318
          have he668360 : F668339 q668157 = .inr (0, [.ref q668158, .int 0, .int 0, .int 0]) := (hfr668341 q668157 hm668309 (nm_c (rn_oo he668300 he668299 (by decide)) (nm_c (rn_oa he668300 he668301) nm_n))).trans he668300
          have he668361 : F668339 q668158 = .inl (I .byte, n668159, .inl f668160) := (hfr668341 q668158 hm668310 (nm_c (rn_ao he668302 he668299) (nm_c hne668321 nm_n))).trans he668302
          have hfr668362 : rFr [q666626] P666624 F666625 F668339 := rFr_call hsb668314 hfr668319 hfr668341 (fun b hb hn => ⟨(nm_c (fun e => hn (e ▸ List.mem_cons_self)) nm_n), (nm_c (fun e => hq668220 (e ▸ hb)) (nm_c (fun e => hq668313 (e ▸ hb)) nm_n))⟩)
          have hne668363 : q668127 ≠ q668329 := fun e => hq668345.elim (fun e2 => hne668320 (e.trans e2)) (fun n => n (e ▸ hm668308))
          have hne668364 : q668158 ≠ q668329 := fun e => hq668345.elim (fun e2 => hne668321 (e.trans e2)) (fun n => n (e ▸ hm668310))
          have bo668328' : gB o668328 2 16777216 := ⟨by omega, by omega⟩
          change G _ _ _ _ _ _ _ (.ref q668199 :: _) _ _ _
          refine G_widen (cs' := (7 + (g668125.toInt - p666629.toInt) : Int).toNat + 1) (sl' := (60 + 10 * (g668125.toInt - p666629.toInt) : Int).toNat + (2 * (n668330 - n668287))) (by omega) (by omega) ?_
          refine G_widen (cs' := (8 + (g668125.toInt - p666629.toInt) : Int).toNat) (sl' := (60 + 15 * (g668125.toInt - p666629.toInt) : Int).toNat) (by omega) (by omega) ?_
          clear he668299 he668300 he668301 he668302 hm668303 bf668288 hm668305 hm668306 hm668307 hm668308 hm668309 hm668310 hm668311 hq668313 hsb668314 he668315 he668316 he668317 he668318 hfr668319 hne668320 hne668321 hsb668340 hfr668341 hq668345 hm668353; try clear r668326; try clear w668327; try clear dc668323; try clear ds668324; try clear hp668325
          refine Gw_callV (As := []) (gV_ok D I) (cp_656656_StringBuilder_toString l hl0 D I P668338 F668339 q668199 q668329 0 o668328 f668331 n668330 hm668352 hm668344 he668342 he668343 (gB_w (gBl (show Int32.toInt 0 = 0 by decide)) (by decide) (by decide)) (gB_w bo668328' (by decide) (by decide)) bf668331 (by have qa0 : Int32.toInt 0 = 0 := (by decide); have qa1 : Int32.toInt 6 = 6 := (by decide); omega) (by have qa0 : Int32.toInt 0 = 0 := (by decide); have qa1 : Int32.toInt 6 = 6 := (by decide); omega)) dr_cX14_word_274 ⟨wr_8_66, wr_1_20, wr_8_69, by decide, rfl, (Nat.le_of_ble_eq_true rfl), (Nat.le_of_ble_eq_true rfl)⟩ wr_8_67 wr_8_68 hm668352 he668342 rfl (show (8 + (g668125.toInt - p666629.toInt) : Int).toNat + 2 ≤ ((16 * (p666628.toInt - p666629.toInt)).toNat) by first | omega | decide) (show (60 + 15 * (g668125.toInt - p666629.toInt) : Int).toNat + (o668328.toInt.toNat + 4) ≤ ((160 * (p666628.toInt - p666629.toInt)).toNat) by first | omega | decide) (Nat.le_of_ble_eq_true rfl) (fun r668368 w668369 dc668365 ds668366 hp668367 => ?_) (fun _ _ _ _ _ z => z.elim)
          obtain ⟨P668377, F668378, q668370, q668371, n668372, f668373, rfl, rfl, hsb668379, hfr668380, he668381, he668382, he668383, he668384, hm668385, hq668386, hm668387, hq668388, hdc, hds, bf668373, x668374, x668375, ht668376⟩ := hp668367
          have hm668389 : q666626 ∈ P668377 := hsb668379 q666626 hm668346
          have hm668390 : q666627 ∈ P668377 := hsb668379 q666627 hm668347
          have hm668391 : q666657 ∈ P668377 := hsb668379 q666657 hm668348
          have hm668392 : q668127 ∈ P668377 := hsb668379 q668127 hm668349
          have hm668393 : q668157 ∈ P668377 := hsb668379 q668157 hm668350
          have hm668394 : q668158 ∈ P668377 := hsb668379 q668158 hm668351
          have hm668395 : q668199 ∈ P668377 := hsb668379 q668199 hm668352
          have hm668396 : q668329 ∈ P668377 := hsb668379 q668329 hm668344
          have hq668397 : q668370 ∉ P666624 := fun z => hq668386 (hsb668355 q668370 z)
          have hq668398 : q668371 ∉ P666624 := fun z => hq668388 (hsb668355 q668371 z)
          have hsb668399 : rSub P666624 P668377 := rSub_tr hsb668355 hsb668379
          have he668400 : F668378 q666626 = .inr (19, [.ref q666627, .int p666628, .int g668125, .int 6, .int p666631, .int p666632, .int p666633, .ref q668157, .int p666635, .int p666636, .int p666637, .ref qo666638, .ref qo666639, .int p666640]) := (hfr668380 q666626 hm668346 nm_n).trans he668356
          have he668401 : F668378 q666627 = .inl (I .byte, 8192, .inl f666641) := (hfr668380 q666627 hm668347 nm_n).trans he668357
          have he668402 : F668378 q666657 = .inr (1, [.ref q668127, .int 0, .int 0, .int g668126]) := (hfr668380 q666657 hm668348 nm_n).trans he668358
          have he668403 : F668378 q668127 = .inl (I .byte, n668128, .inl f668129) := (hfr668380 q668127 hm668349 nm_n).trans he668359
          have he668404 : F668378 q668157 = .inr (0, [.ref q668158, .int 0, .int 0, .int 0]) := (hfr668380 q668157 hm668350 nm_n).trans he668360
          have he668405 : F668378 q668158 = .inl (I .byte, n668159, .inl f668160) := (hfr668380 q668158 hm668351 nm_n).trans he668361
          have hfr668406 : rFr [q666626] P666624 F666625 F668378 := rFr_call hsb668355 hfr668362 hfr668380 (fun b hb hn => ⟨(nm_c (fun e => hn (e ▸ List.mem_cons_self)) nm_n), nm_n⟩)
          have hne668407 : q668157 ≠ q668370 := fun h => hq668386 (h ▸ hm668350)
          have hne668408 : q668127 ≠ q668371 := fun h => hq668388 (h ▸ hm668349)
          have hne668409 : q668158 ≠ q668371 := fun h => hq668388 (h ▸ hm668351)
          have hne668410 : q668329 ≠ q668371 := fun h => hq668388 (h ▸ hm668344)
          change G _ _ _ _ _ _ _ (.ref q668370 :: _) _ _ _
          refine G_widen (cs' := (8 + (g668125.toInt - p666629.toInt) : Int).toNat + 2) (sl' := (60 + 15 * (g668125.toInt - p666629.toInt) : Int).toNat + (o668328.toInt.toNat + 4)) (by omega) (by omega) ?_
          refine G_widen (cs' := (10 + (g668125.toInt - p666629.toInt) : Int).toNat) (sl' := (66 + 16 * (g668125.toInt - p666629.toInt) : Int).toNat) (by omega) (by omega) ?_
          clear hq668220 hne668223 he668342 he668343 hm668344 bf668331 hm668346 hm668347 hm668348 hm668349 hm668350 hm668351 hm668352 hq668354 hsb668355 he668356 he668357 he668358 he668359 he668360 he668361 hfr668362 hne668363 hne668364 hsb668379 hfr668380 he668382 he668383 hq668386 hq668388 hm668395 hm668396 hne668410; try clear r668368; try clear w668369; try clear dc668365; try clear ds668366; try clear hp668367; try clear x668375
          refine Gw_callVk (As := [.ref q668370]) (gV_ok D I) (cp_657115_String_indexOf l hl0 D I P668377 F668378 q668370 q668371 (D.2 1000 34) (D.2 1001 34) sb_34 0 0 f668373 n668372 hm668385 hm668387 he668381 he668384 (gx_sc 34 rfl rfl) (by omega) (by decide +kernel) (gB_w (gBl (show Int32.toInt 0 = 0 by decide)) (by decide) (by decide)) bf668373 (by have qa0 : Int32.toInt 0 = 0 := (by decide); have qa1 : Int32.toInt 6 = 6 := (by decide); omega) (by have qa0 : Int32.toInt 0 = 0 := (by decide); have qa1 : Int32.toInt 6 = 6 := (by decide); omega)) dr_cX14_word_277 ⟨wr_8_196, wr_1_21, wr_8_199, by decide, rfl, (Nat.le_of_ble_eq_true rfl), (Nat.le_of_ble_eq_true rfl)⟩ wr_8_197 wr_8_198 (fun _ _ _ h => ((gx_sc 34 rfl rfl) _ _ _ h).1) (show (10 + (g668125.toInt - p666629.toInt) : Int).toNat + 0 ≤ ((16 * (p666628.toInt - p666629.toInt)).toNat) by first | omega | decide) (show (66 + 16 * (g668125.toInt - p666629.toInt) : Int).toNat + 0 ≤ ((160 * (p666628.toInt - p666629.toInt)).toNat) by first | omega | decide) (Nat.le_of_ble_eq_true rfl) (fun r668414 w668415 dc668411 ds668412 hp668413 => ?_) (fun _ _ _ _ _ z => z.elim)
          obtain ⟨o668416, rfl, rfl, hdc, hds, bo668416, x668417, x668418, ht668419⟩ := hp668413
          change G _ _ _ _ _ _ _ (.int o668416 :: _) _ _ _
          refine G_widen (cs' := (10 + (g668125.toInt - p666629.toInt) : Int).toNat + 0) (sl' := (66 + 16 * (g668125.toInt - p666629.toInt) : Int).toNat + 0) (by omega) (by omega) ?_
          clear he668381 he668384 hm668385 hm668387 bf668373 hq668397 hq668398 hne668407 hne668408 hne668409; try clear r668414; try clear w668415; try clear dc668411; try clear ds668412; try clear hp668413; try clear x668418
          refine G_if_lt 288 dr_cX14_word_280 (by decide +kernel) (fun hc668420 => ?_) (fun hc668420 => ?_)
          · have r668421 : o668416.toInt < 0 := gj_lt hc668420 (show Int32.toInt 0 = 0 by decide)
            have bo668416' : gB o668416 (-2147483646) (-1) := ⟨by omega, by omega⟩
            exact G_vretA dr_cX14_word_288 rfl (show (10 + (g668125.toInt - p666629.toInt) : Int).toNat + 0 ≤ ((16 * (p666628.toInt - p666629.toInt)).toNat) by omega) (show (66 + 16 * (g668125.toInt - p666629.toInt) : Int).toNat + 0 ≤ ((160 * (p666628.toInt - p666629.toInt)).toNat) by omega) ⟨P668377, F668378, g668125, 6, p666632, q668157, (0, fun _ => 0), rfl, rfl, hsb668399, hfr668406, he668400, he668401, (by omega), (by omega), bg668125, (gB_w (gBl (show Int32.toInt 6 = 6 by decide)) (by decide) (by decide)), (by have qa0 : Int32.toInt 0 = 0 := (by decide); have qa1 : Int32.toInt 6 = 6 := (by decide); omega), (by have qa0 : Int32.toInt 0 = 0 := (by decide); have qa1 : Int32.toInt 6 = 6 := (by decide); omega), (tP_no (by decide) (by decide)), (vP_no (by decide) (by decide)), (fun R c1 c2 c3 c4 c5 c6 => c1 z666648 g668125 g668126 n668128 f668129 n668159 f668160 o668262 f668263 o668285 n668287 f668288 o668328 n668330 f668331 n668372 f668373 o668416 hz666648 bz666648 hJ666656 hx668150 ht668163 bo668262 ht668267 bo668285 ht668294 bo668328 ht668337 ht668376 bo668416 ht668419 r668421)⟩
          · have r668422 : 0 ≤ o668416.toInt := gj_nlt hc668420 (show Int32.toInt 0 = 0 by decide)
            have bo668416' : gB o668416 0 16777215 := ⟨by omega, by omega⟩
            refine G_aload_n 2 dr_cX14_word_283 rfl ?_
            refine G_iconst 1 dr_cX14_word_284 (by decide +kernel) ?_
            refine Gp_put 3 hm668389 he668400 dr_cX14_word_285 (gk_X14 D I) (Nat.le_of_ble_eq_true rfl) wr_9_39 rfl rfl rfl (Nat.le_of_ble_eq_true rfl) (fun F668423 e668424 n668425 => ?_)
            have he668426 : F668423 q666627 = .inl (I .byte, 8192, .inl f666641) := (n668425 q666627 (rn_ao he668401 he668400)).trans he668401
            have he668427 : F668423 q666657 = .inr (1, [.ref q668127, .int 0, .int 0, .int g668126]) := (n668425 q666657 (fun h => hq666670 (h ▸ hmq666626))).trans he668402
            have he668428 : F668423 q668127 = .inl (I .byte, n668128, .inl f668129) := (n668425 q668127 (fun h => hq668130 (h ▸ hmq666626))).trans he668403
            have he668429 : F668423 q668157 = .inr (0, [.ref q668158, .int 0, .int 0, .int 0]) := (n668425 q668157 (fun h => hq668180 (h ▸ hmq666626))).trans he668404
            have he668430 : F668423 q668158 = .inl (I .byte, n668159, .inl f668160) := (n668425 q668158 (fun h => hq668181 (h ▸ hmq666626))).trans he668405
            have he668431 : F668423 q666626 = .inr (19, [.ref q666627, .int p666628, .int g668125, .int 1, .int p666631, .int p666632, .int p666633, .ref q668157, .int p666635, .int p666636, .int p666637, .ref qo666638, .ref qo666639, .int p666640]) := e668424
            have hfr668432 : rFr [q666626] P666624 F666625 F668423 := rFr_put' List.mem_cons_self hfr668406 n668425
            exact G_vretA dr_cX14_word_288 rfl (show (10 + (g668125.toInt - p666629.toInt) : Int).toNat + 0 ≤ ((16 * (p666628.toInt - p666629.toInt)).toNat) by omega) (show (66 + 16 * (g668125.toInt - p666629.toInt) : Int).toNat + 0 ≤ ((160 * (p666628.toInt - p666629.toInt)).toNat) by omega) ⟨P668377, F668423, g668125, 1, p666632, q668157, (n668159, f668160), rfl, rfl, hsb668399, hfr668432, he668431, he668426, (by omega), (by omega), bg668125, (gB_w (gBl (show Int32.toInt 1 = 1 by decide)) (by decide) (by decide)), (by have qa0 : Int32.toInt 0 = 0 := (by decide); have qa1 : Int32.toInt 1 = 1 := (by decide); omega), (by have qa0 : Int32.toInt 0 = 0 := (by decide); have qa1 : Int32.toInt 1 = 1 := (by decide); omega), (tP_1 hm668393 he668429 hm668394 he668430 bf668160 (by omega) (gB_w (gBl (show Int32.toInt 0 = 0 by decide)) (by decide) (by decide)) (fun e => hq668181 (e ▸ x666645)) (fun e => hq668181 (e ▸ x666646))), (vP_no (by decide) (by decide)), (fun R c1 c2 c3 c4 c5 c6 => c2 z666648 g668125 g668126 n668128 f668129 n668159 f668160 o668262 f668263 o668285 n668287 f668288 o668328 n668330 f668331 n668372 f668373 o668416 hz666648 bz666648 hJ666656 hx668150 ht668163 bo668262 ht668267 bo668285 ht668294 bo668328 ht668337 ht668376 bo668416 ht668419 r668422)⟩
        · have r668433 : g668125.toInt < p666628.toInt := gC_nle hc668148
          have bg668125' : gB g668125 0 8191 := ⟨by omega, by omega⟩
          have bp666628' : gB p666628 1 8192 := ⟨by omega, by omega⟩
          refine G_aload_n 2 dr_cX14_word_197 rfl ?_
          refine Gp_get 0 hm668138 he668132 dr_cX14_word_198 (gk_X14 D I) (Nat.le_of_ble_eq_true rfl) wr_9_36 rfl ?_
          refine G_aload_n 2 dr_cX14_word_201 rfl ?_
          refine Gp_get 2 hm668138 he668132 dr_cX14_word_202 (gk_X14 D I) (Nat.le_of_ble_eq_true rfl) wr_9_38 rfl ?_
          refine Gp_bald 1 hm668139 he668133 dr_cX14_word_205 rfl (gB_in bg668125' (by decide) (by decide)) (G_nam fun z668434 hz668434 => ?_)
          have bz668434 : gB z668434 (-128) 127 := by rw [hz668434]; exact bf666641 _
          refine Gw_callS (As := [.int z668434]) (gV_ok D I) (cp_666991_Reader_isLetter l hl0 D I P668137 F668131 z668434 ) dr_cX14_word_206 ⟨wr_7_222, wr_1_32, wr_7_224, by decide, rfl, (Nat.le_of_ble_eq_true rfl), (Nat.le_of_ble_eq_true rfl)⟩ wr_7_223 (show 2 + (g668126.toInt : Int).toNat + 0 ≤ ((16 * (p666628.toInt - p666629.toInt)).toNat) by first | omega | decide) (show 4 + 2 * n668128 + 0 ≤ ((160 * (p666628.toInt - p666629.toInt)).toNat) by first | omega | decide) (Nat.le_of_ble_eq_true rfl) (fun r668438 w668439 dc668435 ds668436 hp668437 => ?_) (fun _ _ _ _ _ z => z.elim)
          obtain ⟨o668440, rfl, rfl, hdc, hds, bo668440, x668441, ht668442⟩ := hp668437
          change G _ _ _ _ _ _ _ (.int o668440 :: _) _ _ _
          refine G_widen (cs' := 2 + (g668126.toInt : Int).toNat + 0) (sl' := 4 + 2 * n668128 + 0) (by omega) (by omega) ?_
          refine G_if_eq 240 dr_cX14_word_209 (by decide +kernel) (fun hc668443 => ?_) (fun hc668443 => ?_)
          · have r668444 : o668440.toInt = 0 := gj_eq hc668443 (show Int32.toInt 0 = 0 by decide)
            have bo668440' : gB o668440 0 0 := ⟨by omega, by omega⟩
            have hx668445 : tl_RReader_word_186 p666628 f666641 p666629 (0 : Int32) 16 (fun _ => 0 : Nat → Int32) 240 g668125 g668126 n668128 f668129 := kt186_668147 240 g668125 g668126 n668128 f668129 (fun R c1 c2 c3 => c2 g668125 g668126 n668128 f668129 z668434 o668440 bg668125 bg668126 r668433 hz668434 bz668434 bo668440 ht668442 r668444)
            have x668446 : p666629.toInt < g668125.toInt := by first | omega | exact cLt_lt x666644 (by assumption) (isP_0 (by assumption) (by omega)) (by omega)
            refine G_aload_n 2 dr_cX14_word_240 rfl ?_
            refine G_aload_n 0 dr_cX14_word_241 rfl ?_
            refine Gw_callV (As := []) (gV_ok D I) (cp_656656_StringBuilder_toString l hl0 D I P668137 F668131 q666657 q668127 0 g668126 f668129 n668128 hm668140 hm668141 he668134 he668135 (gB_w (gBl (show Int32.toInt 0 = 0 by decide)) (by decide) (by decide)) bg668126 bf668129 (by have qa0 : Int32.toInt 0 = 0 := (by decide); have qa1 : Int32.toInt 6 = 6 := (by decide); omega) (by have qa0 : Int32.toInt 0 = 0 := (by decide); have qa1 : Int32.toInt 6 = 6 := (by decide); omega)) dr_cX14_word_242 ⟨wr_8_66, wr_1_20, wr_8_69, by decide, rfl, (Nat.le_of_ble_eq_true rfl), (Nat.le_of_ble_eq_true rfl)⟩ wr_8_67 wr_8_68 hm668140 he668134 rfl (show 2 + (g668126.toInt : Int).toNat + 0 + 2 ≤ ((16 * (p666628.toInt - p666629.toInt)).toNat) by first | omega | decide) (show 4 + 2 * n668128 + 0 + (g668126.toInt.toNat + 4) ≤ ((160 * (p666628.toInt - p666629.toInt)).toNat) by first | omega | decide) (Nat.le_of_ble_eq_true rfl) (fun r668450 w668451 dc668447 ds668448 hp668449 => ?_) (fun _ _ _ _ _ z => z.elim)
            obtain ⟨P668459, F668460, q668452, q668453, n668454, f668455, rfl, rfl, hsb668461, hfr668462, he668463, he668464, he668465, he668466, hm668467, hq668468, hm668469, hq668470, hdc, hds, bf668455, x668456, x668457, ht668458⟩ := hp668449
            have hm668471 : q666626 ∈ P668459 := hsb668461 q666626 hm668138
            have hm668472 : q666627 ∈ P668459 := hsb668461 q666627 hm668139
            have hm668473 : q666657 ∈ P668459 := hsb668461 q666657 hm668140
            have hm668474 : q668127 ∈ P668459 := hsb668461 q668127 hm668141
            have hq668475 : q668452 ∉ P666624 := fun z => hq668468 (hsb668142 q668452 z)
            have hq668476 : q668453 ∉ P666624 := fun z => hq668470 (hsb668142 q668453 z)
            have hsb668477 : rSub P666624 P668459 := rSub_tr hsb668142 hsb668461
            have he668478 : F668460 q666626 = .inr (19, [.ref q666627, .int p666628, .int g668125, .int 6, .int p666631, .int p666632, .int p666633, .ref qo666634, .int p666635, .int p666636, .int p666637, .ref qo666638, .ref qo666639, .int p666640]) := (hfr668462 q666626 hm668138 nm_n).trans he668132
            have he668479 : F668460 q666627 = .inl (I .byte, 8192, .inl f666641) := (hfr668462 q666627 hm668139 nm_n).trans he668133
            have hfr668480 : rFr [q666626] P666624 F666625 F668460 := rFr_call hsb668142 hfr668136 hfr668462 (fun b hb hn => ⟨(nm_c (fun e => hn (e ▸ List.mem_cons_self)) nm_n), nm_n⟩)
            have hne668481 : q668127 ≠ q668453 := fun h => hq668470 (h ▸ hm668141)
            change G _ _ _ _ _ _ _ (.ref q668452 :: _) _ _ _
            refine G_widen (cs' := 2 + (g668126.toInt : Int).toNat + 0 + 2) (sl' := 4 + 2 * n668128 + 0 + (g668126.toInt.toNat + 4)) (by omega) (by omega) ?_
            have x668482 : (n668454 : Int) = g668125.toInt - p666629.toInt := by omega
            clear he666652 he666653 hfr666654 he666664 he666665 he666666 hm666667 hm666668 hm666669 hfr666671 hsb666672 hsb666681 hfr666682 he666683 he666684 hm666685 hq666686 hm666687 hm666688 hm666689 hq666690 hsb666691 he666692 he666693 hfr666694 bo668440 ht668442 bo668440' hsb668461 hfr668462 hq668468 hq668470; try clear r666676; try clear w666677; try clear dc666673; try clear ds666674; try clear hp666675; try clear r668438; try clear w668439; try clear dc668435; try clear ds668436; try clear hp668437; try clear x668441; try clear r668444; try clear r668450; try clear w668451; try clear dc668447; try clear ds668448; try clear hp668449
            refine Gp_put 7 hm668471 he668478 dr_cX14_word_245 (gk_X14 D I) (Nat.le_of_ble_eq_true rfl) wr_9_43 rfl rfl rfl (Nat.le_of_ble_eq_true rfl) (fun F668483 e668484 n668485 => ?_)
            have he668486 : F668483 q666627 = .inl (I .byte, 8192, .inl f666641) := (n668485 q666627 (rn_ao he668479 he668478)).trans he668479
            have he668487 : F668483 q668452 = .inr (0, [.ref q668453, .int 0, .int 0, .int 0]) := (n668485 q668452 (fun h => hq668475 (h ▸ hmq666626))).trans he668463
            have he668488 : F668483 q666657 = .inr (1, [.ref q668127, .int 0, .int 0, .int g668126]) := (n668485 q666657 (fun h => hq666670 (h ▸ hmq666626))).trans he668464
            have he668489 : F668483 q668127 = .inl (I .byte, n668128, .inl f668129) := (n668485 q668127 (fun h => hq668130 (h ▸ hmq666626))).trans he668465
            have he668490 : F668483 q668453 = .inl (I .byte, n668454, .inl f668455) := (n668485 q668453 (fun h => hq668476 (h ▸ hmq666626))).trans he668466
            have he668491 : F668483 q666626 = .inr (19, [.ref q666627, .int p666628, .int g668125, .int 6, .int p666631, .int p666632, .int p666633, .ref q668452, .int p666635, .int p666636, .int p666637, .ref qo666638, .ref qo666639, .int p666640]) := e668484
            have hfr668492 : rFr [q666626] P666624 F666625 F668483 := rFr_put' List.mem_cons_self hfr668480 n668485
            refine G_widen (cs' := (4 + (g668125.toInt - p666629.toInt) : Int).toNat) (sl' := (40 + 5 * (g668125.toInt - p666629.toInt) : Int).toNat) (by omega) (by omega) ?_
            clear he668463 he668464 he668465 he668466 he668478 he668479 hfr668480
            refine G_ldcK (a := D.2 1000 34) dr_cX14_word_248 (fun _ _ _ h => gx_vk 34 rfl rfl h) ?_
            have hl34_668492 : (sb_34.length : Int) = 25 := rfl
            refine G_new [.null, .int 0, .int 0, .int 0] dr_cX14_word_250 (gk_J4 D I) wr_7_235 wr_7_44 wr_1_20 (gfs_J4) (show (4 + (g668125.toInt - p666629.toInt) : Int).toNat + 1 ≤ ((16 * (p666628.toInt - p666629.toInt)).toNat) by first | omega | decide) (show (40 + 5 * (g668125.toInt - p666629.toInt) : Int).toNat + 4 ≤ ((160 * (p666628.toInt - p666629.toInt)).toNat) by first | omega | decide) (fun q668494 => Gp_in (fun P668495 F668496 hq668497 hP668498 e668499 n668500 => ?_))
            refine G_widen (cs' := (4 + (g668125.toInt - p666629.toInt) : Int).toNat + 1) (sl' := (40 + 5 * (g668125.toInt - p666629.toInt) : Int).toNat + 4) (by omega) (by omega) ?_
            have he668501 : F668496 q666626 = .inr (19, [.ref q666627, .int p666628, .int g668125, .int 6, .int p666631, .int p666632, .int p666633, .ref q668452, .int p666635, .int p666636, .int p666637, .ref qo666638, .ref qo666639, .int p666640]) := (n668500 q666626 (fun h => hq668497 (h ▸ hm668471))).trans he668491
            have he668502 : F668496 q666627 = .inl (I .byte, 8192, .inl f666641) := (n668500 q666627 (fun h => hq668497 (h ▸ hm668472))).trans he668486
            have he668503 : F668496 q668452 = .inr (0, [.ref q668453, .int 0, .int 0, .int 0]) := (n668500 q668452 (fun h => hq668497 (h ▸ hm668467))).trans he668487
            have he668504 : F668496 q666657 = .inr (1, [.ref q668127, .int 0, .int 0, .int g668126]) := (n668500 q666657 (fun h => hq668497 (h ▸ hm668473))).trans he668488
            have he668505 : F668496 q668127 = .inl (I .byte, n668128, .inl f668129) := (n668500 q668127 (fun h => hq668497 (h ▸ hm668474))).trans he668489
            have he668506 : F668496 q668453 = .inl (I .byte, n668454, .inl f668455) := (n668500 q668453 (fun h => hq668497 (h ▸ hm668469))).trans he668490
            have he668507 : F668496 q668494 = .inr (1, [.null, .int 0, .int 0, .int 0]) := e668499
            have hm668508 : q666626 ∈ P668495 := (hP668498 q666626).mpr (Or.inl hm668471)
            have hm668509 : q666627 ∈ P668495 := (hP668498 q666627).mpr (Or.inl hm668472)
            have hm668510 : q666657 ∈ P668495 := (hP668498 q666657).mpr (Or.inl hm668473)
            have hm668511 : q668127 ∈ P668495 := (hP668498 q668127).mpr (Or.inl hm668474)
            have hm668512 : q668452 ∈ P668495 := (hP668498 q668452).mpr (Or.inl hm668467)
            have hm668513 : q668453 ∈ P668495 := (hP668498 q668453).mpr (Or.inl hm668469)
            have hm668514 : q668494 ∈ P668495 := (hP668498 q668494).mpr (Or.inr rfl)
            have hq668515 : q668494 ∉ P666624 := fun z => hq668497 (hsb668477 q668494 z)
            have hfr668516 : rFr [q666626] P666624 F666625 F668496 := rFr_new hsb668477 hq668497 hfr668492 n668500
            have hsb668517 : rSub P666624 P668495 := rSub_new hsb668477 hP668498
            have hne668518 : q666657 ≠ q668494 := fun h => hq668497 (h ▸ hm668473)
            refine G_dup dr_cX14_word_253 rfl ?_
            refine Gw_callI (As := []) (gV_ok D I) (cp_655881_StringBuilder_init l hl0 D I P668495 F668496 q668494 0 0 hm668514 he668507 (gB_w (gBl (show Int32.toInt 0 = 0 by decide)) (by decide) (by decide)) (gB_w (gBl (show Int32.toInt 0 = 0 by decide)) (by decide) (by decide))) dr_cX14_word_254 ⟨wr_7_236, wr_1_20, wr_7_47, by decide, rfl, (Nat.le_of_ble_eq_true rfl), (Nat.le_of_ble_eq_true rfl)⟩ wr_7_46 rfl (show (4 + (g668125.toInt - p666629.toInt) : Int).toNat + 1 + 1 ≤ ((16 * (p666628.toInt - p666629.toInt)).toNat) by first | omega | decide) (show (40 + 5 * (g668125.toInt - p666629.toInt) : Int).toNat + 4 + 16 ≤ ((160 * (p666628.toInt - p666629.toInt)).toNat) by first | omega | decide) (Nat.le_of_ble_eq_true rfl) (fun r668522 w668523 dc668519 ds668520 hp668521 => ?_)
            obtain ⟨P668525, F668526, q668524, rfl, rfl, hsb668527, hfr668528, he668529, he668530, hm668531, hq668532, hdc, hds⟩ := hp668521
            have hm668533 : q666626 ∈ P668525 := hsb668527 q666626 hm668508
            have hm668534 : q666627 ∈ P668525 := hsb668527 q666627 hm668509
            have hm668535 : q666657 ∈ P668525 := hsb668527 q666657 hm668510
            have hm668536 : q668127 ∈ P668525 := hsb668527 q668127 hm668511
            have hm668537 : q668452 ∈ P668525 := hsb668527 q668452 hm668512
            have hm668538 : q668453 ∈ P668525 := hsb668527 q668453 hm668513
            have hm668539 : q668494 ∈ P668525 := hsb668527 q668494 hm668514
            have hq668540 : q668524 ∉ P666624 := fun z => hq668532 (hsb668517 q668524 z)
            have hsb668541 : rSub P666624 P668525 := rSub_tr hsb668517 hsb668527
            have he668542 : F668526 q666626 = .inr (19, [.ref q666627, .int p666628, .int g668125, .int 6, .int p666631, .int p666632, .int p666633, .ref q668452, .int p666635, .int p666636, .int p666637, .ref qo666638, .ref qo666639, .int p666640]) := (hfr668528 q666626 hm668508 (nm_c (fun h => hq668515 (h ▸ hmq666626)) nm_n)).trans he668501
            have he668543 : F668526 q666627 = .inl (I .byte, 8192, .inl f666641) := (hfr668528 q666627 hm668509 (nm_c (fun h => hq668515 (h ▸ hmq666627)) nm_n)).trans he668502
            have he668544 : F668526 q668452 = .inr (0, [.ref q668453, .int 0, .int 0, .int 0]) := (hfr668528 q668452 hm668512 (nm_c (rn_oo he668503 he668507 (by decide)) nm_n)).trans he668503
            have he668545 : F668526 q666657 = .inr (1, [.ref q668127, .int 0, .int 0, .int g668126]) := (hfr668528 q666657 hm668510 (nm_c hne668518 nm_n)).trans he668504
            have he668546 : F668526 q668127 = .inl (I .byte, n668128, .inl f668129) := (hfr668528 q668127 hm668511 (nm_c (rn_ao he668505 he668507) nm_n)).trans he668505
            have he668547 : F668526 q668453 = .inl (I .byte, n668454, .inl f668455) := (hfr668528 q668453 hm668513 (nm_c (rn_ao he668506 he668507) nm_n)).trans he668506
            have hfr668548 : rFr [q666626] P666624 F666625 F668526 := rFr_call hsb668517 hfr668516 hfr668528 (fun b hb hn => ⟨(nm_c (fun e => hn (e ▸ List.mem_cons_self)) nm_n), (nm_c (fun e => hq668515 (e ▸ hb)) nm_n)⟩)
            have hne668549 : q668127 ≠ q668524 := fun h => hq668532 (h ▸ hm668511)
            have hne668550 : q668453 ≠ q668524 := fun h => hq668532 (h ▸ hm668513)
            change G _ _ _ _ _ _ _ _ _ _ _
            refine G_widen (cs' := (4 + (g668125.toInt - p666629.toInt) : Int).toNat + 1 + 1) (sl' := (40 + 5 * (g668125.toInt - p666629.toInt) : Int).toNat + 4 + 16) (by omega) (by omega) ?_
            refine G_ldcK (a := D.2 1000 35) dr_cX14_word_257 (fun _ _ _ h => gx_vk 35 rfl rfl h) ?_
            have hl35_668550 : (sb_35.length : Int) = 1 := rfl
            refine Gw_callV (As := [.ref (D.2 1000 35)]) (gV_ok D I) (cp_656183_StringBuilder_append l hl0 D I P668525 F668526 q668494 q668524 (D.2 1000 35) (D.2 1001 35) sb_35 0 0 (fun _ => 0) 16 hm668539 hm668531 he668529 he668530 (gx_sc 35 rfl rfl) (by omega) (by decide +kernel) (gB_w (gBl (show Int32.toInt 0 = 0 by decide)) (by decide) (by decide)) (gB_w (gBl (show Int32.toInt 0 = 0 by decide)) (by decide) (by decide)) (gF_w gF_0 (by decide) (by decide)) (by have qa0 : Int32.toInt 0 = 0 := (by decide); have qa1 : Int32.toInt 6 = 6 := (by decide); omega) (by have qa0 : Int32.toInt 0 = 0 := (by decide); have qa1 : Int32.toInt 6 = 6 := (by decide); omega)) dr_cX14_word_259 ⟨wr_8_195, wr_1_20, wr_8_143, by decide, rfl, (Nat.le_of_ble_eq_true rfl), (Nat.le_of_ble_eq_true rfl)⟩ wr_8_141 wr_8_142 hm668539 he668529 rfl (show (4 + (g668125.toInt - p666629.toInt) : Int).toNat + 1 + 1 + 0 ≤ ((16 * (p666628.toInt - p666629.toInt)).toNat) by first | omega | decide) (show (40 + 5 * (g668125.toInt - p666629.toInt) : Int).toNat + 4 + 16 + 0 ≤ ((160 * (p666628.toInt - p666629.toInt)).toNat) by first | omega | decide) (Nat.le_of_ble_eq_true rfl) (fun r668555 w668556 dc668552 ds668553 hp668554 => ?_) (fun _ _ _ _ _ z => z.elim)
            obtain ⟨F668563, o668557, f668558, rfl, rfl, hfr668565, he668566, he668567, hdc, hds, bo668557, bf668558, x668559, x668560, x668561, ht668562⟩ := hp668554
            have he668568 : F668563 q666626 = .inr (19, [.ref q666627, .int p666628, .int g668125, .int 6, .int p666631, .int p666632, .int p666633, .ref q668452, .int p666635, .int p666636, .int p666637, .ref qo666638, .ref qo666639, .int p666640]) := (hfr668565 q666626 hm668533 (nm_c (fun h => hq668515 (h ▸ hmq666626)) (nm_c (fun h => hq668540 (h ▸ hmq666626)) nm_n))).trans he668542
            have he668569 : F668563 q666627 = .inl (I .byte, 8192, .inl f666641) := (hfr668565 q666627 hm668534 (nm_c (fun h => hq668515 (h ▸ hmq666627)) (nm_c (fun h => hq668540 (h ▸ hmq666627)) nm_n))).trans he668543
            have he668570 : F668563 q668452 = .inr (0, [.ref q668453, .int 0, .int 0, .int 0]) := (hfr668565 q668452 hm668537 (nm_c (rn_oo he668544 he668529 (by decide)) (nm_c (rn_oa he668544 he668530) nm_n))).trans he668544
            have he668571 : F668563 q666657 = .inr (1, [.ref q668127, .int 0, .int 0, .int g668126]) := (hfr668565 q666657 hm668535 (nm_c hne668518 (nm_c (rn_oa he668545 he668530) nm_n))).trans he668545
            have he668572 : F668563 q668127 = .inl (I .byte, n668128, .inl f668129) := (hfr668565 q668127 hm668536 (nm_c (rn_ao he668546 he668529) (nm_c hne668549 nm_n))).trans he668546
            have he668573 : F668563 q668453 = .inl (I .byte, n668454, .inl f668455) := (hfr668565 q668453 hm668538 (nm_c (rn_ao he668547 he668529) (nm_c hne668550 nm_n))).trans he668547
            have hfr668574 : rFr [q666626] P666624 F666625 F668563 := rFr_call hsb668541 hfr668548 hfr668565 (fun b hb hn => ⟨(nm_c (fun e => hn (e ▸ List.mem_cons_self)) nm_n), (nm_c (fun e => hq668515 (e ▸ hb)) (nm_c (fun e => hq668540 (e ▸ hb)) nm_n))⟩)
            rw [show Int32.toInt 0 = 0 from by decide] at x668559
            have bo668557' : gB o668557 1 1 := ⟨by omega, by omega⟩
            rw [show Int32.toInt 0 = 0 from by decide] at x668560
            rw [show Int32.toInt 0 = 0 from by decide] at x668561
            change G _ _ _ _ _ _ _ (.ref q668494 :: _) _ _ _
            refine G_widen (cs' := (4 + (g668125.toInt - p666629.toInt) : Int).toNat + 1 + 1 + 0) (sl' := (40 + 5 * (g668125.toInt - p666629.toInt) : Int).toNat + 4 + 16 + 0) (by omega) (by omega) ?_
            refine G_aload_n 2 dr_cX14_word_262 rfl ?_
            clear hm668467 hm668469 hm668471 hm668472 hm668473 hm668474 hsb668477 he668486 he668487 he668488 he668489 he668490 he668491 hfr668492 he668501 he668502 he668503 he668504 he668505 he668506 he668507 hm668508 hm668509 hm668510 hm668511 hm668512 hm668513 hm668514 hfr668516 hsb668517 hsb668527 hfr668528 he668529 he668530 hq668532 he668542 he668543 he668544 he668545 he668546 he668547 hfr668548 hfr668565; try clear r668522; try clear w668523; try clear dc668519; try clear ds668520; try clear hp668521; try clear r668555; try clear w668556; try clear dc668552; try clear ds668553; try clear hp668554
            refine Gp_get 7 hm668533 he668568 dr_cX14_word_263 (gk_X14 D I) (Nat.le_of_ble_eq_true rfl) wr_9_43 rfl ?_
            refine Gw_callV (As := [.ref q668452]) (gV_ok D I) (cp_656383_StringBuilder_append l hl0 D I P668525 F668563 q668494 q668452 q668524 q668453 0 o668557 0 0 f668558 16 f668455 n668454 hm668539 hm668537 hm668531 hm668538 he668566 he668570 he668567 he668573 (Ne.symm hne668550) (gB_w (gBl (show Int32.toInt 0 = 0 by decide)) (by decide) (by decide)) (gB_w bo668557' (by decide) (by decide)) (gB_w (gBl (show Int32.toInt 0 = 0 by decide)) (by decide) (by decide)) bf668558 bf668455 (by have qa0 : Int32.toInt 0 = 0 := (by decide); have qa1 : Int32.toInt 6 = 6 := (by decide); omega) (by have qa0 : Int32.toInt 0 = 0 := (by decide); have qa1 : Int32.toInt 6 = 6 := (by decide); omega) (by have qa0 : Int32.toInt 0 = 0 := (by decide); have qa1 : Int32.toInt 6 = 6 := (by decide); omega) (by have qa0 : Int32.toInt 0 = 0 := (by decide); have qa1 : Int32.toInt 6 = 6 := (by decide); omega) (by have qa0 : Int32.toInt 0 = 0 := (by decide); have qa1 : Int32.toInt 6 = 6 := (by decide); omega)) dr_cX14_word_266 ⟨wr_8_195, wr_1_20, wr_8_143, by decide, rfl, (Nat.le_of_ble_eq_true rfl), (Nat.le_of_ble_eq_true rfl)⟩ wr_8_141 wr_8_142 hm668539 he668566 rfl (show (4 + (g668125.toInt - p666629.toInt) : Int).toNat + 1 + 1 + 0 + 1 ≤ ((16 * (p666628.toInt - p666629.toInt)).toNat) by first | omega | decide) (show (40 + 5 * (g668125.toInt - p666629.toInt) : Int).toNat + 4 + 16 + 0 + (4 * 16 + 4 + 2 * n668454) ≤ ((160 * (p666628.toInt - p666629.toInt)).toNat) by first | omega | decide) (Nat.le_of_ble_eq_true rfl) (fun r668578 w668579 dc668575 ds668576 hp668577 => ?_) (fun _ _ _ _ _ z => z.elim)
            obtain ⟨P668590, F668591, o668580, q668581, n668582, f668583, rfl, rfl, hsb668592, hfr668593, he668594, he668595, he668596, he668597, hm668598, hq668599, hdc, hds, bo668580, bf668583, x668584, x668585, x668586, x668587, x668588, ht668589⟩ := hp668577
            have hm668600 : q666626 ∈ P668590 := hsb668592 q666626 hm668533
            have hm668601 : q666627 ∈ P668590 := hsb668592 q666627 hm668534
            have hm668602 : q666657 ∈ P668590 := hsb668592 q666657 hm668535
            have hm668603 : q668127 ∈ P668590 := hsb668592 q668127 hm668536
            have hm668604 : q668452 ∈ P668590 := hsb668592 q668452 hm668537
            have hm668605 : q668453 ∈ P668590 := hsb668592 q668453 hm668538
            have hm668606 : q668494 ∈ P668590 := hsb668592 q668494 hm668539
            have hm668607 : q668524 ∈ P668590 := hsb668592 q668524 hm668531
            have hq668608 : q668581 ∉ P666624 := fun z => hq668599.elim (fun e => hq668540 (e ▸ z)) (fun n => n (hsb668541 _ z))
            have hsb668609 : rSub P666624 P668590 := rSub_tr hsb668541 hsb668592
            have he668610 : F668591 q666626 = .inr (19, [.ref q666627, .int p666628, .int g668125, .int 6, .int p666631, .int p666632, .int p666633, .ref q668452, .int p666635, .int p666636, .int p666637, .ref qo666638, .ref qo666639, .int p666640]) := (hfr668593 q666626 hm668533 (nm_c (fun h => hq668515 (h ▸ hmq666626)) (nm_c (fun h => hq668540 (h ▸ hmq666626)) nm_n))).trans he668568
            have he668611 : F668591 q666627 = .inl (I .byte, 8192, .inl f666641) := (hfr668593 q666627 hm668534 (nm_c (fun h => hq668515 (h ▸ hmq666627)) (nm_c (fun h => hq668540 (h ▸ hmq666627)) nm_n))).trans he668569
            have he668612 : F668591 q666657 = .inr (1, [.ref q668127, .int 0, .int 0, .int g668126]) := (hfr668593 q666657 hm668535 (nm_c hne668518 (nm_c (rn_oa he668571 he668567) nm_n))).trans he668571
            have he668613 : F668591 q668127 = .inl (I .byte, n668128, .inl f668129) := (hfr668593 q668127 hm668536 (nm_c (rn_ao he668572 he668566) (nm_c hne668549 nm_n))).trans he668572
            have hfr668614 : rFr [q666626] P666624 F666625 F668591 := rFr_call hsb668541 hfr668574 hfr668593 (fun b hb hn => ⟨(nm_c (fun e => hn (e ▸ List.mem_cons_self)) nm_n), (nm_c (fun e => hq668515 (e ▸ hb)) (nm_c (fun e => hq668540 (e ▸ hb)) nm_n))⟩)
            have hne668615 : q668127 ≠ q668581 := fun e => hq668599.elim (fun e2 => hne668549 (e.trans e2)) (fun n => n (e ▸ hm668536))
            have hne668616 : q668453 ≠ q668581 := fun e => hq668599.elim (fun e2 => hne668550 (e.trans e2)) (fun n => n (e ▸ hm668538))
            have bo668580' : gB o668580 1 16777216 := ⟨by omega, by omega⟩
            change G _ _ _ _ _ _ _ (.ref q668494 :: _) _ _ _
            refine G_widen (cs' := (4 + (g668125.toInt - p666629.toInt) : Int).toNat + 1 + 1 + 0 + 1) (sl' := (40 + 5 * (g668125.toInt - p666629.toInt) : Int).toNat + 4 + 16 + 0 + (2 * (n668582 - 16))) (by omega) (by omega) ?_
            refine G_widen (cs' := (7 + (g668125.toInt - p666629.toInt) : Int).toNat) (sl' := (60 + 10 * (g668125.toInt - p666629.toInt) : Int).toNat) (by omega) (by omega) ?_
            clear hm668531 hm668533 hm668534 hm668535 hm668536 hm668537 hm668538 hm668539 hq668540 hsb668541 hne668549 hne668550 he668566 he668567 bf668558 he668568 he668569 he668570 he668571 he668572 he668573 hfr668574 hsb668592 hfr668593 hq668599 hm668607; try clear x668560; try clear x668561; try clear r668578; try clear w668579; try clear dc668575; try clear ds668576; try clear hp668577
            refine G_ldcK (a := D.2 1000 35) dr_cX14_word_269 (fun _ _ _ h => gx_vk 35 rfl rfl h) ?_
            have hl35_668616 : (sb_35.length : Int) = 1 := rfl
            refine Gw_callV (As := [.ref (D.2 1000 35)]) (gV_ok D I) (cp_656531_StringBuilder_append l hl0 D I P668590 F668591 q668494 q668581 (D.2 1000 35) (D.2 1001 35) sb_35 0 o668580 f668583 n668582 hm668606 hm668598 he668594 he668596 (gx_sc 35 rfl rfl) (by omega) (by decide +kernel) (gB_w (gBl (show Int32.toInt 0 = 0 by decide)) (by decide) (by decide)) (gB_w bo668580' (by decide) (by decide)) bf668583 (by have qa0 : Int32.toInt 0 = 0 := (by decide); have qa1 : Int32.toInt 6 = 6 := (by decide); omega) (by have qa0 : Int32.toInt 0 = 0 := (by decide); have qa1 : Int32.toInt 6 = 6 := (by decide); omega) (by have qa0 : Int32.toInt 0 = 0 := (by decide); have qa1 : Int32.toInt 6 = 6 := (by decide); omega) (by have qa0 : Int32.toInt 0 = 0 := (by decide); have qa1 : Int32.toInt 6 = 6 := (by decide); omega)) dr_cX14_word_271 ⟨wr_8_195, wr_1_20, wr_8_143, by decide, rfl, (Nat.le_of_ble_eq_true rfl), (Nat.le_of_ble_eq_true rfl)⟩ wr_8_141 wr_8_142 hm668606 he668594 rfl (show (7 + (g668125.toInt - p666629.toInt) : Int).toNat + 1 ≤ ((16 * (p666628.toInt - p666629.toInt)).toNat) by first | omega | decide) (show (60 + 10 * (g668125.toInt - p666629.toInt) : Int).toNat + (4 * n668582 + 4 + 2 * sb_35.length) ≤ ((160 * (p666628.toInt - p666629.toInt)).toNat) by first | omega | decide) (Nat.le_of_ble_eq_true rfl) (fun r668621 w668622 dc668618 ds668619 hp668620 => ?_) (fun _ _ _ _ _ z => z.elim)
            obtain ⟨P668633, F668634, o668623, q668624, n668625, f668626, rfl, rfl, hsb668635, hfr668636, he668637, he668638, hm668639, hq668640, hdc, hds, bo668623, bf668626, x668627, x668628, x668629, x668630, x668631, ht668632⟩ := hp668620
            have hm668641 : q666626 ∈ P668633 := hsb668635 q666626 hm668600
            have hm668642 : q666627 ∈ P668633 := hsb668635 q666627 hm668601
            have hm668643 : q666657 ∈ P668633 := hsb668635 q666657 hm668602
            have hm668644 : q668127 ∈ P668633 := hsb668635 q668127 hm668603
            have hm668645 : q668452 ∈ P668633 := hsb668635 q668452 hm668604
            have hm668646 : q668453 ∈ P668633 := hsb668635 q668453 hm668605
            have hm668647 : q668494 ∈ P668633 := hsb668635 q668494 hm668606
            have hm668648 : q668581 ∈ P668633 := hsb668635 q668581 hm668598
            have hq668649 : q668624 ∉ P666624 := fun z => hq668640.elim (fun e => hq668608 (e ▸ z)) (fun n => n (hsb668609 _ z))
            have hsb668650 : rSub P666624 P668633 := rSub_tr hsb668609 hsb668635
            have he668651 : F668634 q666626 = .inr (19, [.ref q666627, .int p666628, .int g668125, .int 6, .int p666631, .int p666632, .int p666633, .ref q668452, .int p666635, .int p666636, .int p666637, .ref qo666638, .ref qo666639, .int p666640]) := (hfr668636 q666626 hm668600 (nm_c (fun h => hq668515 (h ▸ hmq666626)) (nm_c (fun h => hq668608 (h ▸ hmq666626)) nm_n))).trans he668610
            have he668652 : F668634 q666627 = .inl (I .byte, 8192, .inl f666641) := (hfr668636 q666627 hm668601 (nm_c (fun h => hq668515 (h ▸ hmq666627)) (nm_c (fun h => hq668608 (h ▸ hmq666627)) nm_n))).trans he668611
            have he668653 : F668634 q666657 = .inr (1, [.ref q668127, .int 0, .int 0, .int g668126]) := (hfr668636 q666657 hm668602 (nm_c hne668518 (nm_c (rn_oa he668612 he668596) nm_n))).trans he668612
            have he668654 : F668634 q668127 = .inl (I .byte, n668128, .inl f668129) := (hfr668636 q668127 hm668603 (nm_c (rn_ao he668613 he668594) (nm_c hne668615 nm_n))).trans he668613
            have he668655 : F668634 q668452 = .inr (0, [.ref q668453, .int 0, .int 0, .int 0]) := (hfr668636 q668452 hm668604 (nm_c (rn_oo he668595 he668594 (by decide)) (nm_c (rn_oa he668595 he668596) nm_n))).trans he668595
            have he668656 : F668634 q668453 = .inl (I .byte, n668454, .inl f668455) := (hfr668636 q668453 hm668605 (nm_c (rn_ao he668597 he668594) (nm_c hne668616 nm_n))).trans he668597
            have hfr668657 : rFr [q666626] P666624 F666625 F668634 := rFr_call hsb668609 hfr668614 hfr668636 (fun b hb hn => ⟨(nm_c (fun e => hn (e ▸ List.mem_cons_self)) nm_n), (nm_c (fun e => hq668515 (e ▸ hb)) (nm_c (fun e => hq668608 (e ▸ hb)) nm_n))⟩)
            have hne668658 : q668127 ≠ q668624 := fun e => hq668640.elim (fun e2 => hne668615 (e.trans e2)) (fun n => n (e ▸ hm668603))
            have hne668659 : q668453 ≠ q668624 := fun e => hq668640.elim (fun e2 => hne668616 (e.trans e2)) (fun n => n (e ▸ hm668605))
            have bo668623' : gB o668623 2 16777216 := ⟨by omega, by omega⟩
            change G _ _ _ _ _ _ _ (.ref q668494 :: _) _ _ _
            refine G_widen (cs' := (7 + (g668125.toInt - p666629.toInt) : Int).toNat + 1) (sl' := (60 + 10 * (g668125.toInt - p666629.toInt) : Int).toNat + (2 * (n668625 - n668582))) (by omega) (by omega) ?_
            refine G_widen (cs' := (8 + (g668125.toInt - p666629.toInt) : Int).toNat) (sl' := (60 + 15 * (g668125.toInt - p666629.toInt) : Int).toNat) (by omega) (by omega) ?_
            clear he668594 he668595 he668596 he668597 hm668598 bf668583 hm668600 hm668601 hm668602 hm668603 hm668604 hm668605 hm668606 hq668608 hsb668609 he668610 he668611 he668612 he668613 hfr668614 hne668615 hne668616 hsb668635 hfr668636 hq668640 hm668648; try clear r668621; try clear w668622; try clear dc668618; try clear ds668619; try clear hp668620
            refine Gw_callV (As := []) (gV_ok D I) (cp_656656_StringBuilder_toString l hl0 D I P668633 F668634 q668494 q668624 0 o668623 f668626 n668625 hm668647 hm668639 he668637 he668638 (gB_w (gBl (show Int32.toInt 0 = 0 by decide)) (by decide) (by decide)) (gB_w bo668623' (by decide) (by decide)) bf668626 (by have qa0 : Int32.toInt 0 = 0 := (by decide); have qa1 : Int32.toInt 6 = 6 := (by decide); omega) (by have qa0 : Int32.toInt 0 = 0 := (by decide); have qa1 : Int32.toInt 6 = 6 := (by decide); omega)) dr_cX14_word_274 ⟨wr_8_66, wr_1_20, wr_8_69, by decide, rfl, (Nat.le_of_ble_eq_true rfl), (Nat.le_of_ble_eq_true rfl)⟩ wr_8_67 wr_8_68 hm668647 he668637 rfl (show (8 + (g668125.toInt - p666629.toInt) : Int).toNat + 2 ≤ ((16 * (p666628.toInt - p666629.toInt)).toNat) by first | omega | decide) (show (60 + 15 * (g668125.toInt - p666629.toInt) : Int).toNat + (o668623.toInt.toNat + 4) ≤ ((160 * (p666628.toInt - p666629.toInt)).toNat) by first | omega | decide) (Nat.le_of_ble_eq_true rfl) (fun r668663 w668664 dc668660 ds668661 hp668662 => ?_) (fun _ _ _ _ _ z => z.elim)
            obtain ⟨P668672, F668673, q668665, q668666, n668667, f668668, rfl, rfl, hsb668674, hfr668675, he668676, he668677, he668678, he668679, hm668680, hq668681, hm668682, hq668683, hdc, hds, bf668668, x668669, x668670, ht668671⟩ := hp668662
            have hm668684 : q666626 ∈ P668672 := hsb668674 q666626 hm668641
            have hm668685 : q666627 ∈ P668672 := hsb668674 q666627 hm668642
            have hm668686 : q666657 ∈ P668672 := hsb668674 q666657 hm668643
            have hm668687 : q668127 ∈ P668672 := hsb668674 q668127 hm668644
            have hm668688 : q668452 ∈ P668672 := hsb668674 q668452 hm668645
            have hm668689 : q668453 ∈ P668672 := hsb668674 q668453 hm668646
            have hm668690 : q668494 ∈ P668672 := hsb668674 q668494 hm668647
            have hm668691 : q668624 ∈ P668672 := hsb668674 q668624 hm668639
            have hq668692 : q668665 ∉ P666624 := fun z => hq668681 (hsb668650 q668665 z)
            have hq668693 : q668666 ∉ P666624 := fun z => hq668683 (hsb668650 q668666 z)
            have hsb668694 : rSub P666624 P668672 := rSub_tr hsb668650 hsb668674
            have he668695 : F668673 q666626 = .inr (19, [.ref q666627, .int p666628, .int g668125, .int 6, .int p666631, .int p666632, .int p666633, .ref q668452, .int p666635, .int p666636, .int p666637, .ref qo666638, .ref qo666639, .int p666640]) := (hfr668675 q666626 hm668641 nm_n).trans he668651
            have he668696 : F668673 q666627 = .inl (I .byte, 8192, .inl f666641) := (hfr668675 q666627 hm668642 nm_n).trans he668652
            have he668697 : F668673 q666657 = .inr (1, [.ref q668127, .int 0, .int 0, .int g668126]) := (hfr668675 q666657 hm668643 nm_n).trans he668653
            have he668698 : F668673 q668127 = .inl (I .byte, n668128, .inl f668129) := (hfr668675 q668127 hm668644 nm_n).trans he668654
            have he668699 : F668673 q668452 = .inr (0, [.ref q668453, .int 0, .int 0, .int 0]) := (hfr668675 q668452 hm668645 nm_n).trans he668655
            have he668700 : F668673 q668453 = .inl (I .byte, n668454, .inl f668455) := (hfr668675 q668453 hm668646 nm_n).trans he668656
            have hfr668701 : rFr [q666626] P666624 F666625 F668673 := rFr_call hsb668650 hfr668657 hfr668675 (fun b hb hn => ⟨(nm_c (fun e => hn (e ▸ List.mem_cons_self)) nm_n), nm_n⟩)
            have hne668702 : q668452 ≠ q668665 := fun h => hq668681 (h ▸ hm668645)
            have hne668703 : q668127 ≠ q668666 := fun h => hq668683 (h ▸ hm668644)
            have hne668704 : q668453 ≠ q668666 := fun h => hq668683 (h ▸ hm668646)
            have hne668705 : q668624 ≠ q668666 := fun h => hq668683 (h ▸ hm668639)
            change G _ _ _ _ _ _ _ (.ref q668665 :: _) _ _ _
            refine G_widen (cs' := (8 + (g668125.toInt - p666629.toInt) : Int).toNat + 2) (sl' := (60 + 15 * (g668125.toInt - p666629.toInt) : Int).toNat + (o668623.toInt.toNat + 4)) (by omega) (by omega) ?_
            refine G_widen (cs' := (10 + (g668125.toInt - p666629.toInt) : Int).toNat) (sl' := (66 + 16 * (g668125.toInt - p666629.toInt) : Int).toNat) (by omega) (by omega) ?_
            clear hq668515 hne668518 he668637 he668638 hm668639 bf668626 hm668641 hm668642 hm668643 hm668644 hm668645 hm668646 hm668647 hq668649 hsb668650 he668651 he668652 he668653 he668654 he668655 he668656 hfr668657 hne668658 hne668659 hsb668674 hfr668675 he668677 he668678 hq668681 hq668683 hm668690 hm668691 hne668705; try clear r668663; try clear w668664; try clear dc668660; try clear ds668661; try clear hp668662; try clear x668670
            refine Gw_callVk (As := [.ref q668665]) (gV_ok D I) (cp_657115_String_indexOf l hl0 D I P668672 F668673 q668665 q668666 (D.2 1000 34) (D.2 1001 34) sb_34 0 0 f668668 n668667 hm668680 hm668682 he668676 he668679 (gx_sc 34 rfl rfl) (by omega) (by decide +kernel) (gB_w (gBl (show Int32.toInt 0 = 0 by decide)) (by decide) (by decide)) bf668668 (by have qa0 : Int32.toInt 0 = 0 := (by decide); have qa1 : Int32.toInt 6 = 6 := (by decide); omega) (by have qa0 : Int32.toInt 0 = 0 := (by decide); have qa1 : Int32.toInt 6 = 6 := (by decide); omega)) dr_cX14_word_277 ⟨wr_8_196, wr_1_21, wr_8_199, by decide, rfl, (Nat.le_of_ble_eq_true rfl), (Nat.le_of_ble_eq_true rfl)⟩ wr_8_197 wr_8_198 (fun _ _ _ h => ((gx_sc 34 rfl rfl) _ _ _ h).1) (show (10 + (g668125.toInt - p666629.toInt) : Int).toNat + 0 ≤ ((16 * (p666628.toInt - p666629.toInt)).toNat) by first | omega | decide) (show (66 + 16 * (g668125.toInt - p666629.toInt) : Int).toNat + 0 ≤ ((160 * (p666628.toInt - p666629.toInt)).toNat) by first | omega | decide) (Nat.le_of_ble_eq_true rfl) (fun r668709 w668710 dc668706 ds668707 hp668708 => ?_) (fun _ _ _ _ _ z => z.elim)
            obtain ⟨o668711, rfl, rfl, hdc, hds, bo668711, x668712, x668713, ht668714⟩ := hp668708
            change G _ _ _ _ _ _ _ (.int o668711 :: _) _ _ _
            refine G_widen (cs' := (10 + (g668125.toInt - p666629.toInt) : Int).toNat + 0) (sl' := (66 + 16 * (g668125.toInt - p666629.toInt) : Int).toNat + 0) (by omega) (by omega) ?_
            clear he668676 he668679 hm668680 hm668682 bf668668 hq668692 hq668693 hne668702 hne668703 hne668704; try clear r668709; try clear w668710; try clear dc668706; try clear ds668707; try clear hp668708; try clear x668713
            refine G_if_lt 288 dr_cX14_word_280 (by decide +kernel) (fun hc668715 => ?_) (fun hc668715 => ?_)
            · have r668716 : o668711.toInt < 0 := gj_lt hc668715 (show Int32.toInt 0 = 0 by decide)
              have bo668711' : gB o668711 (-2147483646) (-1) := ⟨by omega, by omega⟩
              exact G_vretA dr_cX14_word_288 rfl (show (10 + (g668125.toInt - p666629.toInt) : Int).toNat + 0 ≤ ((16 * (p666628.toInt - p666629.toInt)).toNat) by omega) (show (66 + 16 * (g668125.toInt - p666629.toInt) : Int).toNat + 0 ≤ ((160 * (p666628.toInt - p666629.toInt)).toNat) by omega) ⟨P668672, F668673, g668125, 6, p666632, q668452, (0, fun _ => 0), rfl, rfl, hsb668694, hfr668701, he668695, he668696, (by omega), (by omega), (gB_w bg668125' (by decide) (by decide)), (gB_w (gBl (show Int32.toInt 6 = 6 by decide)) (by decide) (by decide)), (by have qa0 : Int32.toInt 0 = 0 := (by decide); have qa1 : Int32.toInt 6 = 6 := (by decide); omega), (by have qa0 : Int32.toInt 0 = 0 := (by decide); have qa1 : Int32.toInt 6 = 6 := (by decide); omega), (tP_no (by decide) (by decide)), (vP_no (by decide) (by decide)), (fun R c1 c2 c3 c4 c5 c6 => c1 z666648 g668125 g668126 n668128 f668129 n668454 f668455 o668557 f668558 o668580 n668582 f668583 o668623 n668625 f668626 n668667 f668668 o668711 hz666648 bz666648 hJ666656 hx668445 ht668458 bo668557 ht668562 bo668580 ht668589 bo668623 ht668632 ht668671 bo668711 ht668714 r668716)⟩
            · have r668717 : 0 ≤ o668711.toInt := gj_nlt hc668715 (show Int32.toInt 0 = 0 by decide)
              have bo668711' : gB o668711 0 16777215 := ⟨by omega, by omega⟩
              refine G_aload_n 2 dr_cX14_word_283 rfl ?_
              refine G_iconst 1 dr_cX14_word_284 (by decide +kernel) ?_
              refine Gp_put 3 hm668684 he668695 dr_cX14_word_285 (gk_X14 D I) (Nat.le_of_ble_eq_true rfl) wr_9_39 rfl rfl rfl (Nat.le_of_ble_eq_true rfl) (fun F668718 e668719 n668720 => ?_)
              have he668721 : F668718 q666627 = .inl (I .byte, 8192, .inl f666641) := (n668720 q666627 (rn_ao he668696 he668695)).trans he668696
              have he668722 : F668718 q666657 = .inr (1, [.ref q668127, .int 0, .int 0, .int g668126]) := (n668720 q666657 (fun h => hq666670 (h ▸ hmq666626))).trans he668697
              have he668723 : F668718 q668127 = .inl (I .byte, n668128, .inl f668129) := (n668720 q668127 (fun h => hq668130 (h ▸ hmq666626))).trans he668698
              have he668724 : F668718 q668452 = .inr (0, [.ref q668453, .int 0, .int 0, .int 0]) := (n668720 q668452 (fun h => hq668475 (h ▸ hmq666626))).trans he668699
              have he668725 : F668718 q668453 = .inl (I .byte, n668454, .inl f668455) := (n668720 q668453 (fun h => hq668476 (h ▸ hmq666626))).trans he668700
              have he668726 : F668718 q666626 = .inr (19, [.ref q666627, .int p666628, .int g668125, .int 1, .int p666631, .int p666632, .int p666633, .ref q668452, .int p666635, .int p666636, .int p666637, .ref qo666638, .ref qo666639, .int p666640]) := e668719
              have hfr668727 : rFr [q666626] P666624 F666625 F668718 := rFr_put' List.mem_cons_self hfr668701 n668720
              exact G_vretA dr_cX14_word_288 rfl (show (10 + (g668125.toInt - p666629.toInt) : Int).toNat + 0 ≤ ((16 * (p666628.toInt - p666629.toInt)).toNat) by omega) (show (66 + 16 * (g668125.toInt - p666629.toInt) : Int).toNat + 0 ≤ ((160 * (p666628.toInt - p666629.toInt)).toNat) by omega) ⟨P668672, F668718, g668125, 1, p666632, q668452, (n668454, f668455), rfl, rfl, hsb668694, hfr668727, he668726, he668721, (by omega), (by omega), (gB_w bg668125' (by decide) (by decide)), (gB_w (gBl (show Int32.toInt 1 = 1 by decide)) (by decide) (by decide)), (by have qa0 : Int32.toInt 0 = 0 := (by decide); have qa1 : Int32.toInt 1 = 1 := (by decide); omega), (by have qa0 : Int32.toInt 0 = 0 := (by decide); have qa1 : Int32.toInt 1 = 1 := (by decide); omega), (tP_1 hm668688 he668724 hm668689 he668725 bf668455 (by omega) (gB_w (gBl (show Int32.toInt 0 = 0 by decide)) (by decide) (by decide)) (fun e => hq668476 (e ▸ x666645)) (fun e => hq668476 (e ▸ x666646))), (vP_no (by decide) (by decide)), (fun R c1 c2 c3 c4 c5 c6 => c2 z666648 g668125 g668126 n668128 f668129 n668454 f668455 o668557 f668558 o668580 n668582 f668583 o668623 n668625 f668626 n668667 f668668 o668711 hz666648 bz666648 hJ666656 hx668445 ht668458 bo668557 ht668562 bo668580 ht668589 bo668623 ht668632 ht668671 bo668711 ht668714 r668717)⟩
          · have r668728 : o668440.toInt ≠ 0 := gj_neq hc668443 (show Int32.toInt 0 = 0 by decide)
            have bo668440' : gB o668440 1 1 := ⟨by omega, by omega⟩
            have bi668729 : gB z668434 97 122 := isP_1 x668441 (by omega)
            refine G_aload_n 0 dr_cX14_word_212 rfl ?_
            refine G_aload_n 2 dr_cX14_word_213 rfl ?_
            refine Gp_get 0 hm668138 he668132 dr_cX14_word_214 (gk_X14 D I) (Nat.le_of_ble_eq_true rfl) wr_9_36 rfl ?_
            refine G_aload_n 2 dr_cX14_word_217 rfl ?_
            refine Gp_get 2 hm668138 he668132 dr_cX14_word_218 (gk_X14 D I) (Nat.le_of_ble_eq_true rfl) wr_9_38 rfl ?_
            refine Gp_bald 1 hm668139 he668133 dr_cX14_word_221 rfl (gB_in bg668125' (by decide) (by decide)) (G_eqi (y := z668434) hz668434.symm ?_)
            refine G_i2c dr_cX14_word_222 (G_nam fun z668730 hz668730 => ?_)
            have ez668730 : z668730.toInt = z668434.toInt := gI_i2c hz668730 (by omega) (by omega)
            have bz668730 : gB z668730 97 122 := ⟨by omega, by omega⟩
            refine Gw_callV (As := [.int z668730]) (gV_ok D I) (cp_667315_StringBuilder_append l hl0 D I P668137 F668131 q666657 q668127 z668730 0 g668126 f668129 n668128 hm668140 hm668141 he668134 he668135 (gB_w bz668730 (by decide) (by decide)) (gB_w (gBl (show Int32.toInt 0 = 0 by decide)) (by decide) (by decide)) bg668126 bf668129 (by have qa0 : Int32.toInt 0 = 0 := (by decide); have qa1 : Int32.toInt 6 = 6 := (by decide); omega) (by have qa0 : Int32.toInt 0 = 0 := (by decide); have qa1 : Int32.toInt 6 = 6 := (by decide); omega) (by have qa0 : Int32.toInt 0 = 0 := (by decide); have qa1 : Int32.toInt 6 = 6 := (by decide); omega) (by have qa0 : Int32.toInt 0 = 0 := (by decide); have qa1 : Int32.toInt 6 = 6 := (by decide); omega)) dr_cX14_word_223 ⟨wr_7_237, wr_1_20, wr_8_0, by decide, rfl, (Nat.le_of_ble_eq_true rfl), (Nat.le_of_ble_eq_true rfl)⟩ wr_7_238 wr_7_239 hm668140 he668134 rfl (show 2 + (g668126.toInt : Int).toNat + 0 + 1 ≤ ((16 * (p666628.toInt - p666629.toInt)).toNat) by first | omega | decide) (show 4 + 2 * n668128 + 0 + (4 * n668128 + 8) ≤ ((160 * (p666628.toInt - p666629.toInt)).toNat) by first | omega | decide) (Nat.le_of_ble_eq_true rfl) (fun r668734 w668735 dc668731 ds668732 hp668733 => ?_) (fun _ _ _ _ _ z => z.elim)
            obtain ⟨P668746, F668747, o668736, q668737, n668738, f668739, rfl, rfl, hsb668748, hfr668749, he668750, he668751, hm668752, hq668753, hdc, hds, bo668736, bf668739, x668740, x668741, x668742, x668743, x668744, ht668745⟩ := hp668733
            have hm668754 : q666626 ∈ P668746 := hsb668748 q666626 hm668138
            have hm668755 : q666627 ∈ P668746 := hsb668748 q666627 hm668139
            have hm668756 : q666657 ∈ P668746 := hsb668748 q666657 hm668140
            have hm668757 : q668127 ∈ P668746 := hsb668748 q668127 hm668141
            have hq668758 : q668737 ∉ P666624 := fun z => hq668753.elim (fun e => hq668130 (e ▸ z)) (fun n => n (hsb668142 _ z))
            have hsb668759 : rSub P666624 P668746 := rSub_tr hsb668142 hsb668748
            have he668760 : F668747 q666626 = .inr (19, [.ref q666627, .int p666628, .int g668125, .int 6, .int p666631, .int p666632, .int p666633, .ref qo666634, .int p666635, .int p666636, .int p666637, .ref qo666638, .ref qo666639, .int p666640]) := (hfr668749 q666626 hm668138 (nm_c (fun h => hq668130 (h ▸ hmq666626)) (nm_c (fun h => hq666670 (h ▸ hmq666626)) nm_n))).trans he668132
            have he668761 : F668747 q666627 = .inl (I .byte, 8192, .inl f666641) := (hfr668749 q666627 hm668139 (nm_c (fun h => hq668130 (h ▸ hmq666627)) (nm_c (fun h => hq666670 (h ▸ hmq666627)) nm_n))).trans he668133
            have hfr668762 : rFr [q666626] P666624 F666625 F668747 := rFr_call hsb668142 hfr668136 hfr668749 (fun b hb hn => ⟨(nm_c (fun e => hn (e ▸ List.mem_cons_self)) nm_n), (nm_c (fun e => hq668130 (e ▸ hb)) (nm_c (fun e => hq666670 (e ▸ hb)) nm_n))⟩)
            change G _ _ _ _ _ _ _ (.ref q666657 :: _) _ _ _
            refine G_widen (cs' := 2 + (g668126.toInt : Int).toNat + 0 + 1) (sl' := 4 + 2 * n668128 + 0 + (2 * (n668738 - n668128))) (by omega) (by omega) ?_
            refine G_pop dr_cX14_word_226 rfl ?_
            refine G_aload_n 2 dr_cX14_word_227 rfl ?_
            refine G_dup dr_cX14_word_228 rfl ?_
            refine Gp_get 2 hm668754 he668760 dr_cX14_word_229 (gk_X14 D I) (Nat.le_of_ble_eq_true rfl) wr_9_38 rfl ?_
            refine G_iconst 1 dr_cX14_word_232 (by decide +kernel) ?_
            refine G_iadd dr_cX14_word_233 (G_nam fun z668763 hz668763 => ?_)
            have ez668763 : z668763.toInt = g668125.toInt + 1 := by rw [gI_add hz668763 bg668125' (gBl (show Int32.toInt 1 = 1 by decide)) (by decide) (by decide), show Int32.toInt 1 = 1 from by decide]
            have bz668763 : gB z668763 1 8192 := gB_add (gI_add hz668763 bg668125' (gBl (show Int32.toInt 1 = 1 by decide)) (by decide) (by decide)) bg668125' (gBl (show Int32.toInt 1 = 1 by decide)) (by decide) (by decide)
            refine Gp_put 2 hm668754 he668760 dr_cX14_word_234 (gk_X14 D I) (Nat.le_of_ble_eq_true rfl) wr_9_38 rfl rfl rfl (Nat.le_of_ble_eq_true rfl) (fun F668764 e668765 n668766 => ?_)
            have he668767 : F668764 q666627 = .inl (I .byte, 8192, .inl f666641) := (n668766 q666627 (rn_ao he668761 he668760)).trans he668761
            have he668768 : F668764 q666657 = .inr (1, [.ref q668737, .int 0, .int 0, .int o668736]) := (n668766 q666657 (fun h => hq666670 (h ▸ hmq666626))).trans he668750
            have he668769 : F668764 q668737 = .inl (I .byte, n668738, .inl f668739) := (n668766 q668737 (fun h => hq668758 (h ▸ hmq666626))).trans he668751
            have he668770 : F668764 q666626 = .inr (19, [.ref q666627, .int p666628, .int z668763, .int 6, .int p666631, .int p666632, .int p666633, .ref qo666634, .int p666635, .int p666636, .int p666637, .ref qo666638, .ref qo666639, .int p666640]) := e668765
            have hfr668771 : rFr [q666626] P666624 F666625 F668764 := rFr_put' List.mem_cons_self hfr668762 n668766
            refine G_goto 186 dr_cX14_word_237 (by decide +kernel) ?_
            refine G_widen (cs' := 2 + (o668736.toInt : Int).toNat) (sl' := 4 + 2 * n668738) (by omega) (by omega) ?_
            exact ih186_668147 P668746 F668764 z668763 o668736 q668737 n668738 f668739 (gB_w bz668763 (by decide) (by decide)) (gB_w bo668736 (by decide) (by decide)) bf668739 hsb668759 hfr668771 hm668754 he668770 hm668755 he668767 hm668756 he668768 hm668752 he668769 hq668758 (by have qa0 : Int32.toInt 0 = 0 := (by decide); have qa1 : Int32.toInt 6 = 6 := (by decide); omega) (by have qa0 : Int32.toInt 0 = 0 := (by decide); have qa1 : Int32.toInt 6 = 6 := (by decide); omega) (by have qa0 : Int32.toInt 0 = 0 := (by decide); have qa1 : Int32.toInt 6 = 6 := (by decide); omega) (by have qa0 : Int32.toInt 0 = 0 := (by decide); have qa1 : Int32.toInt 6 = 6 := (by decide); omega) (by have qa0 : Int32.toInt 0 = 0 := (by decide); have qa1 : Int32.toInt 6 = 6 := (by decide); omega) (fun k e1 e2 e3 e4 ht => kt186_668147 k e1 e2 e3 e4 (fun R c1 c2 c3 => c3 g668125 g668126 n668128 f668129 z668434 o668440 z668730 o668736 n668738 f668739 z668763 k e1 e2 e3 e4 bg668125 bg668126 r668433 hz668434 bz668434 bo668440 ht668442 r668728 hz668730 bo668736 ht668745 ez668763 (ht R c1 c2 c3))) (by have qa0 : Int32.toInt 0 = 0 := (by decide); have qa1 : Int32.toInt 6 = 6 := (by decide); omega)
    exact hlp186_668147 (((8193 : Int) - p666629.toInt).toNat + 1) P666679 F666680 p666629 0 q666678 16 (fun _ => 0) bp666629 (gB_w (gBl (show Int32.toInt 0 = 0 by decide)) (by decide) (by decide)) (gF_w gF_0 (by decide) (by decide)) hsb666691 hfr666694 hm666687 he666692 hm666688 he666693 hm666689 he666683 hm666685 he666684 hq666690 (by have qa0 : Int32.toInt 0 = 0 := (by decide); have qa1 : Int32.toInt 6 = 6 := (by decide); omega) (by have qa0 : Int32.toInt 0 = 0 := (by decide); have qa1 : Int32.toInt 6 = 6 := (by decide); omega) (by have qa0 : Int32.toInt 0 = 0 := (by decide); have qa1 : Int32.toInt 6 = 6 := (by decide); omega) (by have qa0 : Int32.toInt 0 = 0 := (by decide); have qa1 : Int32.toInt 6 = 6 := (by decide); omega) (by have qa0 : Int32.toInt 0 = 0 := (by decide); have qa1 : Int32.toInt 6 = 6 := (by decide); omega) (fun k e1 e2 e3 e4 ht => ht) (Nat.lt_succ_self _)
  refine G_iload_n 0 dr_cX14_word_16 rfl ?_
  refine G_bipush 118 dr_cX14_word_17 (by decide +kernel) ?_
  refine G_icmp_eq 28 dr_cX14_word_19 (by decide +kernel) (fun hc668772 => ?_) (fun hc668772 => ?_)
  · have r668773 : z666648.toInt = 118 := gj_eq hc668772 (show Int32.toInt 118 = 118 by decide)
    have bz666648' : gB z666648 118 118 := ⟨by omega, by omega⟩
    refine G_aload_n 1 dr_cX14_word_28 rfl ?_
    refine Gp_get 2 hmq666626 he666653 dr_cX14_word_29 (gk_X14 D I) (Nat.le_of_ble_eq_true rfl) wr_9_38 rfl ?_
    refine G_iconst 1 dr_cX14_word_32 (by decide +kernel) ?_
    refine G_iadd dr_cX14_word_33 (G_nam fun z668774 hz668774 => ?_)
    have ez668774 : z668774.toInt = p666629.toInt + 1 := by rw [gI_add hz668774 bp666629 (gBl (show Int32.toInt 1 = 1 by decide)) (by decide) (by decide), show Int32.toInt 1 = 1 from by decide]
    have bz668774 : gB z668774 1 8193 := gB_add (gI_add hz668774 bp666629 (gBl (show Int32.toInt 1 = 1 by decide)) (by decide) (by decide)) bp666629 (gBl (show Int32.toInt 1 = 1 by decide)) (by decide) (by decide)
    refine G_aload_n 1 dr_cX14_word_34 rfl ?_
    refine Gp_get 1 hmq666626 he666653 dr_cX14_word_35 (gk_X14 D I) (Nat.le_of_ble_eq_true rfl) wr_9_37 rfl ?_
    refine G_icmp_ge 178 dr_cX14_word_38 (by decide +kernel) (fun hc668775 => ?_) (fun hc668775 => ?_)
    · have r668776 : p666628.toInt ≤ z668774.toInt := gC_le hc668775
      refine G_lv (L' := [(1, .int z666648), (0, .ref q666626)]) [0, 1] rfl ?_
      exact jn666655 (Or.inl ⟨z668774, r668773, ez668774, r668776⟩)
    · have r668777 : z668774.toInt < p666628.toInt := gC_nle hc668775
      have bz668774' : gB z668774 1 8191 := ⟨by omega, by omega⟩
      have bp666628' : gB p666628 2 8192 := ⟨by omega, by omega⟩
      refine G_aload_n 1 dr_cX14_word_41 rfl ?_
      refine Gp_get 0 hmq666626 he666653 dr_cX14_word_42 (gk_X14 D I) (Nat.le_of_ble_eq_true rfl) wr_9_36 rfl ?_
      refine G_aload_n 1 dr_cX14_word_45 rfl ?_
      refine Gp_get 2 hmq666626 he666653 dr_cX14_word_46 (gk_X14 D I) (Nat.le_of_ble_eq_true rfl) wr_9_38 rfl ?_
      refine G_iconst 1 dr_cX14_word_49 (by decide +kernel) ?_
      refine G_iadd dr_cX14_word_50 (G_eqi (y := z668774) hz668774.symm ?_)
      refine Gp_bald 1 hmq666627 he666652 dr_cX14_word_51 rfl (gB_in bz668774' (by decide) (by decide)) (G_nam fun z668778 hz668778 => ?_)
      have bz668778 : gB z668778 (-128) 127 := by rw [hz668778]; exact bf666641 _
      refine Gw_callS (As := [.int z668778]) (gV_ok D I) (cp_665041_Reader_isDigit l hl0 D I P666624 F666649 z668778 ) dr_cX14_word_52 ⟨wr_7_219, wr_1_32, wr_7_221, by decide, rfl, (Nat.le_of_ble_eq_true rfl), (Nat.le_of_ble_eq_true rfl)⟩ wr_7_220 (show 0 + 0 ≤ ((16 * (p666628.toInt - p666629.toInt)).toNat) by first | omega | decide) (show 0 + 0 ≤ ((160 * (p666628.toInt - p666629.toInt)).toNat) by first | omega | decide) (Nat.le_of_ble_eq_true rfl) (fun r668782 w668783 dc668779 ds668780 hp668781 => ?_) (fun _ _ _ _ _ z => z.elim)
      obtain ⟨o668784, rfl, rfl, hdc, hds, bo668784, x668785, ht668786⟩ := hp668781
      change G _ _ _ _ _ _ _ (.int o668784 :: _) _ _ _
      refine G_widen (cs' := 0) (sl' := 0) (by omega) (by omega) ?_
      refine G_if_eq 178 dr_cX14_word_55 (by decide +kernel) (fun hc668787 => ?_) (fun hc668787 => ?_)
      · have r668788 : o668784.toInt = 0 := gj_eq hc668787 (show Int32.toInt 0 = 0 by decide)
        have bo668784' : gB o668784 0 0 := ⟨by omega, by omega⟩
        refine G_lv (L' := [(1, .int z666648), (0, .ref q666626)]) [0, 1] rfl ?_
        exact jn666655 (Or.inr (Or.inl ⟨z668774, z668778, o668784, r668773, ez668774, r668777, hz668778, bz668778, bo668784, ht668786, r668788⟩))
      · have r668789 : o668784.toInt ≠ 0 := gj_neq hc668787 (show Int32.toInt 0 = 0 by decide)
        have bo668784' : gB o668784 1 1 := ⟨by omega, by omega⟩
        have bi668790 : gB z668778 48 57 := isP_1 x668785 (by omega)
        refine G_lconst 0 dr_cX14_word_58 rfl ?_
        refine G_lstore_n (L' := [(2, .long 0), (1, .int z666648), (0, .ref q666626)]) dr_cX14_word_59 (Nat.le_of_ble_eq_true rfl) rfl ?_
        refine G_aload_n 2 dr_cX14_word_60 rfl ?_
        refine G_dup dr_cX14_word_61 rfl ?_
        refine Gp_get 2 hmq666626 he666653 dr_cX14_word_62 (gk_X14 D I) (Nat.le_of_ble_eq_true rfl) wr_9_38 rfl ?_
        refine G_iconst 1 dr_cX14_word_65 (by decide +kernel) ?_
        refine G_iadd dr_cX14_word_66 (G_eqi (y := z668774) hz668774.symm ?_)
        refine Gp_put 2 hmq666626 he666653 dr_cX14_word_67 (gk_X14 D I) (Nat.le_of_ble_eq_true rfl) wr_9_38 rfl rfl rfl (Nat.le_of_ble_eq_true rfl) (fun F668791 e668792 n668793 => ?_)
        have he668794 : F668791 q666627 = .inl (I .byte, 8192, .inl f666641) := (n668793 q666627 (rn_ao he666652 he666653)).trans he666652
        have he668795 : F668791 q666626 = .inr (19, [.ref q666627, .int p666628, .int z668774, .int 6, .int p666631, .int p666632, .int p666633, .ref qo666634, .int p666635, .int p666636, .int p666637, .ref qo666638, .ref qo666639, .int p666640]) := e668792
        have hfr668796 : rFr [q666626] P666624 F666625 F668791 := rFr_put' List.mem_cons_self hfr666654 n668793
        have hlp70_668947 : ∀ (n70_668947 : Nat) (F668941 : Nat → va_E) (gl668939 : Int64) (g668940 : Int32), gB g668940 0 8192 → rFr [q666626] P666624 F666625 F668941 → F668941 q666626 = .inr (19, [.ref q666627, .int p666628, .int g668940, .int 6, .int p666631, .int p666632, .int p666633, .ref qo666634, .int p666635, .int p666636, .int p666637, .ref qo666638, .ref qo666639, .int p666640]) → F668941 q666627 = .inl (I .byte, 8192, .inl f666641) → LG gl668939 0 1000000 → p666629.toInt < g668940.toInt → g668940.toInt ≤ p666628.toInt → (∀ (k : Nat) (e1 : Int64) (e2 : Int32), tl_RReader_word_70 p666628 f666641 gl668939 g668940 k e1 e2 → tl_RReader_word_70 p666628 f666641 (0 : Int64) z668774 k e1 e2) → ((8193 : Int) - g668940.toInt).toNat < n70_668947 → G (gV D I) l (gRm 6 132 ((16 * (p666628.toInt - p666629.toInt)).toNat) ((160 * (p666628.toInt - p666629.toInt)).toNat)) (gMA (gV D I) (pp_666647_Reader_word D I P666624 F666625 q666626 q666627 p666628 p666629 p666630 p666631 p666632 p666633 qo666634 p666635 p666636 p666637 qo666638 qo666639 p666640 f666641) gNA ((16 * (p666628.toInt - p666629.toInt)).toNat) ((160 * (p666628.toInt - p666629.toInt)).toNat)) ky_666647_Reader_word 70 [(2, .long gl668939), (1, .int z666648), (0, .ref q666626)] [] (va_pl P666624 F668941) 0 0 := by
          intro n70_668947
          induction n70_668947 with
          | zero => intro F668941 gl668939 g668940 bg668940 hfr668944 he668942 he668943 x668945 x668946 x668947 kt70_668947 hm70_668947; exact absurd hm70_668947 (Nat.not_lt_zero _)
          | succ n70_668947 ih70_668947 =>
            intro F668941 gl668939 g668940 bg668940 hfr668944 he668942 he668943 x668945 x668946 x668947 kt70_668947 hm70_668947
            refine G_aload_n 2 dr_cX14_word_70 rfl ?_
            refine Gp_get 2 hmq666626 he668942 dr_cX14_word_71 (gk_X14 D I) (Nat.le_of_ble_eq_true rfl) wr_9_38 rfl ?_
            refine G_aload_n 2 dr_cX14_word_74 rfl ?_
            refine Gp_get 1 hmq666626 he668942 dr_cX14_word_75 (gk_X14 D I) (Nat.le_of_ble_eq_true rfl) wr_9_37 rfl ?_
            refine G_icmp_ge 136 dr_cX14_word_78 (by decide +kernel) (fun hc668948 => ?_) (fun hc668948 => ?_)
            · have r668949 : p666628.toInt ≤ g668940.toInt := gC_le hc668948
              have bg668940' : gB g668940 2 8192 := ⟨by omega, by omega⟩
              have hx668950 : tl_RReader_word_70 p666628 f666641 (0 : Int64) z668774 136 gl668939 g668940 := kt70_668947 136 gl668939 g668940 (fun R c1 c2 c3 => c1 gl668939 g668940 bg668940 r668949)
              clear he666652 he666653 hfr666654 jn666655 bz668774 bo668784' he668794 he668795 hfr668796; try clear r668782; try clear w668783; try clear dc668779; try clear ds668780; try clear hp668781; try clear x668785
              refine G_aload_n 2 dr_cX14_word_136 rfl ?_
              refine G_lload_n 0 dr_cX14_word_137 rfl ?_
              refine G_l2i dr_cX14_word_138 (G_nam fun z668951 hz668951 => ?_)
              have bz668951 : gB z668951 (-2147483648) 2147483647 := gB_any z668951
              refine Gp_put 5 hmq666626 he668942 dr_cX14_word_139 (gk_X14 D I) (Nat.le_of_ble_eq_true rfl) wr_9_41 rfl rfl rfl (Nat.le_of_ble_eq_true rfl) (fun F668952 e668953 n668954 => ?_)
              have he668955 : F668952 q666627 = .inl (I .byte, 8192, .inl f666641) := (n668954 q666627 (rn_ao he668943 he668942)).trans he668943
              have he668956 : F668952 q666626 = .inr (19, [.ref q666627, .int p666628, .int g668940, .int 6, .int p666631, .int z668951, .int p666633, .ref qo666634, .int p666635, .int p666636, .int p666637, .ref qo666638, .ref qo666639, .int p666640]) := e668953
              have hfr668957 : rFr [q666626] P666624 F666625 F668952 := rFr_put' List.mem_cons_self hfr668944 n668954
              refine G_lload_n 0 dr_cX14_word_142 rfl ?_
              refine G_iload_n 1 dr_cX14_word_143 rfl ?_
              refine G_bipush 118 dr_cX14_word_144 (by decide +kernel) ?_
              refine G_icmp_ne 155 dr_cX14_word_146 (by decide +kernel) (fun hc => absurd (show False by have := gj_neq hc (show Int32.toInt 118 = 118 by decide); omega) not_false) (fun _ => ?_)
              refine G_ldc2 99 dr_cX14_word_149 wr_7_233 ?_
              refine G_goto 158 dr_cX14_word_152 (by decide +kernel) ?_
              refine G_lcmp dr_cX14_word_158 (G_nam fun z668958 hz668958 => ?_)
              have bz668958 : gB z668958 (-1) 1 := gB_cmp hz668958
              refine G_if_gt 177 dr_cX14_word_159 (by decide +kernel) (fun hc668959 => ?_) (fun hc668959 => ?_)
              · have r668960 : 0 < z668958.toInt := gj_ltL hc668959 (show Int32.toInt 0 = 0 by decide)
                have bz668958' : gB z668958 1 1 := ⟨by omega, by omega⟩
                have lhc668959 := gC_cmpS hz668958 (by omega)
                exact G_vretA dr_cX14_word_177 rfl (show 0 ≤ ((16 * (p666628.toInt - p666629.toInt)).toNat) by omega) (show 0 ≤ ((160 * (p666628.toInt - p666629.toInt)).toNat) by omega) ⟨P666624, F668952, g668940, 6, z668951, qo666634, (0, fun _ => 0), rfl, rfl, (rSub_rf (P := P666624)), hfr668957, he668956, he668955, (by omega), (by omega), (gB_w bg668940' (by decide) (by decide)), (gB_w (gBl (show Int32.toInt 6 = 6 by decide)) (by decide) (by decide)), (by have qa0 : Int32.toInt 6 = 6 := (by decide); omega), (by have qa0 : Int32.toInt 6 = 6 := (by decide); omega), (tP_no (by decide) (by decide)), (vP_no (by decide) (by decide)), (fun R c1 c2 c3 c4 c5 c6 => c3 z666648 z668774 z668778 o668784 gl668939 g668940 z668951 z668958 hz666648 bz666648 r668773 ez668774 r668777 hz668778 bz668778 bo668784 ht668786 r668789 hx668950 hz668951 hz668958 r668960)⟩
              · have r668961 : z668958.toInt ≤ 0 := gj_nltL hc668959 (show Int32.toInt 0 = 0 by decide)
                have bz668958' : gB z668958 (-1) 0 := ⟨by omega, by omega⟩
                refine G_aload_n 2 dr_cX14_word_162 rfl ?_
                refine G_iload_n 1 dr_cX14_word_163 rfl ?_
                refine G_bipush 118 dr_cX14_word_164 (by decide +kernel) ?_
                refine G_icmp_ne 173 dr_cX14_word_166 (by decide +kernel) (fun hc => absurd (show False by have := gj_neq hc (show Int32.toInt 118 = 118 by decide); omega) not_false) (fun _ => ?_)
                refine G_iconst 2 dr_cX14_word_169 (by decide +kernel) ?_
                refine G_goto 174 dr_cX14_word_170 (by decide +kernel) ?_
                refine Gp_put 3 hmq666626 he668956 dr_cX14_word_174 (gk_X14 D I) (Nat.le_of_ble_eq_true rfl) wr_9_39 rfl rfl rfl (Nat.le_of_ble_eq_true rfl) (fun F668962 e668963 n668964 => ?_)
                have he668965 : F668962 q666627 = .inl (I .byte, 8192, .inl f666641) := (n668964 q666627 (rn_ao he668955 he668956)).trans he668955
                have he668966 : F668962 q666626 = .inr (19, [.ref q666627, .int p666628, .int g668940, .int 2, .int p666631, .int z668951, .int p666633, .ref qo666634, .int p666635, .int p666636, .int p666637, .ref qo666638, .ref qo666639, .int p666640]) := e668963
                have hfr668967 : rFr [q666626] P666624 F666625 F668962 := rFr_put' List.mem_cons_self hfr668957 n668964
                exact G_vretA dr_cX14_word_177 rfl (show 0 ≤ ((16 * (p666628.toInt - p666629.toInt)).toNat) by omega) (show 0 ≤ ((160 * (p666628.toInt - p666629.toInt)).toNat) by omega) ⟨P666624, F668962, g668940, 2, z668951, qo666634, (0, fun _ => 0), rfl, rfl, (rSub_rf (P := P666624)), hfr668967, he668966, he668965, (by omega), (by omega), (gB_w bg668940' (by decide) (by decide)), (gB_w (gBl (show Int32.toInt 2 = 2 by decide)) (by decide) (by decide)), (by have qa0 : Int32.toInt 2 = 2 := (by decide); omega), (by have qa0 : Int32.toInt 2 = 2 := (by decide); omega), (tP_no (by decide) (by decide)), (vP_r (by assumption) (by assumption) (by assumption) (by omega)), (fun R c1 c2 c3 c4 c5 c6 => c4 z666648 z668774 z668778 o668784 gl668939 g668940 z668951 z668958 hz666648 bz666648 r668773 ez668774 r668777 hz668778 bz668778 bo668784 ht668786 r668789 hx668950 hz668951 hz668958 r668961)⟩
            · have r668968 : g668940.toInt < p666628.toInt := gC_nle hc668948
              have bg668940' : gB g668940 0 8191 := ⟨by omega, by omega⟩
              refine G_aload_n 2 dr_cX14_word_81 rfl ?_
              refine Gp_get 0 hmq666626 he668942 dr_cX14_word_82 (gk_X14 D I) (Nat.le_of_ble_eq_true rfl) wr_9_36 rfl ?_
              refine G_aload_n 2 dr_cX14_word_85 rfl ?_
              refine Gp_get 2 hmq666626 he668942 dr_cX14_word_86 (gk_X14 D I) (Nat.le_of_ble_eq_true rfl) wr_9_38 rfl ?_
              refine Gp_bald 1 hmq666627 he668943 dr_cX14_word_89 rfl (gB_in bg668940' (by decide) (by decide)) (G_nam fun z668969 hz668969 => ?_)
              have bz668969 : gB z668969 (-128) 127 := by rw [hz668969]; exact bf666641 _
              refine Gw_callS (As := [.int z668969]) (gV_ok D I) (cp_665041_Reader_isDigit l hl0 D I P666624 F668941 z668969 ) dr_cX14_word_90 ⟨wr_7_219, wr_1_32, wr_7_221, by decide, rfl, (Nat.le_of_ble_eq_true rfl), (Nat.le_of_ble_eq_true rfl)⟩ wr_7_220 (show 0 + 0 ≤ ((16 * (p666628.toInt - p666629.toInt)).toNat) by first | omega | decide) (show 0 + 0 ≤ ((160 * (p666628.toInt - p666629.toInt)).toNat) by first | omega | decide) (Nat.le_of_ble_eq_true rfl) (fun r668973 w668974 dc668970 ds668971 hp668972 => ?_) (fun _ _ _ _ _ z => z.elim)
              obtain ⟨o668975, rfl, rfl, hdc, hds, bo668975, x668976, ht668977⟩ := hp668972
              change G _ _ _ _ _ _ _ (.int o668975 :: _) _ _ _
              refine G_widen (cs' := 0) (sl' := 0) (by omega) (by omega) ?_
              refine G_if_eq 136 dr_cX14_word_93 (by decide +kernel) (fun hc668978 => ?_) (fun hc668978 => ?_)
              · have r668979 : o668975.toInt = 0 := gj_eq hc668978 (show Int32.toInt 0 = 0 by decide)
                have bo668975' : gB o668975 0 0 := ⟨by omega, by omega⟩
                have hx668980 : tl_RReader_word_70 p666628 f666641 (0 : Int64) z668774 136 gl668939 g668940 := kt70_668947 136 gl668939 g668940 (fun R c1 c2 c3 => c2 gl668939 g668940 z668969 o668975 bg668940 r668968 hz668969 bz668969 bo668975 ht668977 r668979)
                clear he666652 he666653 hfr666654 jn666655 bz668774 bo668784' he668794 he668795 hfr668796 bo668975 ht668977 bo668975'; try clear r668782; try clear w668783; try clear dc668779; try clear ds668780; try clear hp668781; try clear x668785; try clear r668973; try clear w668974; try clear dc668970; try clear ds668971; try clear hp668972; try clear x668976; try clear r668979
                refine G_aload_n 2 dr_cX14_word_136 rfl ?_
                refine G_lload_n 0 dr_cX14_word_137 rfl ?_
                refine G_l2i dr_cX14_word_138 (G_nam fun z668981 hz668981 => ?_)
                have bz668981 : gB z668981 (-2147483648) 2147483647 := gB_any z668981
                refine Gp_put 5 hmq666626 he668942 dr_cX14_word_139 (gk_X14 D I) (Nat.le_of_ble_eq_true rfl) wr_9_41 rfl rfl rfl (Nat.le_of_ble_eq_true rfl) (fun F668982 e668983 n668984 => ?_)
                have he668985 : F668982 q666627 = .inl (I .byte, 8192, .inl f666641) := (n668984 q666627 (rn_ao he668943 he668942)).trans he668943
                have he668986 : F668982 q666626 = .inr (19, [.ref q666627, .int p666628, .int g668940, .int 6, .int p666631, .int z668981, .int p666633, .ref qo666634, .int p666635, .int p666636, .int p666637, .ref qo666638, .ref qo666639, .int p666640]) := e668983
                have hfr668987 : rFr [q666626] P666624 F666625 F668982 := rFr_put' List.mem_cons_self hfr668944 n668984
                refine G_lload_n 0 dr_cX14_word_142 rfl ?_
                refine G_iload_n 1 dr_cX14_word_143 rfl ?_
                refine G_bipush 118 dr_cX14_word_144 (by decide +kernel) ?_
                refine G_icmp_ne 155 dr_cX14_word_146 (by decide +kernel) (fun hc => absurd (show False by have := gj_neq hc (show Int32.toInt 118 = 118 by decide); omega) not_false) (fun _ => ?_)
                refine G_ldc2 99 dr_cX14_word_149 wr_7_233 ?_
                refine G_goto 158 dr_cX14_word_152 (by decide +kernel) ?_
                refine G_lcmp dr_cX14_word_158 (G_nam fun z668988 hz668988 => ?_)
                have bz668988 : gB z668988 (-1) 1 := gB_cmp hz668988
                refine G_if_gt 177 dr_cX14_word_159 (by decide +kernel) (fun hc668989 => ?_) (fun hc668989 => ?_)
                · have r668990 : 0 < z668988.toInt := gj_ltL hc668989 (show Int32.toInt 0 = 0 by decide)
                  have bz668988' : gB z668988 1 1 := ⟨by omega, by omega⟩
                  have lhc668989 := gC_cmpS hz668988 (by omega)
                  exact G_vretA dr_cX14_word_177 rfl (show 0 ≤ ((16 * (p666628.toInt - p666629.toInt)).toNat) by omega) (show 0 ≤ ((160 * (p666628.toInt - p666629.toInt)).toNat) by omega) ⟨P666624, F668982, g668940, 6, z668981, qo666634, (0, fun _ => 0), rfl, rfl, (rSub_rf (P := P666624)), hfr668987, he668986, he668985, (by omega), (by omega), (gB_w bg668940' (by decide) (by decide)), (gB_w (gBl (show Int32.toInt 6 = 6 by decide)) (by decide) (by decide)), (by have qa0 : Int32.toInt 6 = 6 := (by decide); omega), (by have qa0 : Int32.toInt 6 = 6 := (by decide); omega), (tP_no (by decide) (by decide)), (vP_no (by decide) (by decide)), (fun R c1 c2 c3 c4 c5 c6 => c3 z666648 z668774 z668778 o668784 gl668939 g668940 z668981 z668988 hz666648 bz666648 r668773 ez668774 r668777 hz668778 bz668778 bo668784 ht668786 r668789 hx668980 hz668981 hz668988 r668990)⟩
                · have r668991 : z668988.toInt ≤ 0 := gj_nltL hc668989 (show Int32.toInt 0 = 0 by decide)
                  have bz668988' : gB z668988 (-1) 0 := ⟨by omega, by omega⟩
                  refine G_aload_n 2 dr_cX14_word_162 rfl ?_
                  refine G_iload_n 1 dr_cX14_word_163 rfl ?_
                  refine G_bipush 118 dr_cX14_word_164 (by decide +kernel) ?_
                  refine G_icmp_ne 173 dr_cX14_word_166 (by decide +kernel) (fun hc => absurd (show False by have := gj_neq hc (show Int32.toInt 118 = 118 by decide); omega) not_false) (fun _ => ?_)
                  refine G_iconst 2 dr_cX14_word_169 (by decide +kernel) ?_
                  refine G_goto 174 dr_cX14_word_170 (by decide +kernel) ?_
                  refine Gp_put 3 hmq666626 he668986 dr_cX14_word_174 (gk_X14 D I) (Nat.le_of_ble_eq_true rfl) wr_9_39 rfl rfl rfl (Nat.le_of_ble_eq_true rfl) (fun F668992 e668993 n668994 => ?_)
                  have he668995 : F668992 q666627 = .inl (I .byte, 8192, .inl f666641) := (n668994 q666627 (rn_ao he668985 he668986)).trans he668985
                  have he668996 : F668992 q666626 = .inr (19, [.ref q666627, .int p666628, .int g668940, .int 2, .int p666631, .int z668981, .int p666633, .ref qo666634, .int p666635, .int p666636, .int p666637, .ref qo666638, .ref qo666639, .int p666640]) := e668993
                  have hfr668997 : rFr [q666626] P666624 F666625 F668992 := rFr_put' List.mem_cons_self hfr668987 n668994
                  exact G_vretA dr_cX14_word_177 rfl (show 0 ≤ ((16 * (p666628.toInt - p666629.toInt)).toNat) by omega) (show 0 ≤ ((160 * (p666628.toInt - p666629.toInt)).toNat) by omega) ⟨P666624, F668992, g668940, 2, z668981, qo666634, (0, fun _ => 0), rfl, rfl, (rSub_rf (P := P666624)), hfr668997, he668996, he668995, (by omega), (by omega), (gB_w bg668940' (by decide) (by decide)), (gB_w (gBl (show Int32.toInt 2 = 2 by decide)) (by decide) (by decide)), (by have qa0 : Int32.toInt 2 = 2 := (by decide); omega), (by have qa0 : Int32.toInt 2 = 2 := (by decide); omega), (tP_no (by decide) (by decide)), (vP_r (by assumption) (by assumption) (by assumption) (by omega)), (fun R c1 c2 c3 c4 c5 c6 => c4 z666648 z668774 z668778 o668784 gl668939 g668940 z668981 z668988 hz666648 bz666648 r668773 ez668774 r668777 hz668778 bz668778 bo668784 ht668786 r668789 hx668980 hz668981 hz668988 r668991)⟩
              · have r668998 : o668975.toInt ≠ 0 := gj_neq hc668978 (show Int32.toInt 0 = 0 by decide)
                have bo668975' : gB o668975 1 1 := ⟨by omega, by omega⟩
                have bi668999 : gB z668969 48 57 := isP_1 x668976 (by omega)
                refine G_lload_n 0 dr_cX14_word_96 rfl ?_
                refine G_ldc2 10 dr_cX14_word_97 wr_7_229 ?_
                refine G_lmul dr_cX14_word_100 (G_namL fun u669000 hu669000 => ?_)
                refine G_aload_n 2 dr_cX14_word_101 rfl ?_
                refine Gp_get 0 hmq666626 he668942 dr_cX14_word_102 (gk_X14 D I) (Nat.le_of_ble_eq_true rfl) wr_9_36 rfl ?_
                refine G_aload_n 2 dr_cX14_word_105 rfl ?_
                refine Gp_get 2 hmq666626 he668942 dr_cX14_word_106 (gk_X14 D I) (Nat.le_of_ble_eq_true rfl) wr_9_38 rfl ?_
                refine Gp_bald 1 hmq666627 he668943 dr_cX14_word_109 rfl (gB_in bg668940' (by decide) (by decide)) (G_eqi (y := z668969) hz668969.symm ?_)
                refine G_i2l dr_cX14_word_110 (G_namL fun u669001 hu669001 => ?_)
                refine G_ladd dr_cX14_word_111 (G_namL fun u669002 hu669002 => ?_)
                refine G_ldc2 48 dr_cX14_word_112 wr_7_230 ?_
                refine G_lsub dr_cX14_word_115 (G_namL fun u669003 hu669003 => ?_)
                refine G_ldc2 1000000 dr_cX14_word_116 wr_7_231 ?_
                refine Gw_callS (As := [.long u669003, .long 1000000]) (gV_ok D I) (cp_665095_Math_min l hl0 D I P666624 F668941 u669003 1000000 ) dr_cX14_word_119 ⟨wr_7_232, wr_1_6, wr_3_40, by decide, rfl, (Nat.le_of_ble_eq_true rfl), (Nat.le_of_ble_eq_true rfl)⟩ wr_3_39 (show 0 + 0 ≤ ((16 * (p666628.toInt - p666629.toInt)).toNat) by first | omega | decide) (show 0 + 0 ≤ ((160 * (p666628.toInt - p666629.toInt)).toNat) by first | omega | decide) (Nat.le_of_ble_eq_true rfl) (fun r669007 w669008 dc669004 ds669005 hp669006 => ?_) (fun _ _ _ _ _ z => z.elim)
                obtain ⟨ol669009, rfl, rfl, hdc, hds, x669010, ht669011⟩ := hp669006
                change G _ _ _ _ _ _ _ (.long ol669009 :: _) _ _ _
                refine G_widen (cs' := 0) (sl' := 0) (by omega) (by omega) ?_
                refine G_lstore_n (L' := [(2, .long ol669009), (1, .int z666648), (0, .ref q666626)]) dr_cX14_word_122 (Nat.le_of_ble_eq_true rfl) rfl ?_
                refine G_aload_n 2 dr_cX14_word_123 rfl ?_
                refine G_dup dr_cX14_word_124 rfl ?_
                refine Gp_get 2 hmq666626 he668942 dr_cX14_word_125 (gk_X14 D I) (Nat.le_of_ble_eq_true rfl) wr_9_38 rfl ?_
                refine G_iconst 1 dr_cX14_word_128 (by decide +kernel) ?_
                refine G_iadd dr_cX14_word_129 (G_nam fun z669012 hz669012 => ?_)
                have ez669012 : z669012.toInt = g668940.toInt + 1 := by rw [gI_add hz669012 bg668940' (gBl (show Int32.toInt 1 = 1 by decide)) (by decide) (by decide), show Int32.toInt 1 = 1 from by decide]
                have bz669012 : gB z669012 1 8192 := gB_add (gI_add hz669012 bg668940' (gBl (show Int32.toInt 1 = 1 by decide)) (by decide) (by decide)) bg668940' (gBl (show Int32.toInt 1 = 1 by decide)) (by decide) (by decide)
                refine Gp_put 2 hmq666626 he668942 dr_cX14_word_130 (gk_X14 D I) (Nat.le_of_ble_eq_true rfl) wr_9_38 rfl rfl rfl (Nat.le_of_ble_eq_true rfl) (fun F669013 e669014 n669015 => ?_)
                have he669016 : F669013 q666627 = .inl (I .byte, 8192, .inl f666641) := (n669015 q666627 (rn_ao he668943 he668942)).trans he668943
                have he669017 : F669013 q666626 = .inr (19, [.ref q666627, .int p666628, .int z669012, .int 6, .int p666631, .int p666632, .int p666633, .ref qo666634, .int p666635, .int p666636, .int p666637, .ref qo666638, .ref qo666639, .int p666640]) := e669014
                have hfr669018 : rFr [q666626] P666624 F666625 F669013 := rFr_put' List.mem_cons_self hfr668944 n669015
                refine G_goto 70 dr_cX14_word_133 (by decide +kernel) ?_
                exact ih70_668947 F669013 ol669009 z669012 (gB_w bz669012 (by decide) (by decide)) hfr669018 he669017 he669016 (lgSt (by assumption) (by assumption) (by assumption) (by assumption) (by assumption) (by assumption) (by omega) (by omega)) (by have qa0 : Int32.toInt 6 = 6 := (by decide); omega) (by have qa0 : Int32.toInt 6 = 6 := (by decide); omega) (fun k e1 e2 ht => kt70_668947 k e1 e2 (fun R c1 c2 c3 => c3 gl668939 g668940 z668969 o668975 u669000 u669001 u669002 u669003 ol669009 z669012 k e1 e2 bg668940 r668968 hz668969 bz668969 bo668975 ht668977 r668998 hu669000 hu669001 hu669002 hu669003 ht669011 ez669012 (ht R c1 c2 c3))) (by have qa0 : Int32.toInt 6 = 6 := (by decide); omega)
        exact hlp70_668947 (((8193 : Int) - z668774.toInt).toNat + 1) F668791 0 z668774 (gB_w bz668774' (by decide) (by decide)) hfr668796 he668795 he668794 LG_0 (by have qa0 : Int32.toInt 6 = 6 := (by decide); omega) (by have qa0 : Int32.toInt 6 = 6 := (by decide); omega) (fun k e1 e2 ht => ht) (Nat.lt_succ_self _)
  · have r669019 : z666648.toInt ≠ 118 := gj_neq hc668772 (show Int32.toInt 118 = 118 by decide)
    refine G_iload_n 0 dr_cX14_word_22 rfl ?_
    refine G_bipush 98 dr_cX14_word_23 (by decide +kernel) ?_
    refine G_icmp_ne 178 dr_cX14_word_25 (by decide +kernel) (fun hc669020 => ?_) (fun hc669020 => ?_)
    · have r669021 : z666648.toInt ≠ 98 := gj_neq hc669020 (show Int32.toInt 98 = 98 by decide)
      refine G_lv (L' := [(1, .int z666648), (0, .ref q666626)]) [0, 1] rfl ?_
      exact jn666655 (Or.inr (Or.inr (Or.inl ⟨r669019, r669021⟩)))
    · have r669022 : z666648.toInt = 98 := gj_eq hc669020 (show Int32.toInt 98 = 98 by decide)
      have bz666648' : gB z666648 98 98 := ⟨by omega, by omega⟩
      refine G_aload_n 1 dr_cX14_word_28 rfl ?_
      refine Gp_get 2 hmq666626 he666653 dr_cX14_word_29 (gk_X14 D I) (Nat.le_of_ble_eq_true rfl) wr_9_38 rfl ?_
      refine G_iconst 1 dr_cX14_word_32 (by decide +kernel) ?_
      refine G_iadd dr_cX14_word_33 (G_nam fun z669023 hz669023 => ?_)
      have ez669023 : z669023.toInt = p666629.toInt + 1 := by rw [gI_add hz669023 bp666629 (gBl (show Int32.toInt 1 = 1 by decide)) (by decide) (by decide), show Int32.toInt 1 = 1 from by decide]
      have bz669023 : gB z669023 1 8193 := gB_add (gI_add hz669023 bp666629 (gBl (show Int32.toInt 1 = 1 by decide)) (by decide) (by decide)) bp666629 (gBl (show Int32.toInt 1 = 1 by decide)) (by decide) (by decide)
      refine G_aload_n 1 dr_cX14_word_34 rfl ?_
      refine Gp_get 1 hmq666626 he666653 dr_cX14_word_35 (gk_X14 D I) (Nat.le_of_ble_eq_true rfl) wr_9_37 rfl ?_
      refine G_icmp_ge 178 dr_cX14_word_38 (by decide +kernel) (fun hc669024 => ?_) (fun hc669024 => ?_)
      · have r669025 : p666628.toInt ≤ z669023.toInt := gC_le hc669024
        refine G_lv (L' := [(1, .int z666648), (0, .ref q666626)]) [0, 1] rfl ?_
        exact jn666655 (Or.inr (Or.inr (Or.inr (Or.inl ⟨z669023, r669019, r669022, ez669023, r669025⟩))))
      · have r669026 : z669023.toInt < p666628.toInt := gC_nle hc669024
        have bz669023' : gB z669023 1 8191 := ⟨by omega, by omega⟩
        have bp666628' : gB p666628 2 8192 := ⟨by omega, by omega⟩
        refine G_aload_n 1 dr_cX14_word_41 rfl ?_
        refine Gp_get 0 hmq666626 he666653 dr_cX14_word_42 (gk_X14 D I) (Nat.le_of_ble_eq_true rfl) wr_9_36 rfl ?_
        refine G_aload_n 1 dr_cX14_word_45 rfl ?_
        refine Gp_get 2 hmq666626 he666653 dr_cX14_word_46 (gk_X14 D I) (Nat.le_of_ble_eq_true rfl) wr_9_38 rfl ?_
        refine G_iconst 1 dr_cX14_word_49 (by decide +kernel) ?_
        refine G_iadd dr_cX14_word_50 (G_eqi (y := z669023) hz669023.symm ?_)
        refine Gp_bald 1 hmq666627 he666652 dr_cX14_word_51 rfl (gB_in bz669023' (by decide) (by decide)) (G_nam fun z669027 hz669027 => ?_)
        have bz669027 : gB z669027 (-128) 127 := by rw [hz669027]; exact bf666641 _
        refine Gw_callS (As := [.int z669027]) (gV_ok D I) (cp_665041_Reader_isDigit l hl0 D I P666624 F666649 z669027 ) dr_cX14_word_52 ⟨wr_7_219, wr_1_32, wr_7_221, by decide, rfl, (Nat.le_of_ble_eq_true rfl), (Nat.le_of_ble_eq_true rfl)⟩ wr_7_220 (show 0 + 0 ≤ ((16 * (p666628.toInt - p666629.toInt)).toNat) by first | omega | decide) (show 0 + 0 ≤ ((160 * (p666628.toInt - p666629.toInt)).toNat) by first | omega | decide) (Nat.le_of_ble_eq_true rfl) (fun r669031 w669032 dc669028 ds669029 hp669030 => ?_) (fun _ _ _ _ _ z => z.elim)
        obtain ⟨o669033, rfl, rfl, hdc, hds, bo669033, x669034, ht669035⟩ := hp669030
        change G _ _ _ _ _ _ _ (.int o669033 :: _) _ _ _
        refine G_widen (cs' := 0) (sl' := 0) (by omega) (by omega) ?_
        refine G_if_eq 178 dr_cX14_word_55 (by decide +kernel) (fun hc669036 => ?_) (fun hc669036 => ?_)
        · have r669037 : o669033.toInt = 0 := gj_eq hc669036 (show Int32.toInt 0 = 0 by decide)
          have bo669033' : gB o669033 0 0 := ⟨by omega, by omega⟩
          refine G_lv (L' := [(1, .int z666648), (0, .ref q666626)]) [0, 1] rfl ?_
          exact jn666655 (Or.inr (Or.inr (Or.inr (Or.inr (⟨z669023, z669027, o669033, r669019, r669022, ez669023, r669026, hz669027, bz669027, bo669033, ht669035, r669037⟩)))))
        · have r669038 : o669033.toInt ≠ 0 := gj_neq hc669036 (show Int32.toInt 0 = 0 by decide)
          have bo669033' : gB o669033 1 1 := ⟨by omega, by omega⟩
          have bi669039 : gB z669027 48 57 := isP_1 x669034 (by omega)
          refine G_lconst 0 dr_cX14_word_58 rfl ?_
          refine G_lstore_n (L' := [(2, .long 0), (1, .int z666648), (0, .ref q666626)]) dr_cX14_word_59 (Nat.le_of_ble_eq_true rfl) rfl ?_
          refine G_aload_n 2 dr_cX14_word_60 rfl ?_
          refine G_dup dr_cX14_word_61 rfl ?_
          refine Gp_get 2 hmq666626 he666653 dr_cX14_word_62 (gk_X14 D I) (Nat.le_of_ble_eq_true rfl) wr_9_38 rfl ?_
          refine G_iconst 1 dr_cX14_word_65 (by decide +kernel) ?_
          refine G_iadd dr_cX14_word_66 (G_eqi (y := z669023) hz669023.symm ?_)
          refine Gp_put 2 hmq666626 he666653 dr_cX14_word_67 (gk_X14 D I) (Nat.le_of_ble_eq_true rfl) wr_9_38 rfl rfl rfl (Nat.le_of_ble_eq_true rfl) (fun F669040 e669041 n669042 => ?_)
          have he669043 : F669040 q666627 = .inl (I .byte, 8192, .inl f666641) := (n669042 q666627 (rn_ao he666652 he666653)).trans he666652
          have he669044 : F669040 q666626 = .inr (19, [.ref q666627, .int p666628, .int z669023, .int 6, .int p666631, .int p666632, .int p666633, .ref qo666634, .int p666635, .int p666636, .int p666637, .ref qo666638, .ref qo666639, .int p666640]) := e669041
          have hfr669045 : rFr [q666626] P666624 F666625 F669040 := rFr_put' List.mem_cons_self hfr666654 n669042
          have hlp70_669196 : ∀ (n70_669196 : Nat) (F669190 : Nat → va_E) (gl669188 : Int64) (g669189 : Int32), gB g669189 0 8192 → rFr [q666626] P666624 F666625 F669190 → F669190 q666626 = .inr (19, [.ref q666627, .int p666628, .int g669189, .int 6, .int p666631, .int p666632, .int p666633, .ref qo666634, .int p666635, .int p666636, .int p666637, .ref qo666638, .ref qo666639, .int p666640]) → F669190 q666627 = .inl (I .byte, 8192, .inl f666641) → LG gl669188 0 1000000 → p666629.toInt < g669189.toInt → g669189.toInt ≤ p666628.toInt → (∀ (k : Nat) (e1 : Int64) (e2 : Int32), tl_RReader_word_70_2 p666628 f666641 gl669188 g669189 k e1 e2 → tl_RReader_word_70_2 p666628 f666641 (0 : Int64) z669023 k e1 e2) → ((8193 : Int) - g669189.toInt).toNat < n70_669196 → G (gV D I) l (gRm 6 132 ((16 * (p666628.toInt - p666629.toInt)).toNat) ((160 * (p666628.toInt - p666629.toInt)).toNat)) (gMA (gV D I) (pp_666647_Reader_word D I P666624 F666625 q666626 q666627 p666628 p666629 p666630 p666631 p666632 p666633 qo666634 p666635 p666636 p666637 qo666638 qo666639 p666640 f666641) gNA ((16 * (p666628.toInt - p666629.toInt)).toNat) ((160 * (p666628.toInt - p666629.toInt)).toNat)) ky_666647_Reader_word 70 [(2, .long gl669188), (1, .int z666648), (0, .ref q666626)] [] (va_pl P666624 F669190) 0 0 := by
            intro n70_669196
            induction n70_669196 with
            | zero => intro F669190 gl669188 g669189 bg669189 hfr669193 he669191 he669192 x669194 x669195 x669196 kt70_669196 hm70_669196; exact absurd hm70_669196 (Nat.not_lt_zero _)
            | succ n70_669196 ih70_669196 =>
              intro F669190 gl669188 g669189 bg669189 hfr669193 he669191 he669192 x669194 x669195 x669196 kt70_669196 hm70_669196
              refine G_aload_n 2 dr_cX14_word_70 rfl ?_
              refine Gp_get 2 hmq666626 he669191 dr_cX14_word_71 (gk_X14 D I) (Nat.le_of_ble_eq_true rfl) wr_9_38 rfl ?_
              refine G_aload_n 2 dr_cX14_word_74 rfl ?_
              refine Gp_get 1 hmq666626 he669191 dr_cX14_word_75 (gk_X14 D I) (Nat.le_of_ble_eq_true rfl) wr_9_37 rfl ?_
              refine G_icmp_ge 136 dr_cX14_word_78 (by decide +kernel) (fun hc669197 => ?_) (fun hc669197 => ?_)
              · have r669198 : p666628.toInt ≤ g669189.toInt := gC_le hc669197
                have bg669189' : gB g669189 2 8192 := ⟨by omega, by omega⟩
                have hx669199 : tl_RReader_word_70_2 p666628 f666641 (0 : Int64) z669023 136 gl669188 g669189 := kt70_669196 136 gl669188 g669189 (fun R c1 c2 c3 => c1 gl669188 g669189 bg669189 r669198)
                clear he666652 he666653 hfr666654 jn666655 bz669023 bo669033' he669043 he669044 hfr669045; try clear r669031; try clear w669032; try clear dc669028; try clear ds669029; try clear hp669030; try clear x669034
                refine G_aload_n 2 dr_cX14_word_136 rfl ?_
                refine G_lload_n 0 dr_cX14_word_137 rfl ?_
                refine G_l2i dr_cX14_word_138 (G_nam fun z669200 hz669200 => ?_)
                have bz669200 : gB z669200 (-2147483648) 2147483647 := gB_any z669200
                refine Gp_put 5 hmq666626 he669191 dr_cX14_word_139 (gk_X14 D I) (Nat.le_of_ble_eq_true rfl) wr_9_41 rfl rfl rfl (Nat.le_of_ble_eq_true rfl) (fun F669201 e669202 n669203 => ?_)
                have he669204 : F669201 q666627 = .inl (I .byte, 8192, .inl f666641) := (n669203 q666627 (rn_ao he669192 he669191)).trans he669192
                have he669205 : F669201 q666626 = .inr (19, [.ref q666627, .int p666628, .int g669189, .int 6, .int p666631, .int z669200, .int p666633, .ref qo666634, .int p666635, .int p666636, .int p666637, .ref qo666638, .ref qo666639, .int p666640]) := e669202
                have hfr669206 : rFr [q666626] P666624 F666625 F669201 := rFr_put' List.mem_cons_self hfr669193 n669203
                refine G_lload_n 0 dr_cX14_word_142 rfl ?_
                refine G_iload_n 1 dr_cX14_word_143 rfl ?_
                refine G_bipush 118 dr_cX14_word_144 (by decide +kernel) ?_
                refine G_icmp_ne 155 dr_cX14_word_146 (by decide +kernel) (fun _ => ?_) (fun hc => absurd (show False by have := gj_eq hc (show Int32.toInt 118 = 118 by decide); omega) not_false)
                refine G_ldc2 39 dr_cX14_word_155 wr_7_234 ?_
                refine G_lcmp dr_cX14_word_158 (G_nam fun z669207 hz669207 => ?_)
                have bz669207 : gB z669207 (-1) 1 := gB_cmp hz669207
                refine G_if_gt 177 dr_cX14_word_159 (by decide +kernel) (fun hc669208 => ?_) (fun hc669208 => ?_)
                · have r669209 : 0 < z669207.toInt := gj_ltL hc669208 (show Int32.toInt 0 = 0 by decide)
                  have bz669207' : gB z669207 1 1 := ⟨by omega, by omega⟩
                  have lhc669208 := gC_cmpS hz669207 (by omega)
                  exact G_vretA dr_cX14_word_177 rfl (show 0 ≤ ((16 * (p666628.toInt - p666629.toInt)).toNat) by omega) (show 0 ≤ ((160 * (p666628.toInt - p666629.toInt)).toNat) by omega) ⟨P666624, F669201, g669189, 6, z669200, qo666634, (0, fun _ => 0), rfl, rfl, (rSub_rf (P := P666624)), hfr669206, he669205, he669204, (by omega), (by omega), (gB_w bg669189' (by decide) (by decide)), (gB_w (gBl (show Int32.toInt 6 = 6 by decide)) (by decide) (by decide)), (by have qa0 : Int32.toInt 6 = 6 := (by decide); omega), (by have qa0 : Int32.toInt 6 = 6 := (by decide); omega), (tP_no (by decide) (by decide)), (vP_no (by decide) (by decide)), (fun R c1 c2 c3 c4 c5 c6 => c5 z666648 z669023 z669027 o669033 gl669188 g669189 z669200 z669207 hz666648 bz666648 r669019 r669022 ez669023 r669026 hz669027 bz669027 bo669033 ht669035 r669038 hx669199 hz669200 hz669207 r669209)⟩
                · have r669210 : z669207.toInt ≤ 0 := gj_nltL hc669208 (show Int32.toInt 0 = 0 by decide)
                  have bz669207' : gB z669207 (-1) 0 := ⟨by omega, by omega⟩
                  refine G_aload_n 2 dr_cX14_word_162 rfl ?_
                  refine G_iload_n 1 dr_cX14_word_163 rfl ?_
                  refine G_bipush 118 dr_cX14_word_164 (by decide +kernel) ?_
                  refine G_icmp_ne 173 dr_cX14_word_166 (by decide +kernel) (fun _ => ?_) (fun hc => absurd (show False by have := gj_eq hc (show Int32.toInt 118 = 118 by decide); omega) not_false)
                  refine G_iconst 3 dr_cX14_word_173 (by decide +kernel) ?_
                  refine Gp_put 3 hmq666626 he669205 dr_cX14_word_174 (gk_X14 D I) (Nat.le_of_ble_eq_true rfl) wr_9_39 rfl rfl rfl (Nat.le_of_ble_eq_true rfl) (fun F669211 e669212 n669213 => ?_)
                  have he669214 : F669211 q666627 = .inl (I .byte, 8192, .inl f666641) := (n669213 q666627 (rn_ao he669204 he669205)).trans he669204
                  have he669215 : F669211 q666626 = .inr (19, [.ref q666627, .int p666628, .int g669189, .int 3, .int p666631, .int z669200, .int p666633, .ref qo666634, .int p666635, .int p666636, .int p666637, .ref qo666638, .ref qo666639, .int p666640]) := e669212
                  have hfr669216 : rFr [q666626] P666624 F666625 F669211 := rFr_put' List.mem_cons_self hfr669206 n669213
                  exact G_vretA dr_cX14_word_177 rfl (show 0 ≤ ((16 * (p666628.toInt - p666629.toInt)).toNat) by omega) (show 0 ≤ ((160 * (p666628.toInt - p666629.toInt)).toNat) by omega) ⟨P666624, F669211, g669189, 3, z669200, qo666634, (0, fun _ => 0), rfl, rfl, (rSub_rf (P := P666624)), hfr669216, he669215, he669214, (by omega), (by omega), (gB_w bg669189' (by decide) (by decide)), (gB_w (gBl (show Int32.toInt 3 = 3 by decide)) (by decide) (by decide)), (by have qa0 : Int32.toInt 3 = 3 := (by decide); omega), (by have qa0 : Int32.toInt 3 = 3 := (by decide); omega), (tP_no (by decide) (by decide)), (vP_b (by assumption) (by assumption) (by assumption) (by omega)), (fun R c1 c2 c3 c4 c5 c6 => c6 z666648 z669023 z669027 o669033 gl669188 g669189 z669200 z669207 hz666648 bz666648 r669019 r669022 ez669023 r669026 hz669027 bz669027 bo669033 ht669035 r669038 hx669199 hz669200 hz669207 r669210)⟩
              · have r669217 : g669189.toInt < p666628.toInt := gC_nle hc669197
                have bg669189' : gB g669189 0 8191 := ⟨by omega, by omega⟩
                refine G_aload_n 2 dr_cX14_word_81 rfl ?_
                refine Gp_get 0 hmq666626 he669191 dr_cX14_word_82 (gk_X14 D I) (Nat.le_of_ble_eq_true rfl) wr_9_36 rfl ?_
                refine G_aload_n 2 dr_cX14_word_85 rfl ?_
                refine Gp_get 2 hmq666626 he669191 dr_cX14_word_86 (gk_X14 D I) (Nat.le_of_ble_eq_true rfl) wr_9_38 rfl ?_
                refine Gp_bald 1 hmq666627 he669192 dr_cX14_word_89 rfl (gB_in bg669189' (by decide) (by decide)) (G_nam fun z669218 hz669218 => ?_)
                have bz669218 : gB z669218 (-128) 127 := by rw [hz669218]; exact bf666641 _
                refine Gw_callS (As := [.int z669218]) (gV_ok D I) (cp_665041_Reader_isDigit l hl0 D I P666624 F669190 z669218 ) dr_cX14_word_90 ⟨wr_7_219, wr_1_32, wr_7_221, by decide, rfl, (Nat.le_of_ble_eq_true rfl), (Nat.le_of_ble_eq_true rfl)⟩ wr_7_220 (show 0 + 0 ≤ ((16 * (p666628.toInt - p666629.toInt)).toNat) by first | omega | decide) (show 0 + 0 ≤ ((160 * (p666628.toInt - p666629.toInt)).toNat) by first | omega | decide) (Nat.le_of_ble_eq_true rfl) (fun r669222 w669223 dc669219 ds669220 hp669221 => ?_) (fun _ _ _ _ _ z => z.elim)
                obtain ⟨o669224, rfl, rfl, hdc, hds, bo669224, x669225, ht669226⟩ := hp669221
                change G _ _ _ _ _ _ _ (.int o669224 :: _) _ _ _
                refine G_widen (cs' := 0) (sl' := 0) (by omega) (by omega) ?_
                refine G_if_eq 136 dr_cX14_word_93 (by decide +kernel) (fun hc669227 => ?_) (fun hc669227 => ?_)
                · have r669228 : o669224.toInt = 0 := gj_eq hc669227 (show Int32.toInt 0 = 0 by decide)
                  have bo669224' : gB o669224 0 0 := ⟨by omega, by omega⟩
                  have hx669229 : tl_RReader_word_70_2 p666628 f666641 (0 : Int64) z669023 136 gl669188 g669189 := kt70_669196 136 gl669188 g669189 (fun R c1 c2 c3 => c2 gl669188 g669189 z669218 o669224 bg669189 r669217 hz669218 bz669218 bo669224 ht669226 r669228)
                  clear he666652 he666653 hfr666654 jn666655 bz669023 bo669033' he669043 he669044 hfr669045 bo669224 ht669226 bo669224'; try clear r669031; try clear w669032; try clear dc669028; try clear ds669029; try clear hp669030; try clear x669034; try clear r669222; try clear w669223; try clear dc669219; try clear ds669220; try clear hp669221; try clear x669225; try clear r669228
                  refine G_aload_n 2 dr_cX14_word_136 rfl ?_
                  refine G_lload_n 0 dr_cX14_word_137 rfl ?_
                  refine G_l2i dr_cX14_word_138 (G_nam fun z669230 hz669230 => ?_)
                  have bz669230 : gB z669230 (-2147483648) 2147483647 := gB_any z669230
                  refine Gp_put 5 hmq666626 he669191 dr_cX14_word_139 (gk_X14 D I) (Nat.le_of_ble_eq_true rfl) wr_9_41 rfl rfl rfl (Nat.le_of_ble_eq_true rfl) (fun F669231 e669232 n669233 => ?_)
                  have he669234 : F669231 q666627 = .inl (I .byte, 8192, .inl f666641) := (n669233 q666627 (rn_ao he669192 he669191)).trans he669192
                  have he669235 : F669231 q666626 = .inr (19, [.ref q666627, .int p666628, .int g669189, .int 6, .int p666631, .int z669230, .int p666633, .ref qo666634, .int p666635, .int p666636, .int p666637, .ref qo666638, .ref qo666639, .int p666640]) := e669232
                  have hfr669236 : rFr [q666626] P666624 F666625 F669231 := rFr_put' List.mem_cons_self hfr669193 n669233
                  refine G_lload_n 0 dr_cX14_word_142 rfl ?_
                  refine G_iload_n 1 dr_cX14_word_143 rfl ?_
                  refine G_bipush 118 dr_cX14_word_144 (by decide +kernel) ?_
                  refine G_icmp_ne 155 dr_cX14_word_146 (by decide +kernel) (fun _ => ?_) (fun hc => absurd (show False by have := gj_eq hc (show Int32.toInt 118 = 118 by decide); omega) not_false)
                  refine G_ldc2 39 dr_cX14_word_155 wr_7_234 ?_
                  refine G_lcmp dr_cX14_word_158 (G_nam fun z669237 hz669237 => ?_)
                  have bz669237 : gB z669237 (-1) 1 := gB_cmp hz669237
                  refine G_if_gt 177 dr_cX14_word_159 (by decide +kernel) (fun hc669238 => ?_) (fun hc669238 => ?_)
                  · have r669239 : 0 < z669237.toInt := gj_ltL hc669238 (show Int32.toInt 0 = 0 by decide)
                    have bz669237' : gB z669237 1 1 := ⟨by omega, by omega⟩
                    have lhc669238 := gC_cmpS hz669237 (by omega)
                    exact G_vretA dr_cX14_word_177 rfl (show 0 ≤ ((16 * (p666628.toInt - p666629.toInt)).toNat) by omega) (show 0 ≤ ((160 * (p666628.toInt - p666629.toInt)).toNat) by omega) ⟨P666624, F669231, g669189, 6, z669230, qo666634, (0, fun _ => 0), rfl, rfl, (rSub_rf (P := P666624)), hfr669236, he669235, he669234, (by omega), (by omega), (gB_w bg669189' (by decide) (by decide)), (gB_w (gBl (show Int32.toInt 6 = 6 by decide)) (by decide) (by decide)), (by have qa0 : Int32.toInt 6 = 6 := (by decide); omega), (by have qa0 : Int32.toInt 6 = 6 := (by decide); omega), (tP_no (by decide) (by decide)), (vP_no (by decide) (by decide)), (fun R c1 c2 c3 c4 c5 c6 => c5 z666648 z669023 z669027 o669033 gl669188 g669189 z669230 z669237 hz666648 bz666648 r669019 r669022 ez669023 r669026 hz669027 bz669027 bo669033 ht669035 r669038 hx669229 hz669230 hz669237 r669239)⟩
                  · have r669240 : z669237.toInt ≤ 0 := gj_nltL hc669238 (show Int32.toInt 0 = 0 by decide)
                    have bz669237' : gB z669237 (-1) 0 := ⟨by omega, by omega⟩
                    refine G_aload_n 2 dr_cX14_word_162 rfl ?_
                    refine G_iload_n 1 dr_cX14_word_163 rfl ?_
                    refine G_bipush 118 dr_cX14_word_164 (by decide +kernel) ?_
                    refine G_icmp_ne 173 dr_cX14_word_166 (by decide +kernel) (fun _ => ?_) (fun hc => absurd (show False by have := gj_eq hc (show Int32.toInt 118 = 118 by decide); omega) not_false)
                    refine G_iconst 3 dr_cX14_word_173 (by decide +kernel) ?_
                    refine Gp_put 3 hmq666626 he669235 dr_cX14_word_174 (gk_X14 D I) (Nat.le_of_ble_eq_true rfl) wr_9_39 rfl rfl rfl (Nat.le_of_ble_eq_true rfl) (fun F669241 e669242 n669243 => ?_)
                    have he669244 : F669241 q666627 = .inl (I .byte, 8192, .inl f666641) := (n669243 q666627 (rn_ao he669234 he669235)).trans he669234
                    have he669245 : F669241 q666626 = .inr (19, [.ref q666627, .int p666628, .int g669189, .int 3, .int p666631, .int z669230, .int p666633, .ref qo666634, .int p666635, .int p666636, .int p666637, .ref qo666638, .ref qo666639, .int p666640]) := e669242
                    have hfr669246 : rFr [q666626] P666624 F666625 F669241 := rFr_put' List.mem_cons_self hfr669236 n669243
                    exact G_vretA dr_cX14_word_177 rfl (show 0 ≤ ((16 * (p666628.toInt - p666629.toInt)).toNat) by omega) (show 0 ≤ ((160 * (p666628.toInt - p666629.toInt)).toNat) by omega) ⟨P666624, F669241, g669189, 3, z669230, qo666634, (0, fun _ => 0), rfl, rfl, (rSub_rf (P := P666624)), hfr669246, he669245, he669244, (by omega), (by omega), (gB_w bg669189' (by decide) (by decide)), (gB_w (gBl (show Int32.toInt 3 = 3 by decide)) (by decide) (by decide)), (by have qa0 : Int32.toInt 3 = 3 := (by decide); omega), (by have qa0 : Int32.toInt 3 = 3 := (by decide); omega), (tP_no (by decide) (by decide)), (vP_b (by assumption) (by assumption) (by assumption) (by omega)), (fun R c1 c2 c3 c4 c5 c6 => c6 z666648 z669023 z669027 o669033 gl669188 g669189 z669230 z669237 hz666648 bz666648 r669019 r669022 ez669023 r669026 hz669027 bz669027 bo669033 ht669035 r669038 hx669229 hz669230 hz669237 r669240)⟩
                · have r669247 : o669224.toInt ≠ 0 := gj_neq hc669227 (show Int32.toInt 0 = 0 by decide)
                  have bo669224' : gB o669224 1 1 := ⟨by omega, by omega⟩
                  have bi669248 : gB z669218 48 57 := isP_1 x669225 (by omega)
                  refine G_lload_n 0 dr_cX14_word_96 rfl ?_
                  refine G_ldc2 10 dr_cX14_word_97 wr_7_229 ?_
                  refine G_lmul dr_cX14_word_100 (G_namL fun u669249 hu669249 => ?_)
                  refine G_aload_n 2 dr_cX14_word_101 rfl ?_
                  refine Gp_get 0 hmq666626 he669191 dr_cX14_word_102 (gk_X14 D I) (Nat.le_of_ble_eq_true rfl) wr_9_36 rfl ?_
                  refine G_aload_n 2 dr_cX14_word_105 rfl ?_
                  refine Gp_get 2 hmq666626 he669191 dr_cX14_word_106 (gk_X14 D I) (Nat.le_of_ble_eq_true rfl) wr_9_38 rfl ?_
                  refine Gp_bald 1 hmq666627 he669192 dr_cX14_word_109 rfl (gB_in bg669189' (by decide) (by decide)) (G_eqi (y := z669218) hz669218.symm ?_)
                  refine G_i2l dr_cX14_word_110 (G_namL fun u669250 hu669250 => ?_)
                  refine G_ladd dr_cX14_word_111 (G_namL fun u669251 hu669251 => ?_)
                  refine G_ldc2 48 dr_cX14_word_112 wr_7_230 ?_
                  refine G_lsub dr_cX14_word_115 (G_namL fun u669252 hu669252 => ?_)
                  refine G_ldc2 1000000 dr_cX14_word_116 wr_7_231 ?_
                  refine Gw_callS (As := [.long u669252, .long 1000000]) (gV_ok D I) (cp_665095_Math_min l hl0 D I P666624 F669190 u669252 1000000 ) dr_cX14_word_119 ⟨wr_7_232, wr_1_6, wr_3_40, by decide, rfl, (Nat.le_of_ble_eq_true rfl), (Nat.le_of_ble_eq_true rfl)⟩ wr_3_39 (show 0 + 0 ≤ ((16 * (p666628.toInt - p666629.toInt)).toNat) by first | omega | decide) (show 0 + 0 ≤ ((160 * (p666628.toInt - p666629.toInt)).toNat) by first | omega | decide) (Nat.le_of_ble_eq_true rfl) (fun r669256 w669257 dc669253 ds669254 hp669255 => ?_) (fun _ _ _ _ _ z => z.elim)
                  obtain ⟨ol669258, rfl, rfl, hdc, hds, x669259, ht669260⟩ := hp669255
                  change G _ _ _ _ _ _ _ (.long ol669258 :: _) _ _ _
                  refine G_widen (cs' := 0) (sl' := 0) (by omega) (by omega) ?_
                  refine G_lstore_n (L' := [(2, .long ol669258), (1, .int z666648), (0, .ref q666626)]) dr_cX14_word_122 (Nat.le_of_ble_eq_true rfl) rfl ?_
                  refine G_aload_n 2 dr_cX14_word_123 rfl ?_
                  refine G_dup dr_cX14_word_124 rfl ?_
                  refine Gp_get 2 hmq666626 he669191 dr_cX14_word_125 (gk_X14 D I) (Nat.le_of_ble_eq_true rfl) wr_9_38 rfl ?_
                  refine G_iconst 1 dr_cX14_word_128 (by decide +kernel) ?_
                  refine G_iadd dr_cX14_word_129 (G_nam fun z669261 hz669261 => ?_)
                  have ez669261 : z669261.toInt = g669189.toInt + 1 := by rw [gI_add hz669261 bg669189' (gBl (show Int32.toInt 1 = 1 by decide)) (by decide) (by decide), show Int32.toInt 1 = 1 from by decide]
                  have bz669261 : gB z669261 1 8192 := gB_add (gI_add hz669261 bg669189' (gBl (show Int32.toInt 1 = 1 by decide)) (by decide) (by decide)) bg669189' (gBl (show Int32.toInt 1 = 1 by decide)) (by decide) (by decide)
                  refine Gp_put 2 hmq666626 he669191 dr_cX14_word_130 (gk_X14 D I) (Nat.le_of_ble_eq_true rfl) wr_9_38 rfl rfl rfl (Nat.le_of_ble_eq_true rfl) (fun F669262 e669263 n669264 => ?_)
                  have he669265 : F669262 q666627 = .inl (I .byte, 8192, .inl f666641) := (n669264 q666627 (rn_ao he669192 he669191)).trans he669192
                  have he669266 : F669262 q666626 = .inr (19, [.ref q666627, .int p666628, .int z669261, .int 6, .int p666631, .int p666632, .int p666633, .ref qo666634, .int p666635, .int p666636, .int p666637, .ref qo666638, .ref qo666639, .int p666640]) := e669263
                  have hfr669267 : rFr [q666626] P666624 F666625 F669262 := rFr_put' List.mem_cons_self hfr669193 n669264
                  refine G_goto 70 dr_cX14_word_133 (by decide +kernel) ?_
                  exact ih70_669196 F669262 ol669258 z669261 (gB_w bz669261 (by decide) (by decide)) hfr669267 he669266 he669265 (lgSt (by assumption) (by assumption) (by assumption) (by assumption) (by assumption) (by assumption) (by omega) (by omega)) (by have qa0 : Int32.toInt 6 = 6 := (by decide); omega) (by have qa0 : Int32.toInt 6 = 6 := (by decide); omega) (fun k e1 e2 ht => kt70_669196 k e1 e2 (fun R c1 c2 c3 => c3 gl669188 g669189 z669218 o669224 u669249 u669250 u669251 u669252 ol669258 z669261 k e1 e2 bg669189 r669217 hz669218 bz669218 bo669224 ht669226 r669247 hu669249 hu669250 hu669251 hu669252 ht669260 ez669261 (ht R c1 c2 c3))) (by have qa0 : Int32.toInt 6 = 6 := (by decide); omega)
          exact hlp70_669196 (((8193 : Int) - z669023.toInt).toNat + 1) F669040 0 z669023 (gB_w bz669023' (by decide) (by decide)) hfr669045 he669044 he669043 LG_0 (by have qa0 : Int32.toInt 6 = 6 := (by decide); omega) (by have qa0 : Int32.toInt 6 = 6 := (by decide); omega) (fun k e1 e2 ht => ht) (Nat.lt_succ_self _)
/- tl_RReader_next_35: a0_at; out: a0_at -/
def tl_RReader_next_35 (a0_n : Int32) (a0_t_v : Nat → Int32) (s1 : Int32) (k : Nat) (e1 : Int32) : Prop := ∀ R : (Int32) → Nat → (Int32) → Prop,
  (∀ (a0_at_2 : Int32), gB a0_at_2 0 8192 → a0_n.toInt ≤ a0_at_2.toInt → R a0_at_2 107 a0_at_2) →
  (∀ (a0_at_2 : Int32) (x1 : Int32), gB a0_at_2 0 8192 → a0_at_2.toInt < a0_n.toInt → x1 = a0_t_v a0_at_2.toNatClampNeg → gB x1 (-128) 127 → x1.toInt = 10 → R a0_at_2 107 a0_at_2) →
  (∀ (a0_at_2 : Int32) (x1 : Int32) (x2 : Int32) (k : Nat) (e1 : Int32), gB a0_at_2 0 8192 → a0_at_2.toInt < a0_n.toInt → x1 = a0_t_v a0_at_2.toNatClampNeg → gB x1 (-128) 127 → x1.toInt ≠ 10 → x2.toInt = a0_at_2.toInt + 1 → R x2 k e1 → R a0_at_2 k e1) →
  R s1 k e1
/- tl_RReader_next_8: a0_at; out: a0_at -/
def tl_RReader_next_8 (a0_n : Int32) (a0_t_v : Nat → Int32) (s1 : Int32) (k : Nat) (e1 : Int32) : Prop := ∀ R : (Int32) → Nat → (Int32) → Prop,
  (∀ (a0_at_1 : Int32), gB a0_at_1 0 8192 → a0_n.toInt ≤ a0_at_1.toInt → R a0_at_1 110 a0_at_1) →
  (∀ (a0_at_1 : Int32) (x1 : Int32) (x2 : Int32) (k : Nat) (e1 : Int32), gB a0_at_1 0 8192 → a0_at_1.toInt < a0_n.toInt → x1 = a0_t_v a0_at_1.toNatClampNeg → gB x1 (-128) 127 → x1.toInt ≠ 59 → x1.toInt = 9 → x2.toInt = a0_at_1.toInt + 1 → R x2 k e1 → R a0_at_1 k e1) →
  (∀ (a0_at_1 : Int32) (x1 : Int32) (x2 : Int32) (k : Nat) (e1 : Int32), gB a0_at_1 0 8192 → a0_at_1.toInt < a0_n.toInt → x1 = a0_t_v a0_at_1.toNatClampNeg → gB x1 (-128) 127 → x1.toInt ≠ 59 → x1.toInt ≠ 9 → x1.toInt = 10 → x2.toInt = a0_at_1.toInt + 1 → R x2 k e1 → R a0_at_1 k e1) →
  (∀ (a0_at_1 : Int32) (x1 : Int32) (x2 : Int32) (k : Nat) (e1 : Int32), gB a0_at_1 0 8192 → a0_at_1.toInt < a0_n.toInt → x1 = a0_t_v a0_at_1.toNatClampNeg → gB x1 (-128) 127 → x1.toInt ≠ 59 → x1.toInt ≠ 9 → x1.toInt ≠ 10 → x1.toInt = 13 → x2.toInt = a0_at_1.toInt + 1 → R x2 k e1 → R a0_at_1 k e1) →
  (∀ (a0_at_1 : Int32) (x1 : Int32), gB a0_at_1 0 8192 → a0_at_1.toInt < a0_n.toInt → x1 = a0_t_v a0_at_1.toNatClampNeg → gB x1 (-128) 127 → x1.toInt ≠ 59 → x1.toInt ≠ 9 → x1.toInt ≠ 10 → x1.toInt ≠ 13 → x1.toInt ≠ 32 → R a0_at_1 110 a0_at_1) →
  (∀ (a0_at_1 : Int32) (x1 : Int32) (x2 : Int32) (k : Nat) (e1 : Int32), gB a0_at_1 0 8192 → a0_at_1.toInt < a0_n.toInt → x1 = a0_t_v a0_at_1.toNatClampNeg → gB x1 (-128) 127 → x1.toInt ≠ 59 → x1.toInt ≠ 9 → x1.toInt ≠ 10 → x1.toInt ≠ 13 → x1.toInt = 32 → x2.toInt = a0_at_1.toInt + 1 → R x2 k e1 → R a0_at_1 k e1) →
  (∀ (a0_at_1 : Int32) (x1 : Int32) (x2 : Int32) (k : Nat) (e1 : Int32), gB a0_at_1 0 8192 → a0_at_1.toInt < a0_n.toInt → x1 = a0_t_v a0_at_1.toNatClampNeg → gB x1 (-128) 127 → x1.toInt = 59 → tl_RReader_next_35 a0_n a0_t_v a0_at_1 107 x2 → R x2 k e1 → R a0_at_1 k e1) →
  R s1 k e1
/- tr_RReader_next: a.0...at, a.0...kind, a.0...place, a.0...value -/
def tr_RReader_next (a0_n : Int32) (a0_at : Int32) (a0_kind : Int32) (a0_value : Int32) (a0_t_v : Nat → Int32) (o1 : Int32) (o2 : Int32) (o3 : Int32) (o4 : Int32) (o5 : gTx) : Prop := ∀ R : (Int32) → (Int32) → (Int32) → (Int32) → (gTx) → Prop,
  (∀ (x1 : Int32) (x2 : Int32) (x3 : Int32) (x4 : Int32) (x5 : gTx) (x6 : Int32) (x7 : Int32) (x8 : Int32), tl_RReader_next_8 a0_n a0_t_v a0_at 110 x1 → x1.toInt ≠ a0_n.toInt → x2 = a0_t_v x1.toNatClampNeg → gB x2 (-128) 127 → (((x2.toInt ≠ 45) ∨ (∃ (y1 : Int32), x2.toInt = 45 ∧ y1.toInt = x1.toInt + 1 ∧ a0_n.toInt ≤ y1.toInt) ∨ (∃ (y1 : Int32) (y2 : Int32) (y3 : Int32), x2.toInt = 45 ∧ y1.toInt = x1.toInt + 1 ∧ y1.toInt < a0_n.toInt ∧ y2 = a0_t_v y1.toNatClampNeg ∧ gB y2 (-128) 127 ∧ gB y3 0 1 ∧ tr_RReader_isDigit2 y2 y3 ∧ y3.toInt = 0) ∨ (∃ (y1 : Int32) (y2 : Int32) (y3 : Int32), x2.toInt = 45 ∧ y1.toInt = x1.toInt + 1 ∧ y1.toInt < a0_n.toInt ∧ y2 = a0_t_v y1.toNatClampNeg ∧ gB y2 (-128) 127 ∧ gB y3 0 1 ∧ tr_RReader_isDigit2 y2 y3 ∧ y3.toInt ≠ 0 ∧ a0_kind.toInt = 2) ∨ (∃ (y1 : Int32) (y2 : Int32) (y3 : Int32), x2.toInt = 45 ∧ y1.toInt = x1.toInt + 1 ∧ y1.toInt < a0_n.toInt ∧ y2 = a0_t_v y1.toNatClampNeg ∧ gB y2 (-128) 127 ∧ gB y3 0 1 ∧ tr_RReader_isDigit2 y2 y3 ∧ y3.toInt ≠ 0 ∧ a0_kind.toInt ≠ 2 ∧ a0_kind.toInt = 4))) → gB x3 0 1 → tr_RReader_isLetter2 x2 x3 → x3.toInt = 0 → gB x4 0 1 → tr_RReader_isDigit2 x2 x4 → x4.toInt ≠ 0 → gB x6 0 8192 → gB x7 4 6 → tr_RReader_number (0 : Int32) a0_n x1 a0_t_v x6 x7 x8 x5 → R x6 x7 x1 x8 x5) →
  (∀ (x1 : Int32) (x2 : Int32) (x3 : Int32) (x4 : Int32) (x5 : gTx) (x6 : Int32) (x7 : Int32), tl_RReader_next_8 a0_n a0_t_v a0_at 110 x1 → x1.toInt ≠ a0_n.toInt → x2 = a0_t_v x1.toNatClampNeg → gB x2 (-128) 127 → (((x2.toInt ≠ 45) ∨ (∃ (y1 : Int32), x2.toInt = 45 ∧ y1.toInt = x1.toInt + 1 ∧ a0_n.toInt ≤ y1.toInt) ∨ (∃ (y1 : Int32) (y2 : Int32) (y3 : Int32), x2.toInt = 45 ∧ y1.toInt = x1.toInt + 1 ∧ y1.toInt < a0_n.toInt ∧ y2 = a0_t_v y1.toNatClampNeg ∧ gB y2 (-128) 127 ∧ gB y3 0 1 ∧ tr_RReader_isDigit2 y2 y3 ∧ y3.toInt = 0) ∨ (∃ (y1 : Int32) (y2 : Int32) (y3 : Int32), x2.toInt = 45 ∧ y1.toInt = x1.toInt + 1 ∧ y1.toInt < a0_n.toInt ∧ y2 = a0_t_v y1.toNatClampNeg ∧ gB y2 (-128) 127 ∧ gB y3 0 1 ∧ tr_RReader_isDigit2 y2 y3 ∧ y3.toInt ≠ 0 ∧ a0_kind.toInt = 2) ∨ (∃ (y1 : Int32) (y2 : Int32) (y3 : Int32), x2.toInt = 45 ∧ y1.toInt = x1.toInt + 1 ∧ y1.toInt < a0_n.toInt ∧ y2 = a0_t_v y1.toNatClampNeg ∧ gB y2 (-128) 127 ∧ gB y3 0 1 ∧ tr_RReader_isDigit2 y2 y3 ∧ y3.toInt ≠ 0 ∧ a0_kind.toInt ≠ 2 ∧ a0_kind.toInt = 4))) → gB x3 0 1 → tr_RReader_isLetter2 x2 x3 → x3.toInt = 0 → gB x4 0 1 → tr_RReader_isDigit2 x2 x4 → x4.toInt = 0 → gB x6 1 8192 → gB x7 5 6 → tr_RReader_symbol x2 a0_n x1 a0_t_v x6 x7 x5 → R x6 x7 x1 a0_value x5) →
  (∀ (x1 : Int32) (x2 : Int32) (x3 : Int32) (x4 : gTx) (x5 : Int32) (x6 : Int32) (x7 : Int32), tl_RReader_next_8 a0_n a0_t_v a0_at 110 x1 → x1.toInt ≠ a0_n.toInt → x2 = a0_t_v x1.toNatClampNeg → gB x2 (-128) 127 → (((x2.toInt ≠ 45) ∨ (∃ (y1 : Int32), x2.toInt = 45 ∧ y1.toInt = x1.toInt + 1 ∧ a0_n.toInt ≤ y1.toInt) ∨ (∃ (y1 : Int32) (y2 : Int32) (y3 : Int32), x2.toInt = 45 ∧ y1.toInt = x1.toInt + 1 ∧ y1.toInt < a0_n.toInt ∧ y2 = a0_t_v y1.toNatClampNeg ∧ gB y2 (-128) 127 ∧ gB y3 0 1 ∧ tr_RReader_isDigit2 y2 y3 ∧ y3.toInt = 0) ∨ (∃ (y1 : Int32) (y2 : Int32) (y3 : Int32), x2.toInt = 45 ∧ y1.toInt = x1.toInt + 1 ∧ y1.toInt < a0_n.toInt ∧ y2 = a0_t_v y1.toNatClampNeg ∧ gB y2 (-128) 127 ∧ gB y3 0 1 ∧ tr_RReader_isDigit2 y2 y3 ∧ y3.toInt ≠ 0 ∧ a0_kind.toInt = 2) ∨ (∃ (y1 : Int32) (y2 : Int32) (y3 : Int32), x2.toInt = 45 ∧ y1.toInt = x1.toInt + 1 ∧ y1.toInt < a0_n.toInt ∧ y2 = a0_t_v y1.toNatClampNeg ∧ gB y2 (-128) 127 ∧ gB y3 0 1 ∧ tr_RReader_isDigit2 y2 y3 ∧ y3.toInt ≠ 0 ∧ a0_kind.toInt ≠ 2 ∧ a0_kind.toInt = 4))) → gB x3 0 1 → tr_RReader_isLetter2 x2 x3 → x3.toInt ≠ 0 → gB x5 0 8192 → gB x6 1 6 → tr_RReader_word a0_n x1 a0_value a0_t_v x5 x6 x7 x4 → R x5 x6 x1 x7 x4) →
  (∀ (x1 : Int32) (x2 : Int32) (x3 : Int32) (x4 : Int32) (x5 : Int32) (x6 : Int32) (x7 : Int32) (x8 : gTx) (x9 : Int32) (x10 : Int32) (x11 : Int32), tl_RReader_next_8 a0_n a0_t_v a0_at 110 x1 → x1.toInt ≠ a0_n.toInt → x2 = a0_t_v x1.toNatClampNeg → gB x2 (-128) 127 → x2.toInt = 45 → x3.toInt = x1.toInt + 1 → x3.toInt < a0_n.toInt → x4 = a0_t_v x3.toNatClampNeg → gB x4 (-128) 127 → gB x5 0 1 → tr_RReader_isDigit2 x4 x5 → x5.toInt ≠ 0 → a0_kind.toInt ≠ 2 → a0_kind.toInt ≠ 4 → gB x6 0 1 → tr_RReader_isLetter2 x2 x6 → x6.toInt = 0 → gB x7 0 1 → tr_RReader_isDigit2 x2 x7 → x7.toInt ≠ 0 → gB x9 0 8192 → gB x10 4 6 → tr_RReader_number (1 : Int32) a0_n x1 a0_t_v x9 x10 x11 x8 → R x9 x10 x1 x11 x8) →
  (∀ (x1 : Int32) (x2 : Int32) (x3 : Int32) (x4 : Int32) (x5 : Int32) (x6 : Int32) (x7 : Int32) (x8 : gTx) (x9 : Int32) (x10 : Int32) (x11 : Int32), tl_RReader_next_8 a0_n a0_t_v a0_at 110 x1 → x1.toInt ≠ a0_n.toInt → x2 = a0_t_v x1.toNatClampNeg → gB x2 (-128) 127 → x2.toInt = 45 → x3.toInt = x1.toInt + 1 → x3.toInt < a0_n.toInt → x4 = a0_t_v x3.toNatClampNeg → gB x4 (-128) 127 → gB x5 0 1 → tr_RReader_isDigit2 x4 x5 → x5.toInt ≠ 0 → a0_kind.toInt ≠ 2 → a0_kind.toInt ≠ 4 → gB x6 0 1 → tr_RReader_isLetter2 x2 x6 → x6.toInt = 0 → gB x7 0 1 → tr_RReader_isDigit2 x2 x7 → x7.toInt = 0 → gB x9 0 8192 → gB x10 4 6 → tr_RReader_number (1 : Int32) a0_n x1 a0_t_v x9 x10 x11 x8 → R x9 x10 x1 x11 x8) →
  (∀ (x1 : Int32) (x2 : Int32) (x3 : Int32) (x4 : Int32) (x5 : Int32) (x6 : Int32) (x7 : gTx) (x8 : Int32) (x9 : Int32) (x10 : Int32), tl_RReader_next_8 a0_n a0_t_v a0_at 110 x1 → x1.toInt ≠ a0_n.toInt → x2 = a0_t_v x1.toNatClampNeg → gB x2 (-128) 127 → x2.toInt = 45 → x3.toInt = x1.toInt + 1 → x3.toInt < a0_n.toInt → x4 = a0_t_v x3.toNatClampNeg → gB x4 (-128) 127 → gB x5 0 1 → tr_RReader_isDigit2 x4 x5 → x5.toInt ≠ 0 → a0_kind.toInt ≠ 2 → a0_kind.toInt ≠ 4 → gB x6 0 1 → tr_RReader_isLetter2 x2 x6 → x6.toInt ≠ 0 → gB x8 0 8192 → gB x9 1 6 → tr_RReader_word a0_n x1 a0_value a0_t_v x8 x9 x10 x7 → R x8 x9 x1 x10 x7) →
  (∀ (x1 : Int32), tl_RReader_next_8 a0_n a0_t_v a0_at 110 x1 → x1.toInt = a0_n.toInt → R x1 (0 : Int32) x1 a0_value (0, fun _ => 0)) →
  (∀ (x1 : Int32) (x2 : Int32) (x3 : Int32) (x4 : Int32) (x5 : gTx) (x6 : Int32) (x7 : Int32) (x8 : Int32), tl_RReader_next_8 a0_n a0_t_v a0_at 110 x1 → x1.toInt ≠ a0_n.toInt → x2 = a0_t_v x1.toNatClampNeg → (((x2.toInt ≠ 45) ∨ (∃ (y1 : Int32), x2.toInt = 45 ∧ y1.toInt = x1.toInt + 1 ∧ a0_n.toInt ≤ y1.toInt) ∨ (∃ (y1 : Int32) (y2 : Int32) (y3 : Int32), x2.toInt = 45 ∧ y1.toInt = x1.toInt + 1 ∧ y1.toInt < a0_n.toInt ∧ y2 = a0_t_v y1.toNatClampNeg ∧ gB y2 (-128) 127 ∧ gB y3 0 1 ∧ tr_RReader_isDigit2 y2 y3 ∧ y3.toInt = 0) ∨ (∃ (y1 : Int32) (y2 : Int32) (y3 : Int32), x2.toInt = 45 ∧ y1.toInt = x1.toInt + 1 ∧ y1.toInt < a0_n.toInt ∧ y2 = a0_t_v y1.toNatClampNeg ∧ gB y2 (-128) 127 ∧ gB y3 0 1 ∧ tr_RReader_isDigit2 y2 y3 ∧ y3.toInt ≠ 0 ∧ a0_kind.toInt = 2) ∨ (∃ (y1 : Int32) (y2 : Int32) (y3 : Int32), x2.toInt = 45 ∧ y1.toInt = x1.toInt + 1 ∧ y1.toInt < a0_n.toInt ∧ y2 = a0_t_v y1.toNatClampNeg ∧ gB y2 (-128) 127 ∧ gB y3 0 1 ∧ tr_RReader_isDigit2 y2 y3 ∧ y3.toInt ≠ 0 ∧ a0_kind.toInt ≠ 2 ∧ a0_kind.toInt = 4))) → gB x3 0 1 → tr_RReader_isLetter2 x2 x3 → x3.toInt = 0 → gB x4 0 1 → tr_RReader_isDigit2 x2 x4 → x4.toInt ≠ 0 → gB x6 0 8192 → gB x7 4 6 → tr_RReader_number (0 : Int32) a0_n x1 a0_t_v x6 x7 x8 x5 → R x6 x7 x1 x8 x5) →
  (∀ (x1 : Int32) (x2 : Int32) (x3 : Int32) (x4 : Int32) (x5 : gTx) (x6 : Int32) (x7 : Int32), tl_RReader_next_8 a0_n a0_t_v a0_at 110 x1 → x1.toInt ≠ a0_n.toInt → x2 = a0_t_v x1.toNatClampNeg → (((x2.toInt ≠ 45) ∨ (∃ (y1 : Int32), x2.toInt = 45 ∧ y1.toInt = x1.toInt + 1 ∧ a0_n.toInt ≤ y1.toInt) ∨ (∃ (y1 : Int32) (y2 : Int32) (y3 : Int32), x2.toInt = 45 ∧ y1.toInt = x1.toInt + 1 ∧ y1.toInt < a0_n.toInt ∧ y2 = a0_t_v y1.toNatClampNeg ∧ gB y2 (-128) 127 ∧ gB y3 0 1 ∧ tr_RReader_isDigit2 y2 y3 ∧ y3.toInt = 0) ∨ (∃ (y1 : Int32) (y2 : Int32) (y3 : Int32), x2.toInt = 45 ∧ y1.toInt = x1.toInt + 1 ∧ y1.toInt < a0_n.toInt ∧ y2 = a0_t_v y1.toNatClampNeg ∧ gB y2 (-128) 127 ∧ gB y3 0 1 ∧ tr_RReader_isDigit2 y2 y3 ∧ y3.toInt ≠ 0 ∧ a0_kind.toInt = 2) ∨ (∃ (y1 : Int32) (y2 : Int32) (y3 : Int32), x2.toInt = 45 ∧ y1.toInt = x1.toInt + 1 ∧ y1.toInt < a0_n.toInt ∧ y2 = a0_t_v y1.toNatClampNeg ∧ gB y2 (-128) 127 ∧ gB y3 0 1 ∧ tr_RReader_isDigit2 y2 y3 ∧ y3.toInt ≠ 0 ∧ a0_kind.toInt ≠ 2 ∧ a0_kind.toInt = 4))) → gB x3 0 1 → tr_RReader_isLetter2 x2 x3 → x3.toInt = 0 → gB x4 0 1 → tr_RReader_isDigit2 x2 x4 → x4.toInt = 0 → gB x6 1 8192 → gB x7 5 6 → tr_RReader_symbol x2 a0_n x1 a0_t_v x6 x7 x5 → R x6 x7 x1 a0_value x5) →
  (∀ (x1 : Int32) (x2 : Int32) (x3 : Int32) (x4 : gTx) (x5 : Int32) (x6 : Int32) (x7 : Int32), tl_RReader_next_8 a0_n a0_t_v a0_at 110 x1 → x1.toInt ≠ a0_n.toInt → x2 = a0_t_v x1.toNatClampNeg → (((x2.toInt ≠ 45) ∨ (∃ (y1 : Int32), x2.toInt = 45 ∧ y1.toInt = x1.toInt + 1 ∧ a0_n.toInt ≤ y1.toInt) ∨ (∃ (y1 : Int32) (y2 : Int32) (y3 : Int32), x2.toInt = 45 ∧ y1.toInt = x1.toInt + 1 ∧ y1.toInt < a0_n.toInt ∧ y2 = a0_t_v y1.toNatClampNeg ∧ gB y2 (-128) 127 ∧ gB y3 0 1 ∧ tr_RReader_isDigit2 y2 y3 ∧ y3.toInt = 0) ∨ (∃ (y1 : Int32) (y2 : Int32) (y3 : Int32), x2.toInt = 45 ∧ y1.toInt = x1.toInt + 1 ∧ y1.toInt < a0_n.toInt ∧ y2 = a0_t_v y1.toNatClampNeg ∧ gB y2 (-128) 127 ∧ gB y3 0 1 ∧ tr_RReader_isDigit2 y2 y3 ∧ y3.toInt ≠ 0 ∧ a0_kind.toInt = 2) ∨ (∃ (y1 : Int32) (y2 : Int32) (y3 : Int32), x2.toInt = 45 ∧ y1.toInt = x1.toInt + 1 ∧ y1.toInt < a0_n.toInt ∧ y2 = a0_t_v y1.toNatClampNeg ∧ gB y2 (-128) 127 ∧ gB y3 0 1 ∧ tr_RReader_isDigit2 y2 y3 ∧ y3.toInt ≠ 0 ∧ a0_kind.toInt ≠ 2 ∧ a0_kind.toInt = 4))) → gB x3 0 1 → tr_RReader_isLetter2 x2 x3 → x3.toInt ≠ 0 → gB x5 0 8192 → gB x6 1 6 → tr_RReader_word a0_n x1 a0_value a0_t_v x5 x6 x7 x4 → R x5 x6 x1 x7 x4) →
  (∀ (x1 : Int32) (x2 : Int32) (x3 : Int32) (x4 : Int32) (x5 : Int32) (x6 : Int32) (x7 : Int32) (x8 : gTx) (x9 : Int32) (x10 : Int32) (x11 : Int32), tl_RReader_next_8 a0_n a0_t_v a0_at 110 x1 → x1.toInt ≠ a0_n.toInt → x2 = a0_t_v x1.toNatClampNeg → x2.toInt = 45 → x3.toInt = x1.toInt + 1 → x3.toInt < a0_n.toInt → x4 = a0_t_v x3.toNatClampNeg → gB x4 (-128) 127 → gB x5 0 1 → tr_RReader_isDigit2 x4 x5 → x5.toInt ≠ 0 → a0_kind.toInt ≠ 2 → a0_kind.toInt ≠ 4 → gB x6 0 1 → tr_RReader_isLetter2 x2 x6 → x6.toInt = 0 → gB x7 0 1 → tr_RReader_isDigit2 x2 x7 → x7.toInt ≠ 0 → gB x9 0 8192 → gB x10 4 6 → tr_RReader_number (1 : Int32) a0_n x1 a0_t_v x9 x10 x11 x8 → R x9 x10 x1 x11 x8) →
  (∀ (x1 : Int32) (x2 : Int32) (x3 : Int32) (x4 : Int32) (x5 : Int32) (x6 : Int32) (x7 : Int32) (x8 : gTx) (x9 : Int32) (x10 : Int32) (x11 : Int32), tl_RReader_next_8 a0_n a0_t_v a0_at 110 x1 → x1.toInt ≠ a0_n.toInt → x2 = a0_t_v x1.toNatClampNeg → x2.toInt = 45 → x3.toInt = x1.toInt + 1 → x3.toInt < a0_n.toInt → x4 = a0_t_v x3.toNatClampNeg → gB x4 (-128) 127 → gB x5 0 1 → tr_RReader_isDigit2 x4 x5 → x5.toInt ≠ 0 → a0_kind.toInt ≠ 2 → a0_kind.toInt ≠ 4 → gB x6 0 1 → tr_RReader_isLetter2 x2 x6 → x6.toInt = 0 → gB x7 0 1 → tr_RReader_isDigit2 x2 x7 → x7.toInt = 0 → gB x9 0 8192 → gB x10 4 6 → tr_RReader_number (1 : Int32) a0_n x1 a0_t_v x9 x10 x11 x8 → R x9 x10 x1 x11 x8) →
  (∀ (x1 : Int32) (x2 : Int32) (x3 : Int32) (x4 : Int32) (x5 : Int32) (x6 : Int32) (x7 : gTx) (x8 : Int32) (x9 : Int32) (x10 : Int32), tl_RReader_next_8 a0_n a0_t_v a0_at 110 x1 → x1.toInt ≠ a0_n.toInt → x2 = a0_t_v x1.toNatClampNeg → x2.toInt = 45 → x3.toInt = x1.toInt + 1 → x3.toInt < a0_n.toInt → x4 = a0_t_v x3.toNatClampNeg → gB x4 (-128) 127 → gB x5 0 1 → tr_RReader_isDigit2 x4 x5 → x5.toInt ≠ 0 → a0_kind.toInt ≠ 2 → a0_kind.toInt ≠ 4 → gB x6 0 1 → tr_RReader_isLetter2 x2 x6 → x6.toInt ≠ 0 → gB x8 0 8192 → gB x9 1 6 → tr_RReader_word a0_n x1 a0_value a0_t_v x8 x9 x10 x7 → R x8 x9 x1 x10 x7) →
  R o1 o2 o3 o4 o5
