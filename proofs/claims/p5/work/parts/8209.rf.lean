theorem dr_cX14_word_0 : decode cX14_word 0 = .ok (.aload_n 0, 1) := by decide +kernel
theorem dr_cX14_word_1 : decode cX14_word 1 = .ok (.getfield 28, 3) := by decide +kernel
theorem dr_cX14_word_4 : decode cX14_word 4 = .ok (.aload_n 0, 1) := by decide +kernel
theorem dr_cX14_word_5 : decode cX14_word 5 = .ok (.getfield 44, 3) := by decide +kernel
theorem dr_cX14_word_8 : decode cX14_word 8 = .ok (.baload, 1) := by decide +kernel
theorem dr_cX14_word_9 : decode cX14_word 9 = .ok (.istore_n 1, 1) := by decide +kernel
theorem dr_cX14_word_10 : decode cX14_word 10 = .ok (.aload_n 0, 1) := by decide +kernel
theorem dr_cX14_word_11 : decode cX14_word 11 = .ok (.bipush 6, 2) := by decide +kernel
theorem dr_cX14_word_13 : decode cX14_word 13 = .ok (.putfield 38, 3) := by decide +kernel
theorem dr_cX14_word_178 : decode cX14_word 178 = .ok (.new 87, 3) := by decide +kernel
theorem dr_cX14_word_181 : decode cX14_word 181 = .ok (.dup, 1) := by decide +kernel
theorem dr_cX14_word_182 : decode cX14_word 182 = .ok (.invokespecial 89, 3) := by decide +kernel
theorem dr_cX14_word_185 : decode cX14_word 185 = .ok (.astore_n 2, 1) := by decide +kernel
theorem dr_cX14_word_186 : decode cX14_word 186 = .ok (.aload_n 0, 1) := by decide +kernel
theorem dr_cX14_word_187 : decode cX14_word 187 = .ok (.getfield 44, 3) := by decide +kernel
theorem dr_cX14_word_190 : decode cX14_word 190 = .ok (.aload_n 0, 1) := by decide +kernel
theorem dr_cX14_word_191 : decode cX14_word 191 = .ok (.getfield 32, 3) := by decide +kernel
theorem dr_cX14_word_194 : decode cX14_word 194 = .ok (.if_icmp .ge 46, 3) := by decide +kernel
theorem dr_cX14_word_240 : decode cX14_word 240 = .ok (.aload_n 0, 1) := by decide +kernel
theorem dr_cX14_word_241 : decode cX14_word 241 = .ok (.aload_n 2, 1) := by decide +kernel
theorem dr_cX14_word_242 : decode cX14_word 242 = .ok (.invokevirtual 94, 3) := by decide +kernel
theorem dr_cX14_word_245 : decode cX14_word 245 = .ok (.putfield 11, 3) := by decide +kernel
theorem dr_cX14_word_248 : decode cX14_word 248 = .ok (.ldc 98, 2) := by decide +kernel
theorem dr_cX14_word_250 : decode cX14_word 250 = .ok (.new 87, 3) := by decide +kernel
theorem dr_cX14_word_253 : decode cX14_word 253 = .ok (.dup, 1) := by decide +kernel
theorem dr_cX14_word_254 : decode cX14_word 254 = .ok (.invokespecial 89, 3) := by decide +kernel
theorem dr_cX14_word_257 : decode cX14_word 257 = .ok (.ldc 100, 2) := by decide +kernel
theorem dr_cX14_word_259 : decode cX14_word 259 = .ok (.invokevirtual 102, 3) := by decide +kernel
theorem dr_cX14_word_262 : decode cX14_word 262 = .ok (.aload_n 0, 1) := by decide +kernel
theorem dr_cX14_word_263 : decode cX14_word 263 = .ok (.getfield 11, 3) := by decide +kernel
theorem dr_cX14_word_266 : decode cX14_word 266 = .ok (.invokevirtual 102, 3) := by decide +kernel
theorem dr_cX14_word_269 : decode cX14_word 269 = .ok (.ldc 100, 2) := by decide +kernel
theorem dr_cX14_word_271 : decode cX14_word 271 = .ok (.invokevirtual 102, 3) := by decide +kernel
theorem dr_cX14_word_274 : decode cX14_word 274 = .ok (.invokevirtual 94, 3) := by decide +kernel
theorem dr_cX14_word_277 : decode cX14_word 277 = .ok (.invokevirtual 105, 3) := by decide +kernel
theorem dr_cX14_word_280 : decode cX14_word 280 = .ok (.ifCond .lt 8, 3) := by decide +kernel
theorem dr_cX14_word_288 : decode cX14_word 288 = .ok (.return_, 1) := by decide +kernel
theorem dr_cX14_word_283 : decode cX14_word 283 = .ok (.aload_n 0, 1) := by decide +kernel
theorem dr_cX14_word_284 : decode cX14_word 284 = .ok (.iconst 1, 1) := by decide +kernel
theorem dr_cX14_word_285 : decode cX14_word 285 = .ok (.putfield 38, 3) := by decide +kernel
theorem dr_cX14_word_197 : decode cX14_word 197 = .ok (.aload_n 0, 1) := by decide +kernel
theorem dr_cX14_word_198 : decode cX14_word 198 = .ok (.getfield 28, 3) := by decide +kernel
theorem dr_cX14_word_201 : decode cX14_word 201 = .ok (.aload_n 0, 1) := by decide +kernel
theorem dr_cX14_word_202 : decode cX14_word 202 = .ok (.getfield 44, 3) := by decide +kernel
theorem dr_cX14_word_205 : decode cX14_word 205 = .ok (.baload, 1) := by decide +kernel
theorem dr_cX14_word_206 : decode cX14_word 206 = .ok (.invokestatic 54, 3) := by decide +kernel
theorem wr_7_218 : (Jvm.Cond.methodLink "SpillForgeModel$Reader" (54 : Nat) ({ cls := "SpillForgeModel$Reader", name := "isLetter", desc := "(I)Z" } : Jvm.MethodName)) ∈ gw := gw_7 218 rfl rfl
theorem wr_7_220 : (Jvm.Cond.code ({ cls := "SpillForgeModel$Reader", name := "isLetter", desc := "(I)Z" } : Jvm.MethodName) prog_17_method_3_code (1 : Nat) (Option.some Jvm.ClassFile.FieldType.boolean)) ∈ gw := gw_7 220 rfl rfl
theorem wr_7_219 : (Jvm.Cond.static ({ cls := "SpillForgeModel$Reader", name := "isLetter", desc := "(I)Z" } : Jvm.MethodName)) ∈ gw := gw_7 219 rfl rfl
theorem dr_cX14_word_209 : decode cX14_word 209 = .ok (.ifCond .eq 31, 3) := by decide +kernel
theorem dr_cX14_word_212 : decode cX14_word 212 = .ok (.aload_n 2, 1) := by decide +kernel
theorem dr_cX14_word_213 : decode cX14_word 213 = .ok (.aload_n 0, 1) := by decide +kernel
theorem dr_cX14_word_214 : decode cX14_word 214 = .ok (.getfield 28, 3) := by decide +kernel
theorem dr_cX14_word_217 : decode cX14_word 217 = .ok (.aload_n 0, 1) := by decide +kernel
theorem dr_cX14_word_218 : decode cX14_word 218 = .ok (.getfield 44, 3) := by decide +kernel
theorem dr_cX14_word_221 : decode cX14_word 221 = .ok (.baload, 1) := by decide +kernel
theorem dr_cX14_word_222 : decode cX14_word 222 = .ok (.i2c, 1) := by decide +kernel
theorem dr_cX14_word_223 : decode cX14_word 223 = .ok (.invokevirtual 90, 3) := by decide +kernel
theorem dr_cX14_word_226 : decode cX14_word 226 = .ok (.pop, 1) := by decide +kernel
theorem dr_cX14_word_227 : decode cX14_word 227 = .ok (.aload_n 0, 1) := by decide +kernel
theorem dr_cX14_word_228 : decode cX14_word 228 = .ok (.dup, 1) := by decide +kernel
theorem dr_cX14_word_229 : decode cX14_word 229 = .ok (.getfield 44, 3) := by decide +kernel
theorem dr_cX14_word_232 : decode cX14_word 232 = .ok (.iconst 1, 1) := by decide +kernel
theorem dr_cX14_word_233 : decode cX14_word 233 = .ok (.iadd, 1) := by decide +kernel
theorem dr_cX14_word_234 : decode cX14_word 234 = .ok (.putfield 44, 3) := by decide +kernel
theorem dr_cX14_word_237 : decode cX14_word 237 = .ok (.goto (-51), 3) := by decide +kernel
theorem dr_cX14_word_16 : decode cX14_word 16 = .ok (.iload_n 1, 1) := by decide +kernel
theorem dr_cX14_word_17 : decode cX14_word 17 = .ok (.bipush 118, 2) := by decide +kernel
theorem dr_cX14_word_19 : decode cX14_word 19 = .ok (.if_icmp .eq 9, 3) := by decide +kernel
theorem dr_cX14_word_28 : decode cX14_word 28 = .ok (.aload_n 0, 1) := by decide +kernel
theorem dr_cX14_word_29 : decode cX14_word 29 = .ok (.getfield 44, 3) := by decide +kernel
theorem dr_cX14_word_32 : decode cX14_word 32 = .ok (.iconst 1, 1) := by decide +kernel
theorem dr_cX14_word_33 : decode cX14_word 33 = .ok (.iadd, 1) := by decide +kernel
theorem dr_cX14_word_34 : decode cX14_word 34 = .ok (.aload_n 0, 1) := by decide +kernel
theorem dr_cX14_word_35 : decode cX14_word 35 = .ok (.getfield 32, 3) := by decide +kernel
theorem dr_cX14_word_38 : decode cX14_word 38 = .ok (.if_icmp .ge 140, 3) := by decide +kernel
theorem dr_cX14_word_41 : decode cX14_word 41 = .ok (.aload_n 0, 1) := by decide +kernel
theorem dr_cX14_word_42 : decode cX14_word 42 = .ok (.getfield 28, 3) := by decide +kernel
theorem dr_cX14_word_45 : decode cX14_word 45 = .ok (.aload_n 0, 1) := by decide +kernel
theorem dr_cX14_word_46 : decode cX14_word 46 = .ok (.getfield 44, 3) := by decide +kernel
theorem dr_cX14_word_49 : decode cX14_word 49 = .ok (.iconst 1, 1) := by decide +kernel
theorem dr_cX14_word_50 : decode cX14_word 50 = .ok (.iadd, 1) := by decide +kernel
theorem dr_cX14_word_51 : decode cX14_word 51 = .ok (.baload, 1) := by decide +kernel
theorem dr_cX14_word_52 : decode cX14_word 52 = .ok (.invokestatic 50, 3) := by decide +kernel
theorem dr_cX14_word_55 : decode cX14_word 55 = .ok (.ifCond .eq 123, 3) := by decide +kernel
theorem dr_cX14_word_58 : decode cX14_word 58 = .ok (.lconst 0, 1) := by decide +kernel
theorem dr_cX14_word_59 : decode cX14_word 59 = .ok (.lstore_n 2, 1) := by decide +kernel
theorem dr_cX14_word_60 : decode cX14_word 60 = .ok (.aload_n 0, 1) := by decide +kernel
theorem dr_cX14_word_61 : decode cX14_word 61 = .ok (.dup, 1) := by decide +kernel
theorem dr_cX14_word_62 : decode cX14_word 62 = .ok (.getfield 44, 3) := by decide +kernel
theorem dr_cX14_word_65 : decode cX14_word 65 = .ok (.iconst 1, 1) := by decide +kernel
theorem dr_cX14_word_66 : decode cX14_word 66 = .ok (.iadd, 1) := by decide +kernel
theorem dr_cX14_word_67 : decode cX14_word 67 = .ok (.putfield 44, 3) := by decide +kernel
theorem dr_cX14_word_70 : decode cX14_word 70 = .ok (.aload_n 0, 1) := by decide +kernel
theorem dr_cX14_word_71 : decode cX14_word 71 = .ok (.getfield 44, 3) := by decide +kernel
theorem dr_cX14_word_74 : decode cX14_word 74 = .ok (.aload_n 0, 1) := by decide +kernel
theorem dr_cX14_word_75 : decode cX14_word 75 = .ok (.getfield 32, 3) := by decide +kernel
theorem dr_cX14_word_78 : decode cX14_word 78 = .ok (.if_icmp .ge 58, 3) := by decide +kernel
theorem dr_cX14_word_136 : decode cX14_word 136 = .ok (.aload_n 0, 1) := by decide +kernel
theorem dr_cX14_word_137 : decode cX14_word 137 = .ok (.lload_n 2, 1) := by decide +kernel
theorem dr_cX14_word_138 : decode cX14_word 138 = .ok (.l2i, 1) := by decide +kernel
theorem dr_cX14_word_139 : decode cX14_word 139 = .ok (.putfield 80, 3) := by decide +kernel
theorem dr_cX14_word_142 : decode cX14_word 142 = .ok (.lload_n 2, 1) := by decide +kernel
theorem dr_cX14_word_143 : decode cX14_word 143 = .ok (.iload_n 1, 1) := by decide +kernel
theorem dr_cX14_word_144 : decode cX14_word 144 = .ok (.bipush 118, 2) := by decide +kernel
theorem dr_cX14_word_146 : decode cX14_word 146 = .ok (.if_icmp .ne 9, 3) := by decide +kernel
theorem dr_cX14_word_149 : decode cX14_word 149 = .ok (.ldc2_w 83, 3) := by decide +kernel
theorem wr_7_229 : (Jvm.Cond.constantLong "SpillForgeModel$Reader" (83 : Nat) (99 : Int64)) ∈ gw := gw_7 229 rfl rfl
theorem dr_cX14_word_152 : decode cX14_word 152 = .ok (.goto 6, 3) := by decide +kernel
theorem dr_cX14_word_158 : decode cX14_word 158 = .ok (.lcmp, 1) := by decide +kernel
theorem dr_cX14_word_159 : decode cX14_word 159 = .ok (.ifCond .gt 18, 3) := by decide +kernel
theorem dr_cX14_word_177 : decode cX14_word 177 = .ok (.return_, 1) := by decide +kernel
theorem dr_cX14_word_162 : decode cX14_word 162 = .ok (.aload_n 0, 1) := by decide +kernel
theorem dr_cX14_word_163 : decode cX14_word 163 = .ok (.iload_n 1, 1) := by decide +kernel
theorem dr_cX14_word_164 : decode cX14_word 164 = .ok (.bipush 118, 2) := by decide +kernel
theorem dr_cX14_word_166 : decode cX14_word 166 = .ok (.if_icmp .ne 7, 3) := by decide +kernel
theorem dr_cX14_word_169 : decode cX14_word 169 = .ok (.iconst 2, 1) := by decide +kernel
theorem dr_cX14_word_170 : decode cX14_word 170 = .ok (.goto 4, 3) := by decide +kernel
theorem dr_cX14_word_174 : decode cX14_word 174 = .ok (.putfield 38, 3) := by decide +kernel
theorem dr_cX14_word_81 : decode cX14_word 81 = .ok (.aload_n 0, 1) := by decide +kernel
theorem dr_cX14_word_82 : decode cX14_word 82 = .ok (.getfield 28, 3) := by decide +kernel
theorem dr_cX14_word_85 : decode cX14_word 85 = .ok (.aload_n 0, 1) := by decide +kernel
theorem dr_cX14_word_86 : decode cX14_word 86 = .ok (.getfield 44, 3) := by decide +kernel
theorem dr_cX14_word_89 : decode cX14_word 89 = .ok (.baload, 1) := by decide +kernel
theorem dr_cX14_word_90 : decode cX14_word 90 = .ok (.invokestatic 50, 3) := by decide +kernel
theorem dr_cX14_word_93 : decode cX14_word 93 = .ok (.ifCond .eq 43, 3) := by decide +kernel
theorem dr_cX14_word_96 : decode cX14_word 96 = .ok (.lload_n 2, 1) := by decide +kernel
theorem dr_cX14_word_97 : decode cX14_word 97 = .ok (.ldc2_w 68, 3) := by decide +kernel
theorem dr_cX14_word_100 : decode cX14_word 100 = .ok (.lmul, 1) := by decide +kernel
theorem dr_cX14_word_101 : decode cX14_word 101 = .ok (.aload_n 0, 1) := by decide +kernel
theorem dr_cX14_word_102 : decode cX14_word 102 = .ok (.getfield 28, 3) := by decide +kernel
theorem dr_cX14_word_105 : decode cX14_word 105 = .ok (.aload_n 0, 1) := by decide +kernel
theorem dr_cX14_word_106 : decode cX14_word 106 = .ok (.getfield 44, 3) := by decide +kernel
theorem dr_cX14_word_109 : decode cX14_word 109 = .ok (.baload, 1) := by decide +kernel
theorem dr_cX14_word_110 : decode cX14_word 110 = .ok (.i2l, 1) := by decide +kernel
theorem dr_cX14_word_111 : decode cX14_word 111 = .ok (.ladd, 1) := by decide +kernel
theorem dr_cX14_word_112 : decode cX14_word 112 = .ok (.ldc2_w 70, 3) := by decide +kernel
theorem dr_cX14_word_115 : decode cX14_word 115 = .ok (.lsub, 1) := by decide +kernel
theorem dr_cX14_word_116 : decode cX14_word 116 = .ok (.ldc2_w 72, 3) := by decide +kernel
theorem wr_7_227 : (Jvm.Cond.constantLong "SpillForgeModel$Reader" (72 : Nat) (1000000 : Int64)) ∈ gw := gw_7 227 rfl rfl
theorem dr_cX14_word_119 : decode cX14_word 119 = .ok (.invokestatic 74, 3) := by decide +kernel
theorem dr_cX14_word_122 : decode cX14_word 122 = .ok (.lstore_n 2, 1) := by decide +kernel
theorem dr_cX14_word_123 : decode cX14_word 123 = .ok (.aload_n 0, 1) := by decide +kernel
theorem dr_cX14_word_124 : decode cX14_word 124 = .ok (.dup, 1) := by decide +kernel
theorem dr_cX14_word_125 : decode cX14_word 125 = .ok (.getfield 44, 3) := by decide +kernel
theorem dr_cX14_word_128 : decode cX14_word 128 = .ok (.iconst 1, 1) := by decide +kernel
theorem dr_cX14_word_129 : decode cX14_word 129 = .ok (.iadd, 1) := by decide +kernel
theorem dr_cX14_word_130 : decode cX14_word 130 = .ok (.putfield 44, 3) := by decide +kernel
theorem dr_cX14_word_133 : decode cX14_word 133 = .ok (.goto (-63), 3) := by decide +kernel
theorem dr_cX14_word_22 : decode cX14_word 22 = .ok (.iload_n 1, 1) := by decide +kernel
theorem dr_cX14_word_23 : decode cX14_word 23 = .ok (.bipush 98, 2) := by decide +kernel
theorem dr_cX14_word_25 : decode cX14_word 25 = .ok (.if_icmp .ne 153, 3) := by decide +kernel
theorem dr_cX14_word_155 : decode cX14_word 155 = .ok (.ldc2_w 85, 3) := by decide +kernel
theorem wr_7_230 : (Jvm.Cond.constantLong "SpillForgeModel$Reader" (85 : Nat) (39 : Int64)) ∈ gw := gw_7 230 rfl rfl
theorem dr_cX14_word_173 : decode cX14_word 173 = .ok (.iconst 3, 1) := by decide +kernel
abbrev ky_651412_Reader_isLetter : gKey := (cX14_isLetter, 1, "SpillForgeModel$Reader", (some FieldType.boolean), [], "isLetter", fun _ _ => True)
def pp_651412_Reader_isLetter (D : va_G) (I : FieldType → ClassId) (P651409 : List Nat) (F651410 : Nat → va_E) (p651411 : Int32) : Option Value → va_W → Nat → Nat → Prop := fun r w dc ds => ∃ (o651419 : Int32), r = some (.int o651419) ∧ w = va_pl P651409 F651410 ∧ dc ≤ 0 ∧ ds ≤ 0 ∧ gB o651419 0 1 ∧ isP p651411 97 122 o651419
set_option maxRecDepth 100000 in
set_option maxHeartbeats 4000000 in
theorem cp_651412_Reader_isLetter (l : Launch) (hl0 : l.stackTraces = false) (D : va_G) (I : FieldType → ClassId) (P651409 : List Nat) (F651410 : Nat → va_E) (p651411 : Int32)  : CtA (gV D I) l yX14_isLetter cX14_isLetter 1 (some FieldType.boolean) 0 0 0 0 [.int p651411] (va_pl P651409 F651410) (pp_651412_Reader_isLetter D I P651409 F651410 p651411) gNA := by
  refine CtA_of hl0 (by decide) (Nat.le_of_ble_eq_true rfl) ?_
  have bp651411 := gB_any p651411
  refine G_iload_n 0 dr_cX14_isLetter_0 rfl ?_
  refine G_bipush 97 dr_cX14_isLetter_1 (by decide +kernel) ?_
  refine G_icmp_lt 16 dr_cX14_isLetter_3 (by decide +kernel) (fun hc651413 => ?_) (fun hc651413 => ?_)
  · have r651414 : p651411.toInt < 97 := gj_lt hc651413 (show Int32.toInt 97 = 97 by decide)
    have bp651411' : gB p651411 (-2147483648) 96 := ⟨by omega, by omega⟩
    refine G_iconst 0 dr_cX14_isLetter_16 (by decide +kernel) ?_
    exact G_zretA FieldType.boolean dr_cX14_isLetter_17 rfl rfl (Nat.le_of_ble_eq_true rfl) (Nat.le_of_ble_eq_true rfl) ⟨0, rfl, rfl, (Nat.le_of_ble_eq_true rfl), (Nat.le_of_ble_eq_true rfl), (gB_w (gBl (show Int32.toInt 0 = 0 by decide)) (by decide) (by decide)), (isP_n (by omega))⟩
  · have r651415 : 97 ≤ p651411.toInt := gj_nlt hc651413 (show Int32.toInt 97 = 97 by decide)
    have bp651411' : gB p651411 97 2147483647 := ⟨by omega, by omega⟩
    refine G_iload_n 0 dr_cX14_isLetter_6 rfl ?_
    refine G_bipush 122 dr_cX14_isLetter_7 (by decide +kernel) ?_
    refine G_icmp_gt 16 dr_cX14_isLetter_9 (by decide +kernel) (fun hc651416 => ?_) (fun hc651416 => ?_)
    · have r651417 : 122 < p651411.toInt := gj_ltL hc651416 (show Int32.toInt 122 = 122 by decide)
      have bp651411'' : gB p651411 123 2147483647 := ⟨by omega, by omega⟩
      refine G_iconst 0 dr_cX14_isLetter_16 (by decide +kernel) ?_
      exact G_zretA FieldType.boolean dr_cX14_isLetter_17 rfl rfl (Nat.le_of_ble_eq_true rfl) (Nat.le_of_ble_eq_true rfl) ⟨0, rfl, rfl, (Nat.le_of_ble_eq_true rfl), (Nat.le_of_ble_eq_true rfl), (gB_w (gBl (show Int32.toInt 0 = 0 by decide)) (by decide) (by decide)), (isP_n (by omega))⟩
    · have r651418 : p651411.toInt ≤ 122 := gj_nltL hc651416 (show Int32.toInt 122 = 122 by decide)
      have bp651411'' : gB p651411 97 122 := ⟨by omega, by omega⟩
      refine G_iconst 1 dr_cX14_isLetter_12 (by decide +kernel) ?_
      refine G_goto 17 dr_cX14_isLetter_13 (by decide +kernel) ?_
      exact G_zretA FieldType.boolean dr_cX14_isLetter_17 rfl rfl (Nat.le_of_ble_eq_true rfl) (Nat.le_of_ble_eq_true rfl) ⟨1, rfl, rfl, (Nat.le_of_ble_eq_true rfl), (Nat.le_of_ble_eq_true rfl), (gB_w (gBl (show Int32.toInt 1 = 1 by decide)) (by decide) (by decide)), (isP_y (by omega) (by omega))⟩
abbrev ky_651743_AbstractStringBuilder_append : gKey := (cJ5_append_3fe6f, 2, "java/lang/AbstractStringBuilder", (some (FieldType.object "java/lang/AbstractStringBuilder")), [], "append", fun _ _ => True)
def pp_651743_AbstractStringBuilder_append (D : va_G) (I : FieldType → ClassId) (P651730 : List Nat) (F651731 : Nat → va_E) (q651732 : Nat) (q651733 : Nat) (p651734 : Int32) (p651735 : Int32) (p651736 : Int32) (f651737 : Nat → Int32) (n651738 : Nat) : Option Value → va_W → Nat → Nat → Prop := fun r w dc ds => ∃ (P651805 : List Nat) (F651806 : Nat → va_E) (o651801 : Int32) (q651802 : Nat) (n651803 : Nat) (f651804 : Nat → Int32), r = some (.ref q651732) ∧ w = va_pl P651805 F651806 ∧ rSub P651730 P651805 ∧ rFr [q651733, q651732] P651730 F651731 F651806 ∧ F651806 q651732 = .inr (1, [.ref q651802, .int 0, .int p651735, .int o651801]) ∧ F651806 q651802 = .inl (I .byte, n651803, .inl f651804) ∧ q651802 ∈ P651805 ∧ (q651802 = q651733 ∨ q651802 ∉ P651730) ∧ dc ≤ 1 ∧ ds ≤ 2 * (n651803 - n651738) ∧ gB o651801 1 16777216 ∧ gF f651804 (-128) 127 ∧ o651801.toInt = p651736.toInt + 1 ∧ o651801.toInt ≤ (n651803 : Int) ∧ (n651738 : Int) ≤ (n651803 : Int) ∧ (n651803 : Int) ≤ 2 * o651801.toInt + 16 ∧ (n651803 : Int) ≤ 2 * (n651738 : Int) + 2
set_option maxRecDepth 100000 in
set_option maxHeartbeats 4000000 in
theorem cp_651743_AbstractStringBuilder_append (l : Launch) (hl0 : l.stackTraces = false) (D : va_G) (I : FieldType → ClassId) (P651730 : List Nat) (F651731 : Nat → va_E) (q651732 : Nat) (q651733 : Nat) (p651734 : Int32) (p651735 : Int32) (p651736 : Int32) (f651737 : Nat → Int32) (n651738 : Nat) (hmq651732 : q651732 ∈ P651730) (hmq651733 : q651733 ∈ P651730) (heq651732 : F651731 q651732 = .inr (1, [.ref q651733, .int 0, .int p651735, .int p651736])) (heq651733 : F651731 q651733 = .inl (I .byte, n651738, .inl f651737)) (bp651734 : gB p651734 0 255) (bp651735 : gB p651735 0 1) (bp651736 : gB p651736 0 16777216) (bf651737 : gF f651737 (-128) 127) (x651739 : (n651738 : Int) ≤ 8388608 - 100000) (x651740 : p651736.toInt ≤ (n651738 : Int)) (x651741 : (n651738 : Int) ≤ 2 * p651736.toInt + 16) (x651742 : ((n651738 : Int) ≤ 16777216)) : CtA (gV D I) l yJ5_append_3fe6f cJ5_append_3fe6f 2 (some (FieldType.object "java/lang/AbstractStringBuilder")) 4 84 1 (4 * n651738 + 8) [.ref q651732, .int p651734] (va_pl P651730 F651731) (pp_651743_AbstractStringBuilder_append D I P651730 F651731 q651732 q651733 p651734 p651735 p651736 f651737 n651738) gNA := by
  refine CtA_ofF hl0 (by decide +kernel) (Nat.le_of_ble_eq_true rfl) ?_
  refine G_aload_n 0 dr_cJ5_append_3fe6f_0 rfl ?_
  refine G_aload_n 0 dr_cJ5_append_3fe6f_1 rfl ?_
  refine Gp_get 3 hmq651732 heq651732 dr_cJ5_append_3fe6f_2 (gk_J4 D I) (Nat.le_of_ble_eq_true rfl) wr_7_64 rfl ?_
  refine G_iconst 1 dr_cJ5_append_3fe6f_5 (by decide +kernel) ?_
  refine G_iadd dr_cJ5_append_3fe6f_6 (G_nam fun z651744 hz651744 => ?_)
  have ez651744 : z651744.toInt = p651736.toInt + 1 := by rw [gI_add hz651744 bp651736 (gBl (show Int32.toInt 1 = 1 by decide)) (by decide) (by decide), show Int32.toInt 1 = 1 from by decide]
  have bz651744 : gB z651744 1 16777217 := gB_add (gI_add hz651744 bp651736 (gBl (show Int32.toInt 1 = 1 by decide)) (by decide) (by decide)) bp651736 (gBl (show Int32.toInt 1 = 1 by decide)) (by decide) (by decide)
  refine Gw_callVB (As := [.int z651744]) (gV_ok D I) (cp_640133_AbstractStringBuilder_ensureCapacityInternal l hl0 D I P651730 F651731 q651732 q651733 z651744 p651735 p651736 f651737 n651738 hmq651732 hmq651733 heq651732 heq651733 ⟨by omega, by omega⟩ bp651735 bp651736 bf651737 (by have qa0 : Int32.toInt 0 = 0 := (by decide); omega) (by have qa0 : Int32.toInt 0 = 0 := (by decide); omega)) dr_cJ5_append_3fe6f_7 ⟨wr_8_0, wr_1_19, wr_8_3, by decide, rfl, (Nat.le_of_ble_eq_true rfl), (Nat.le_of_ble_eq_true rfl)⟩ wr_8_2 wr_s_0 hmq651732 heq651732 rfl (show 0 + 1 ≤ 1 by first | omega | decide) (show 0 + (2 * n651738 + 2 + z651744.toInt.toNat) ≤ (4 * n651738 + 8) by first | omega | decide) (Nat.le_of_ble_eq_true rfl) (fun r651748 w651749 dc651745 ds651746 hp651747 => ?_) (fun _ _ _ _ _ z => z.elim)
  obtain ⟨P651757, F651758, q651750, n651751, f651752, rfl, rfl, hsb651759, hfr651760, he651761, he651762, hm651763, hq651764, hdc, hds, bf651752, x651753, x651754, x651755, x651756⟩ := hp651747
  have hm651765 : q651732 ∈ P651757 := hsb651759 q651732 hmq651732
  have hm651766 : q651733 ∈ P651757 := hsb651759 q651733 hmq651733
  have hor651767 : q651750 = q651733 ∨ q651750 ∉ P651730 := hq651764.elim Or.inl (fun n => Or.inr (fun z => n ((rSub_rf (P := P651730)) _ z)))
  have hsb651768 : rSub P651730 P651757 := rSub_tr (rSub_rf (P := P651730)) hsb651759
  have he651769 : F651758 q651733 = .inl (I .byte, n651738, .inl f651737) := (hfr651760 q651733 hmq651733 (nm_c (rn_ao heq651733 heq651732) nm_n)).trans heq651733
  have hfr651770 : rFr [q651732] P651730 F651731 F651758 := rFr_call (rSub_rf (P := P651730)) (rFr_rf (W := []) (P := P651730) (F := F651731)) hfr651760 (fun b hb hn => ⟨nm_n, (nm_c (fun e => hn (e ▸ List.mem_cons_self)) nm_n)⟩)
  change G _ _ _ _ _ _ _ _ _ _ _
  refine G_widen (cs' := 1) (sl' := 2 * (n651751 - n651738)) (by omega) (by omega) ?_
  refine G_aload_n 0 dr_cJ5_append_3fe6f_10 rfl ?_
  refine Gw_callVB (As := []) (gV_ok D I) (cp_640037_AbstractStringBuilder_isLatin1 l hl0 D I P651757 F651758 q651732 q651750 p651735 p651736 f651752 n651751 hm651765 hm651763 he651761 he651762 bp651735 bp651736 bf651752 (by have qa0 : Int32.toInt 0 = 0 := (by decide); omega)) dr_cJ5_append_3fe6f_11 ⟨wr_8_29, wr_1_19, wr_8_33, by decide, rfl, (Nat.le_of_ble_eq_true rfl), (Nat.le_of_ble_eq_true rfl)⟩ wr_8_30 wr_8_32 hm651765 he651761 rfl (show 1 + 0 ≤ 1 by first | omega | decide) (show 2 * (n651751 - n651738) + 0 ≤ (4 * n651738 + 8) by first | omega | decide) (Nat.le_of_ble_eq_true rfl) (fun r651774 w651775 dc651771 ds651772 hp651773 => ?_) (fun _ _ _ _ _ z => z.elim)
  obtain ⟨rfl, rfl, hdc, hds⟩ := hp651773
  change G _ _ _ _ _ _ _ (.int 1 :: _) _ _ _
  refine G_widen (cs' := 1) (sl' := 2 * (n651751 - n651738) + 0) (by omega) (by omega) ?_
  refine G_if_eq 45 dr_cJ5_append_3fe6f_14 (by decide +kernel) (fun hc => absurd hc (by decide)) (fun _ => ?_)
  refine G_iload_n 1 dr_cJ5_append_3fe6f_17 rfl ?_
  refine Gw_callS (As := [.int p651734]) (gV_ok D I) (cp_640046_StringLatin1_canEncode l hl0 D I P651757 F651758 p651734 (gB_w bp651734 (by decide) (by decide))) dr_cJ5_append_3fe6f_18 ⟨wr_8_34, wr_1_28, wr_8_36, by decide, rfl, (Nat.le_of_ble_eq_true rfl), (Nat.le_of_ble_eq_true rfl)⟩ wr_8_35 (show 1 + 0 ≤ 1 by first | omega | decide) (show 2 * (n651751 - n651738) + 0 + 0 ≤ (4 * n651738 + 8) by first | omega | decide) (Nat.le_of_ble_eq_true rfl) (fun r651779 w651780 dc651776 ds651777 hp651778 => ?_) (fun _ _ _ _ _ z => z.elim)
  rcases hp651778 with ⟨rfl, rfl, hdc, hds, r651781⟩ | ⟨rfl, rfl, hdc, hds, r651782⟩
  · exact absurd (show False by omega) not_false
  · change G _ _ _ _ _ _ _ (.int 1 :: _) _ _ _
    refine G_widen (cs' := 1) (sl' := 2 * (n651751 - n651738) + 0 + 0) (by omega) (by omega) ?_
    refine G_if_eq 45 dr_cJ5_append_3fe6f_21 (by decide +kernel) (fun hc => absurd hc (by decide)) (fun _ => ?_)
    refine G_aload_n 0 dr_cJ5_append_3fe6f_24 rfl ?_
    refine Gp_get 0 hm651765 he651761 dr_cJ5_append_3fe6f_25 (gk_J4 D I) (Nat.le_of_ble_eq_true rfl) wr_7_60 rfl ?_
    refine G_aload_n 0 dr_cJ5_append_3fe6f_28 rfl ?_
    refine G_dup dr_cJ5_append_3fe6f_29 rfl ?_
    refine Gp_get 3 hm651765 he651761 dr_cJ5_append_3fe6f_30 (gk_J4 D I) (Nat.le_of_ble_eq_true rfl) wr_7_64 rfl ?_
    refine G_dup_x1 dr_cJ5_append_3fe6f_33 rfl rfl ?_
    refine G_iconst 1 dr_cJ5_append_3fe6f_34 (by decide +kernel) ?_
    refine G_iadd dr_cJ5_append_3fe6f_35 (G_nam fun z651784 hz651784 => ?_)
    have ez651784 : z651784.toInt = p651736.toInt + 1 := by rw [gI_add hz651784 bp651736 (gBl (show Int32.toInt 1 = 1 by decide)) (by decide) (by decide), show Int32.toInt 1 = 1 from by decide]
    have bz651784 : gB z651784 1 16777217 := gB_add (gI_add hz651784 bp651736 (gBl (show Int32.toInt 1 = 1 by decide)) (by decide) (by decide)) bp651736 (gBl (show Int32.toInt 1 = 1 by decide)) (by decide) (by decide)
    refine Gp_put 3 hm651765 he651761 dr_cJ5_append_3fe6f_36 (gk_J4 D I) (Nat.le_of_ble_eq_true rfl) wr_7_64 rfl rfl rfl (Nat.le_of_ble_eq_true rfl) (fun F651785 e651786 n651787 => ?_)
    have he651788 : F651785 q651733 = .inl (I .byte, n651738, .inl f651737) := (n651787 q651733 (rn_ao he651769 he651761)).trans he651769
    have he651789 : F651785 q651750 = .inl (I .byte, n651751, .inl f651752) := (n651787 q651750 (rn_ao he651762 he651761)).trans he651762
    have he651790 : F651785 q651732 = .inr (1, [.ref q651750, .int 0, .int p651735, .int z651784]) := e651786
    have hfr651791 : rFr [q651732] P651730 F651731 F651785 := rFr_put' List.mem_cons_self hfr651770 n651787
    refine G_iload_n 1 dr_cJ5_append_3fe6f_39 rfl ?_
    refine G_i2b dr_cJ5_append_3fe6f_40 (G_nam fun z651792 hz651792 => ?_)
    have bz651792 : gB z651792 (-128) 127 := gB_i2b hz651792
    refine Gp_bast 1 hm651763 he651789 dr_cJ5_append_3fe6f_41 rfl (gB_inr (by omega) (by omega)) (fun F651793 e651794 n651795 => ?_)
    obtain ⟨f651796, hf651796⟩ : ∃ z, z = upd f651752 p651736.toNatClampNeg (vp_nar .byte z651792) := ⟨_, rfl⟩
    rw [← hf651796] at e651794
    have he651798 : F651793 q651732 = .inr (1, [.ref q651750, .int 0, .int p651735, .int z651784]) := (n651795 q651732 (rn_oa he651790 he651789)).trans he651790
    have he651799 : F651793 q651750 = .inl (I .byte, n651751, .inl f651796) := e651794
    have hfr651800 : rFr [q651733, q651732] P651730 F651731 F651793 := rFr_eit hor651767 hfr651791 n651795
    have bf651796 : gF f651796 (-128) 127 := gF_upd hf651796 bf651752 gB_byte
    refine G_goto 75 dr_cJ5_append_3fe6f_42 (by decide +kernel) ?_
    refine G_aload_n 0 dr_cJ5_append_3fe6f_75 rfl ?_
    exact G_aretA (FieldType.object "java/lang/AbstractStringBuilder") dr_cJ5_append_3fe6f_76 rfl (by first | exact Or.inl ⟨_, rfl⟩ | exact Or.inr ⟨_, rfl⟩) (Or.inr ⟨_, rfl⟩) (Nat.le_of_ble_eq_true rfl) (show 2 * (n651751 - n651738) + 0 + 0 ≤ (4 * n651738 + 8) by omega) ⟨P651757, F651793, z651784, q651750, n651751, f651796, rfl, rfl, hsb651768, hfr651800, he651798, he651799, hm651763, hor651767, (Nat.le_of_ble_eq_true rfl), (by omega), ⟨by omega, by omega⟩, bf651796, (by have qa0 : Int32.toInt 0 = 0 := (by decide); omega), (by have qa0 : Int32.toInt 0 = 0 := (by decide); omega), (by have qa0 : Int32.toInt 0 = 0 := (by decide); omega), (by have qa0 : Int32.toInt 0 = 0 := (by decide); omega), (by have qa0 : Int32.toInt 0 = 0 := (by decide); omega)⟩
abbrev ky_651729_StringBuilder_append : gKey := (cJ4_append_cf468, 2, "java/lang/StringBuilder", (some (FieldType.object "java/lang/StringBuilder")), [], "append", fun _ _ => True)
def pp_651729_StringBuilder_append (D : va_G) (I : FieldType → ClassId) (P651716 : List Nat) (F651717 : Nat → va_E) (q651718 : Nat) (q651719 : Nat) (p651720 : Int32) (p651721 : Int32) (p651722 : Int32) (f651723 : Nat → Int32) (n651724 : Nat) : Option Value → va_W → Nat → Nat → Prop := fun r w dc ds => ∃ (P651838 : List Nat) (F651839 : Nat → va_E) (o651834 : Int32) (q651835 : Nat) (n651836 : Nat) (f651837 : Nat → Int32), r = some (.ref q651718) ∧ w = va_pl P651838 F651839 ∧ rSub P651716 P651838 ∧ rFr [q651719, q651718] P651716 F651717 F651839 ∧ F651839 q651718 = .inr (1, [.ref q651835, .int 0, .int p651721, .int o651834]) ∧ F651839 q651835 = .inl (I .byte, n651836, .inl f651837) ∧ q651835 ∈ P651838 ∧ (q651835 = q651719 ∨ q651835 ∉ P651716) ∧ dc ≤ 1 ∧ ds ≤ 2 * (n651836 - n651724) ∧ gB o651834 1 16777216 ∧ gF f651837 (-128) 127 ∧ o651834.toInt = p651722.toInt + 1 ∧ o651834.toInt ≤ (n651836 : Int) ∧ (n651724 : Int) ≤ (n651836 : Int) ∧ (n651836 : Int) ≤ 2 * o651834.toInt + 16 ∧ (n651836 : Int) ≤ 2 * (n651724 : Int) + 2
set_option maxRecDepth 100000 in
set_option maxHeartbeats 4000000 in
theorem cp_651729_StringBuilder_append (l : Launch) (hl0 : l.stackTraces = false) (D : va_G) (I : FieldType → ClassId) (P651716 : List Nat) (F651717 : Nat → va_E) (q651718 : Nat) (q651719 : Nat) (p651720 : Int32) (p651721 : Int32) (p651722 : Int32) (f651723 : Nat → Int32) (n651724 : Nat) (hmq651718 : q651718 ∈ P651716) (hmq651719 : q651719 ∈ P651716) (heq651718 : F651717 q651718 = .inr (1, [.ref q651719, .int 0, .int p651721, .int p651722])) (heq651719 : F651717 q651719 = .inl (I .byte, n651724, .inl f651723)) (bp651720 : gB p651720 0 255) (bp651721 : gB p651721 0 1) (bp651722 : gB p651722 0 16777216) (bf651723 : gF f651723 (-128) 127) (x651725 : (n651724 : Int) ≤ 8388608 - 100000) (x651726 : p651722.toInt ≤ (n651724 : Int)) (x651727 : (n651724 : Int) ≤ 2 * p651722.toInt + 16) (x651728 : ((n651724 : Int) ≤ 16777216)) : CtA (gV D I) l yJ4_append_cf468 cJ4_append_cf468 2 (some (FieldType.object "java/lang/StringBuilder")) 5 105 1 (4 * n651724 + 8) [.ref q651718, .int p651720] (va_pl P651716 F651717) (pp_651729_StringBuilder_append D I P651716 F651717 q651718 q651719 p651720 p651721 p651722 f651723 n651724) gNA := by
  refine CtA_ofF hl0 (by decide +kernel) (Nat.le_of_ble_eq_true rfl) ?_
  refine G_aload_n 0 dr_cJ4_append_cf468_0 rfl ?_
  refine G_iload_n 1 dr_cJ4_append_cf468_1 rfl ?_
  refine Gw_callSU (As := [.int p651720]) (gV_ok D I) (cp_651743_AbstractStringBuilder_append l hl0 D I P651716 F651717 q651718 q651719 p651720 p651721 p651722 f651723 n651724 hmq651718 hmq651719 heq651718 heq651719 bp651720 bp651721 bp651722 bf651723 (by have qa0 : Int32.toInt 0 = 0 := (by decide); omega) (by have qa0 : Int32.toInt 0 = 0 := (by decide); omega) (by have qa0 : Int32.toInt 0 = 0 := (by decide); omega) (by have qa0 : Int32.toInt 0 = 0 := (by decide); omega)) dr_cJ4_append_cf468_2 ⟨wr_7_237, wr_1_19, wr_7_239, by decide, rfl, (Nat.le_of_ble_eq_true rfl), (Nat.le_of_ble_eq_true rfl)⟩ wr_7_238 wr_11_220 wr_7_73 wr_7_44 (by decide) hmq651718 heq651718 rfl (show 0 + 1 ≤ 1 by first | omega | decide) (show 0 + (4 * n651724 + 8) ≤ (4 * n651724 + 8) by first | omega | decide) (Nat.le_of_ble_eq_true rfl) (fun r651810 w651811 dc651807 ds651808 hp651809 => ?_)
  obtain ⟨P651821, F651822, o651812, q651813, n651814, f651815, rfl, rfl, hsb651823, hfr651824, he651825, he651826, hm651827, hq651828, hdc, hds, bo651812, bf651815, x651816, x651817, x651818, x651819, x651820⟩ := hp651809
  have hm651829 : q651718 ∈ P651821 := hsb651823 q651718 hmq651718
  have hm651830 : q651719 ∈ P651821 := hsb651823 q651719 hmq651719
  have hor651831 : q651813 = q651719 ∨ q651813 ∉ P651716 := hq651828.elim Or.inl (fun n => Or.inr (fun z => n ((rSub_rf (P := P651716)) _ z)))
  have hsb651832 : rSub P651716 P651821 := rSub_tr (rSub_rf (P := P651716)) hsb651823
  have hfr651833 : rFr [q651719, q651718] P651716 F651717 F651822 := rFr_call (rSub_rf (P := P651716)) (rFr_rf (W := []) (P := P651716) (F := F651717)) hfr651824 (fun b hb hn => ⟨nm_n, (nm_c (fun e => hn (e ▸ List.mem_cons_self)) (nm_c (fun e => hn (e ▸ (List.mem_cons_of_mem _ List.mem_cons_self))) nm_n))⟩)
  change G _ _ _ _ _ _ _ (.ref q651718 :: _) _ _ _
  refine G_widen (cs' := 1) (sl' := 2 * (n651814 - n651724)) (by omega) (by omega) ?_
  refine G_pop dr_cJ4_append_cf468_5 rfl ?_
  refine G_aload_n 0 dr_cJ4_append_cf468_6 rfl ?_
  exact G_aretA (FieldType.object "java/lang/StringBuilder") dr_cJ4_append_cf468_7 rfl (by first | exact Or.inl ⟨_, rfl⟩ | exact Or.inr ⟨_, rfl⟩) (Or.inr ⟨_, rfl⟩) (Nat.le_of_ble_eq_true rfl) (show 2 * (n651814 - n651724) ≤ (4 * n651724 + 8) by omega) ⟨P651821, F651822, o651812, q651813, n651814, f651815, rfl, rfl, hsb651832, hfr651833, he651825, he651826, hm651827, hor651831, (Nat.le_of_ble_eq_true rfl), (by omega), bo651812, bf651815, (by have qa0 : Int32.toInt 0 = 0 := (by decide); omega), (by have qa0 : Int32.toInt 0 = 0 := (by decide); omega), (by have qa0 : Int32.toInt 0 = 0 := (by decide); omega), (by have qa0 : Int32.toInt 0 = 0 := (by decide); omega), (by have qa0 : Int32.toInt 0 = 0 := (by decide); omega)⟩
abbrev ky_651075_Reader_word : gKey := (cX14_word, 4, "SpillForgeModel$Reader", none, [], "word", fun _ _ => True)
def pp_651075_Reader_word (D : va_G) (I : FieldType → ClassId) (P651052 : List Nat) (F651053 : Nat → va_E) (q651054 : Nat) (q651055 : Nat) (p651056 : Int32) (p651057 : Int32) (p651058 : Int32) (p651059 : Int32) (p651060 : Int32) (p651061 : Int32) (qo651062 : Nat) (p651063 : Int32) (p651064 : Int32) (p651065 : Int32) (qo651066 : Nat) (qo651067 : Nat) (p651068 : Int32) (f651069 : Nat → Int32) : Option Value → va_W → Nat → Nat → Prop := fun r w dc ds => ∃ (P653633 : List Nat) (F653634 : Nat → va_E) (o653629 : Int32) (o653630 : Int32) (o653631 : Int32) (q653632 : Nat), r = none ∧ w = va_pl P653633 F653634 ∧ rSub P651052 P653633 ∧ rFr [q651054] P651052 F651053 F653634 ∧ F653634 q651054 = .inr (19, [.ref q651055, .int p651056, .int o653629, .int o653630, .int p651059, .int o653631, .int p651061, .ref q653632, .int p651063, .int p651064, .int p651065, .ref qo651066, .ref qo651067, .int p651068]) ∧ F653634 q651055 = .inl (I .byte, 8192, .inl f651069) ∧ dc ≤ (16 * (o653629.toInt - p651057.toInt)).toNat ∧ ds ≤ (160 * (o653629.toInt - p651057.toInt)).toNat ∧ gB o653629 0 8192 ∧ gB o653630 1 6 ∧ p651057.toInt < o653629.toInt ∧ o653629.toInt ≤ p651056.toInt ∧ tP I P653633 F653634 o653630 q653632 qo651067 qo651066 ∧ vP o653630 o653631
set_option maxRecDepth 100000 in
set_option maxHeartbeats 4000000 in
theorem cp_651075_Reader_word (l : Launch) (hl0 : l.stackTraces = false) (D : va_G) (I : FieldType → ClassId) (P651052 : List Nat) (F651053 : Nat → va_E) (q651054 : Nat) (q651055 : Nat) (p651056 : Int32) (p651057 : Int32) (p651058 : Int32) (p651059 : Int32) (p651060 : Int32) (p651061 : Int32) (qo651062 : Nat) (p651063 : Int32) (p651064 : Int32) (p651065 : Int32) (qo651066 : Nat) (qo651067 : Nat) (p651068 : Int32) (f651069 : Nat → Int32) (hmq651054 : q651054 ∈ P651052) (hmq651055 : q651055 ∈ P651052) (heq651054 : F651053 q651054 = .inr (19, [.ref q651055, .int p651056, .int p651057, .int p651058, .int p651059, .int p651060, .int p651061, .ref qo651062, .int p651063, .int p651064, .int p651065, .ref qo651066, .ref qo651067, .int p651068])) (heq651055 : F651053 q651055 = .inl (I .byte, 8192, .inl f651069)) (bp651056 : gB p651056 0 8192) (bp651057 : gB p651057 0 8192) (bp651058 : gB p651058 0 6) (bp651059 : gB p651059 0 8192) (bp651061 : gB p651061 0 6) (bp651063 : gB p651063 (-1) 8192) (bp651064 : gB p651064 0 4) (bp651065 : gB p651065 0 1000000) (bp651068 : gB p651068 0 1000000) (bf651069 : gF f651069 (-128) 127) (x651070 : p651057.toInt ≤ p651056.toInt) (x651071 : p651057.toInt < p651056.toInt) (x651072 : cLt f651069 p651057) (x651073 : qo651067 ∈ P651052) (x651074 : qo651066 ∈ P651052) : CtA (gV D I) l yX14_word cX14_word 4 none 6 132 ((16 * (p651056.toInt - p651057.toInt)).toNat) ((160 * (p651056.toInt - p651057.toInt)).toNat) [.ref q651054] (va_pl P651052 F651053) (pp_651075_Reader_word D I P651052 F651053 q651054 q651055 p651056 p651057 p651058 p651059 p651060 p651061 qo651062 p651063 p651064 p651065 qo651066 qo651067 p651068 f651069) gNA := by
  refine CtA_of hl0 (by decide) (Nat.le_of_ble_eq_true rfl) ?_
  have bp651060 := gB_any p651060
  refine G_aload_n 0 dr_cX14_word_0 rfl ?_
  refine Gp_get 0 hmq651054 heq651054 dr_cX14_word_1 (gk_X14 D I) (Nat.le_of_ble_eq_true rfl) wr_9_32 rfl ?_
  refine G_aload_n 0 dr_cX14_word_4 rfl ?_
  refine Gp_get 2 hmq651054 heq651054 dr_cX14_word_5 (gk_X14 D I) (Nat.le_of_ble_eq_true rfl) wr_9_34 rfl ?_
  refine Gp_bald 1 hmq651055 heq651055 dr_cX14_word_8 rfl (gB_inr (by omega) (by omega)) (G_nam fun z651076 hz651076 => ?_)
  have bz651076 : gB z651076 (-128) 127 := by rw [hz651076]; exact bf651069 _
  refine G_istore_n (L' := [(1, .int z651076), (0, .ref q651054)]) dr_cX14_word_9 (Nat.le_of_ble_eq_true rfl) rfl ?_
  refine G_aload_n 1 dr_cX14_word_10 rfl ?_
  refine G_bipush 6 dr_cX14_word_11 (by decide +kernel) ?_
  refine Gp_put 3 hmq651054 heq651054 dr_cX14_word_13 (gk_X14 D I) (Nat.le_of_ble_eq_true rfl) wr_9_35 rfl rfl rfl (Nat.le_of_ble_eq_true rfl) (fun F651077 e651078 n651079 => ?_)
  have he651080 : F651077 q651055 = .inl (I .byte, 8192, .inl f651069) := (n651079 q651055 (rn_ao heq651055 heq651054)).trans heq651055
  have he651081 : F651077 q651054 = .inr (19, [.ref q651055, .int p651056, .int p651057, .int 6, .int p651059, .int p651060, .int p651061, .ref qo651062, .int p651063, .int p651064, .int p651065, .ref qo651066, .ref qo651067, .int p651068]) := e651078
  have hfr651082 : rFr [q651054] P651052 F651053 F651077 := rFr_put (rFr_rf (W := []) (P := P651052) (F := F651053)) n651079
  have jn651083 : G (gV D I) l (gRm 6 132 ((16 * (p651056.toInt - p651057.toInt)).toNat) ((160 * (p651056.toInt - p651057.toInt)).toNat)) (gMA (gV D I) (pp_651075_Reader_word D I P651052 F651053 q651054 q651055 p651056 p651057 p651058 p651059 p651060 p651061 qo651062 p651063 p651064 p651065 qo651066 qo651067 p651068 f651069) gNA ((16 * (p651056.toInt - p651057.toInt)).toNat) ((160 * (p651056.toInt - p651057.toInt)).toNat)) ky_651075_Reader_word 178 [(1, .int z651076), (0, .ref q651054)] [] (va_pl P651052 F651077) 0 0 := by
    refine G_new [.null, .int 0, .int 0, .int 0] dr_cX14_word_178 (gk_J4 D I) wr_7_231 wr_7_44 wr_1_20 (gfs_J4) (show 0 + 1 ≤ ((16 * (p651056.toInt - p651057.toInt)).toNat) by first | omega | decide) (show 0 + 4 ≤ ((160 * (p651056.toInt - p651057.toInt)).toNat) by first | omega | decide) (fun q651084 => Gp_in (fun P651085 F651086 hq651087 hP651088 e651089 n651090 => ?_))
    refine G_widen (cs' := 1) (sl' := 4) (by omega) (by omega) ?_
    have he651091 : F651086 q651054 = .inr (19, [.ref q651055, .int p651056, .int p651057, .int 6, .int p651059, .int p651060, .int p651061, .ref qo651062, .int p651063, .int p651064, .int p651065, .ref qo651066, .ref qo651067, .int p651068]) := (n651090 q651054 (fun h => hq651087 (h ▸ hmq651054))).trans he651081
    have he651092 : F651086 q651055 = .inl (I .byte, 8192, .inl f651069) := (n651090 q651055 (fun h => hq651087 (h ▸ hmq651055))).trans he651080
    have he651093 : F651086 q651084 = .inr (1, [.null, .int 0, .int 0, .int 0]) := e651089
    have hm651094 : q651054 ∈ P651085 := (hP651088 q651054).mpr (Or.inl hmq651054)
    have hm651095 : q651055 ∈ P651085 := (hP651088 q651055).mpr (Or.inl hmq651055)
    have hm651096 : q651084 ∈ P651085 := (hP651088 q651084).mpr (Or.inr rfl)
    have hq651097 : q651084 ∉ P651052 := fun z => hq651087 ((rSub_rf (P := P651052)) q651084 z)
    have hfr651098 : rFr [q651054] P651052 F651053 F651086 := rFr_new (rSub_rf (P := P651052)) hq651087 hfr651082 n651090
    have hsb651099 : rSub P651052 P651085 := rSub_new (rSub_rf (P := P651052)) hP651088
    refine G_dup dr_cX14_word_181 rfl ?_
    refine Gw_callI (As := []) (gV_ok D I) (cp_640417_StringBuilder_init l hl0 D I P651085 F651086 q651084 0 0 hm651096 he651093 (gB_w (gBl (show Int32.toInt 0 = 0 by decide)) (by decide) (by decide)) (gB_w (gBl (show Int32.toInt 0 = 0 by decide)) (by decide) (by decide))) dr_cX14_word_182 ⟨wr_7_232, wr_1_20, wr_7_47, by decide, rfl, (Nat.le_of_ble_eq_true rfl), (Nat.le_of_ble_eq_true rfl)⟩ wr_7_46 rfl (show 1 + 1 ≤ ((16 * (p651056.toInt - p651057.toInt)).toNat) by first | omega | decide) (show 4 + 16 ≤ ((160 * (p651056.toInt - p651057.toInt)).toNat) by first | omega | decide) (Nat.le_of_ble_eq_true rfl) (fun r651103 w651104 dc651100 ds651101 hp651102 => ?_)
    obtain ⟨P651106, F651107, q651105, rfl, rfl, hsb651108, hfr651109, he651110, he651111, hm651112, hq651113, hdc, hds⟩ := hp651102
    have hm651114 : q651054 ∈ P651106 := hsb651108 q651054 hm651094
    have hm651115 : q651055 ∈ P651106 := hsb651108 q651055 hm651095
    have hm651116 : q651084 ∈ P651106 := hsb651108 q651084 hm651096
    have hq651117 : q651105 ∉ P651052 := fun z => hq651113 (hsb651099 q651105 z)
    have hsb651118 : rSub P651052 P651106 := rSub_tr hsb651099 hsb651108
    have he651119 : F651107 q651054 = .inr (19, [.ref q651055, .int p651056, .int p651057, .int 6, .int p651059, .int p651060, .int p651061, .ref qo651062, .int p651063, .int p651064, .int p651065, .ref qo651066, .ref qo651067, .int p651068]) := (hfr651109 q651054 hm651094 (nm_c (fun h => hq651097 (h ▸ hmq651054)) nm_n)).trans he651091
    have he651120 : F651107 q651055 = .inl (I .byte, 8192, .inl f651069) := (hfr651109 q651055 hm651095 (nm_c (fun h => hq651097 (h ▸ hmq651055)) nm_n)).trans he651092
    have hfr651121 : rFr [q651054] P651052 F651053 F651107 := rFr_call hsb651099 hfr651098 hfr651109 (fun b hb hn => ⟨(nm_c (fun e => hn (e ▸ List.mem_cons_self)) nm_n), (nm_c (fun e => hq651097 (e ▸ hb)) nm_n)⟩)
    change G _ _ _ _ _ _ _ _ _ _ _
    refine G_widen (cs' := 2) (sl' := 20) (by omega) (by omega) ?_
    refine G_astore_n (L' := [(2, .ref q651084), (1, .int z651076), (0, .ref q651054)]) dr_cX14_word_185 (Nat.le_of_ble_eq_true rfl) rfl ?_
    refine G_widen (cs' := 2 + (0 : Int).toNat) (sl' := 4 + 2 * 16) (by omega) (by omega) ?_
    have hlp186_652542 : ∀ (n186_652542 : Nat) (P652532 : List Nat) (F652526 : Nat → va_E) (g652520 : Int32) (g652521 : Int32) (q652522 : Nat) (n652523 : Nat) (f652524 : Nat → Int32), gB g652520 0 8192 → gB g652521 0 16777216 → gF f652524 (-128) 127 → rSub P651052 P652532 → rFr [q651054] P651052 F651053 F652526 → q651054 ∈ P652532 → F652526 q651054 = .inr (19, [.ref q651055, .int p651056, .int g652520, .int 6, .int p651059, .int p651060, .int p651061, .ref qo651062, .int p651063, .int p651064, .int p651065, .ref qo651066, .ref qo651067, .int p651068]) → q651055 ∈ P652532 → F652526 q651055 = .inl (I .byte, 8192, .inl f651069) → q651084 ∈ P652532 → F652526 q651084 = .inr (1, [.ref q652522, .int 0, .int 0, .int g652521]) → q652522 ∈ P652532 → F652526 q652522 = .inl (I .byte, n652523, .inl f652524) → q652522 ∉ P651052 → p651057.toInt ≤ g652520.toInt → g652520.toInt ≤ p651056.toInt → g652521.toInt = g652520.toInt - p651057.toInt → g652521.toInt ≤ (n652523 : Int) → (n652523 : Int) ≤ 2 * g652521.toInt + 16 → ((8193 : Int) - g652520.toInt).toNat < n186_652542 → G (gV D I) l (gRm 6 132 ((16 * (p651056.toInt - p651057.toInt)).toNat) ((160 * (p651056.toInt - p651057.toInt)).toNat)) (gMA (gV D I) (pp_651075_Reader_word D I P651052 F651053 q651054 q651055 p651056 p651057 p651058 p651059 p651060 p651061 qo651062 p651063 p651064 p651065 qo651066 qo651067 p651068 f651069) gNA ((16 * (p651056.toInt - p651057.toInt)).toNat) ((160 * (p651056.toInt - p651057.toInt)).toNat)) ky_651075_Reader_word 186 [(2, .ref q651084), (1, .int z651076), (0, .ref q651054)] [] (va_pl P652532 F652526) (2 + (g652521.toInt : Int).toNat) (4 + 2 * n652523) := by
      intro n186_652542
      induction n186_652542 with
      | zero => intro P652532 F652526 g652520 g652521 q652522 n652523 f652524 bg652520 bg652521 bf652524 hsb652537 hfr652531 hm652533 he652527 hm652534 he652528 hm652535 he652529 hm652536 he652530 hq652525 x652538 x652539 x652540 x652541 x652542 hm186_652542; exact absurd hm186_652542 (Nat.not_lt_zero _)
      | succ n186_652542 ih186_652542 =>
        intro P652532 F652526 g652520 g652521 q652522 n652523 f652524 bg652520 bg652521 bf652524 hsb652537 hfr652531 hm652533 he652527 hm652534 he652528 hm652535 he652529 hm652536 he652530 hq652525 x652538 x652539 x652540 x652541 x652542 hm186_652542
        refine G_aload_n 2 dr_cX14_word_186 rfl ?_
        refine Gp_get 2 hm652533 he652527 dr_cX14_word_187 (gk_X14 D I) (Nat.le_of_ble_eq_true rfl) wr_9_34 rfl ?_
        refine G_aload_n 2 dr_cX14_word_190 rfl ?_
        refine Gp_get 1 hm652533 he652527 dr_cX14_word_191 (gk_X14 D I) (Nat.le_of_ble_eq_true rfl) wr_9_33 rfl ?_
        refine G_icmp_ge 240 dr_cX14_word_194 (by decide +kernel) (fun hc652543 => ?_) (fun hc652543 => ?_)
        · have r652544 : p651056.toInt ≤ g652520.toInt := gC_le hc652543
          have x652545 : p651057.toInt < g652520.toInt := by first | omega | exact cLt_lt x651072 (by assumption) (isP_0 (by assumption) (by omega)) (by omega)
          refine G_aload_n 2 dr_cX14_word_240 rfl ?_
          refine G_aload_n 0 dr_cX14_word_241 rfl ?_
          refine Gw_callV (As := []) (gV_ok D I) (cp_641174_StringBuilder_toString l hl0 D I P652532 F652526 q651084 q652522 0 g652521 f652524 n652523 hm652535 hm652536 he652529 he652530 (gB_w (gBl (show Int32.toInt 0 = 0 by decide)) (by decide) (by decide)) bg652521 bf652524 (by have qa0 : Int32.toInt 0 = 0 := (by decide); have qa1 : Int32.toInt 6 = 6 := (by decide); omega) (by have qa0 : Int32.toInt 0 = 0 := (by decide); have qa1 : Int32.toInt 6 = 6 := (by decide); omega)) dr_cX14_word_242 ⟨wr_8_62, wr_1_20, wr_8_65, by decide, rfl, (Nat.le_of_ble_eq_true rfl), (Nat.le_of_ble_eq_true rfl)⟩ wr_8_63 wr_8_64 hm652535 he652529 rfl (show 2 + (g652521.toInt : Int).toNat + 2 ≤ ((16 * (p651056.toInt - p651057.toInt)).toNat) by first | omega | decide) (show 4 + 2 * n652523 + (g652521.toInt.toNat + 4) ≤ ((160 * (p651056.toInt - p651057.toInt)).toNat) by first | omega | decide) (Nat.le_of_ble_eq_true rfl) (fun r652549 w652550 dc652546 ds652547 hp652548 => ?_) (fun _ _ _ _ _ z => z.elim)
          obtain ⟨P652557, F652558, q652551, q652552, n652553, f652554, rfl, rfl, hsb652559, hfr652560, he652561, he652562, he652563, he652564, hm652565, hq652566, hm652567, hq652568, hdc, hds, bf652554, x652555, x652556⟩ := hp652548
          have hm652569 : q651054 ∈ P652557 := hsb652559 q651054 hm652533
          have hm652570 : q651055 ∈ P652557 := hsb652559 q651055 hm652534
          have hm652571 : q651084 ∈ P652557 := hsb652559 q651084 hm652535
          have hm652572 : q652522 ∈ P652557 := hsb652559 q652522 hm652536
          have hq652573 : q652551 ∉ P651052 := fun z => hq652566 (hsb652537 q652551 z)
          have hq652574 : q652552 ∉ P651052 := fun z => hq652568 (hsb652537 q652552 z)
          have hsb652575 : rSub P651052 P652557 := rSub_tr hsb652537 hsb652559
          have he652576 : F652558 q651054 = .inr (19, [.ref q651055, .int p651056, .int g652520, .int 6, .int p651059, .int p651060, .int p651061, .ref qo651062, .int p651063, .int p651064, .int p651065, .ref qo651066, .ref qo651067, .int p651068]) := (hfr652560 q651054 hm652533 nm_n).trans he652527
          have he652577 : F652558 q651055 = .inl (I .byte, 8192, .inl f651069) := (hfr652560 q651055 hm652534 nm_n).trans he652528
          have hfr652578 : rFr [q651054] P651052 F651053 F652558 := rFr_call hsb652537 hfr652531 hfr652560 (fun b hb hn => ⟨(nm_c (fun e => hn (e ▸ List.mem_cons_self)) nm_n), nm_n⟩)
          have hne652579 : q652522 ≠ q652552 := fun h => hq652568 (h ▸ hm652536)
          change G _ _ _ _ _ _ _ (.ref q652551 :: _) _ _ _
          refine G_widen (cs' := 2 + (g652521.toInt : Int).toNat + 2) (sl' := 4 + 2 * n652523 + (g652521.toInt.toNat + 4)) (by omega) (by omega) ?_
          have x652580 : (n652553 : Int) = g652520.toInt - p651057.toInt := by omega
          clear he651080 he651081 hfr651082 he651091 he651092 he651093 hm651094 hm651095 hm651096 hfr651098 hsb651099 hsb651108 hfr651109 he651110 he651111 hm651112 hq651113 hm651114 hm651115 hm651116 hq651117 hsb651118 he651119 he651120 hfr651121 hsb652559 hfr652560 hq652566 hq652568; try clear r651103; try clear w651104; try clear dc651100; try clear ds651101; try clear hp651102; try clear r652549; try clear w652550; try clear dc652546; try clear ds652547; try clear hp652548
          refine Gp_put 7 hm652569 he652576 dr_cX14_word_245 (gk_X14 D I) (Nat.le_of_ble_eq_true rfl) wr_9_39 rfl rfl rfl (Nat.le_of_ble_eq_true rfl) (fun F652581 e652582 n652583 => ?_)
          have he652584 : F652581 q651055 = .inl (I .byte, 8192, .inl f651069) := (n652583 q651055 (rn_ao he652577 he652576)).trans he652577
          have he652585 : F652581 q652551 = .inr (0, [.ref q652552, .int 0, .int 0, .int 0]) := (n652583 q652551 (fun h => hq652573 (h ▸ hmq651054))).trans he652561
          have he652586 : F652581 q651084 = .inr (1, [.ref q652522, .int 0, .int 0, .int g652521]) := (n652583 q651084 (fun h => hq651097 (h ▸ hmq651054))).trans he652562
          have he652587 : F652581 q652522 = .inl (I .byte, n652523, .inl f652524) := (n652583 q652522 (fun h => hq652525 (h ▸ hmq651054))).trans he652563
          have he652588 : F652581 q652552 = .inl (I .byte, n652553, .inl f652554) := (n652583 q652552 (fun h => hq652574 (h ▸ hmq651054))).trans he652564
          have he652589 : F652581 q651054 = .inr (19, [.ref q651055, .int p651056, .int g652520, .int 6, .int p651059, .int p651060, .int p651061, .ref q652551, .int p651063, .int p651064, .int p651065, .ref qo651066, .ref qo651067, .int p651068]) := e652582
          have hfr652590 : rFr [q651054] P651052 F651053 F652581 := rFr_put' List.mem_cons_self hfr652578 n652583
          refine G_widen (cs' := (4 + (g652520.toInt - p651057.toInt) : Int).toNat) (sl' := (40 + 5 * (g652520.toInt - p651057.toInt) : Int).toNat) (by omega) (by omega) ?_
          clear he652561 he652562 he652563 he652564 he652576 he652577 hfr652578
          refine G_ldcK (a := D.2 1000 34) dr_cX14_word_248 (fun _ _ _ h => gx_vk 34 rfl rfl h) ?_
          have hl34_652590 : (sb_34.length : Int) = 25 := rfl
          refine G_new [.null, .int 0, .int 0, .int 0] dr_cX14_word_250 (gk_J4 D I) wr_7_231 wr_7_44 wr_1_20 (gfs_J4) (show (4 + (g652520.toInt - p651057.toInt) : Int).toNat + 1 ≤ ((16 * (p651056.toInt - p651057.toInt)).toNat) by first | omega | decide) (show (40 + 5 * (g652520.toInt - p651057.toInt) : Int).toNat + 4 ≤ ((160 * (p651056.toInt - p651057.toInt)).toNat) by first | omega | decide) (fun q652592 => Gp_in (fun P652593 F652594 hq652595 hP652596 e652597 n652598 => ?_))
          refine G_widen (cs' := (4 + (g652520.toInt - p651057.toInt) : Int).toNat + 1) (sl' := (40 + 5 * (g652520.toInt - p651057.toInt) : Int).toNat + 4) (by omega) (by omega) ?_
          have he652599 : F652594 q651054 = .inr (19, [.ref q651055, .int p651056, .int g652520, .int 6, .int p651059, .int p651060, .int p651061, .ref q652551, .int p651063, .int p651064, .int p651065, .ref qo651066, .ref qo651067, .int p651068]) := (n652598 q651054 (fun h => hq652595 (h ▸ hm652569))).trans he652589
          have he652600 : F652594 q651055 = .inl (I .byte, 8192, .inl f651069) := (n652598 q651055 (fun h => hq652595 (h ▸ hm652570))).trans he652584
          have he652601 : F652594 q652551 = .inr (0, [.ref q652552, .int 0, .int 0, .int 0]) := (n652598 q652551 (fun h => hq652595 (h ▸ hm652565))).trans he652585
          have he652602 : F652594 q651084 = .inr (1, [.ref q652522, .int 0, .int 0, .int g652521]) := (n652598 q651084 (fun h => hq652595 (h ▸ hm652571))).trans he652586
          have he652603 : F652594 q652522 = .inl (I .byte, n652523, .inl f652524) := (n652598 q652522 (fun h => hq652595 (h ▸ hm652572))).trans he652587
          have he652604 : F652594 q652552 = .inl (I .byte, n652553, .inl f652554) := (n652598 q652552 (fun h => hq652595 (h ▸ hm652567))).trans he652588
          have he652605 : F652594 q652592 = .inr (1, [.null, .int 0, .int 0, .int 0]) := e652597
          have hm652606 : q651054 ∈ P652593 := (hP652596 q651054).mpr (Or.inl hm652569)
          have hm652607 : q651055 ∈ P652593 := (hP652596 q651055).mpr (Or.inl hm652570)
          have hm652608 : q651084 ∈ P652593 := (hP652596 q651084).mpr (Or.inl hm652571)
          have hm652609 : q652522 ∈ P652593 := (hP652596 q652522).mpr (Or.inl hm652572)
          have hm652610 : q652551 ∈ P652593 := (hP652596 q652551).mpr (Or.inl hm652565)
          have hm652611 : q652552 ∈ P652593 := (hP652596 q652552).mpr (Or.inl hm652567)
          have hm652612 : q652592 ∈ P652593 := (hP652596 q652592).mpr (Or.inr rfl)
          have hq652613 : q652592 ∉ P651052 := fun z => hq652595 (hsb652575 q652592 z)
          have hfr652614 : rFr [q651054] P651052 F651053 F652594 := rFr_new hsb652575 hq652595 hfr652590 n652598
          have hsb652615 : rSub P651052 P652593 := rSub_new hsb652575 hP652596
          have hne652616 : q651084 ≠ q652592 := fun h => hq652595 (h ▸ hm652571)
          refine G_dup dr_cX14_word_253 rfl ?_
          refine Gw_callI (As := []) (gV_ok D I) (cp_640417_StringBuilder_init l hl0 D I P652593 F652594 q652592 0 0 hm652612 he652605 (gB_w (gBl (show Int32.toInt 0 = 0 by decide)) (by decide) (by decide)) (gB_w (gBl (show Int32.toInt 0 = 0 by decide)) (by decide) (by decide))) dr_cX14_word_254 ⟨wr_7_232, wr_1_20, wr_7_47, by decide, rfl, (Nat.le_of_ble_eq_true rfl), (Nat.le_of_ble_eq_true rfl)⟩ wr_7_46 rfl (show (4 + (g652520.toInt - p651057.toInt) : Int).toNat + 1 + 1 ≤ ((16 * (p651056.toInt - p651057.toInt)).toNat) by first | omega | decide) (show (40 + 5 * (g652520.toInt - p651057.toInt) : Int).toNat + 4 + 16 ≤ ((160 * (p651056.toInt - p651057.toInt)).toNat) by first | omega | decide) (Nat.le_of_ble_eq_true rfl) (fun r652620 w652621 dc652617 ds652618 hp652619 => ?_)
          obtain ⟨P652623, F652624, q652622, rfl, rfl, hsb652625, hfr652626, he652627, he652628, hm652629, hq652630, hdc, hds⟩ := hp652619
          have hm652631 : q651054 ∈ P652623 := hsb652625 q651054 hm652606
          have hm652632 : q651055 ∈ P652623 := hsb652625 q651055 hm652607
          have hm652633 : q651084 ∈ P652623 := hsb652625 q651084 hm652608
          have hm652634 : q652522 ∈ P652623 := hsb652625 q652522 hm652609
          have hm652635 : q652551 ∈ P652623 := hsb652625 q652551 hm652610
          have hm652636 : q652552 ∈ P652623 := hsb652625 q652552 hm652611
          have hm652637 : q652592 ∈ P652623 := hsb652625 q652592 hm652612
          have hq652638 : q652622 ∉ P651052 := fun z => hq652630 (hsb652615 q652622 z)
          have hsb652639 : rSub P651052 P652623 := rSub_tr hsb652615 hsb652625
          have he652640 : F652624 q651054 = .inr (19, [.ref q651055, .int p651056, .int g652520, .int 6, .int p651059, .int p651060, .int p651061, .ref q652551, .int p651063, .int p651064, .int p651065, .ref qo651066, .ref qo651067, .int p651068]) := (hfr652626 q651054 hm652606 (nm_c (fun h => hq652613 (h ▸ hmq651054)) nm_n)).trans he652599
          have he652641 : F652624 q651055 = .inl (I .byte, 8192, .inl f651069) := (hfr652626 q651055 hm652607 (nm_c (fun h => hq652613 (h ▸ hmq651055)) nm_n)).trans he652600
          have he652642 : F652624 q652551 = .inr (0, [.ref q652552, .int 0, .int 0, .int 0]) := (hfr652626 q652551 hm652610 (nm_c (rn_oo he652601 he652605 (by decide)) nm_n)).trans he652601
          have he652643 : F652624 q651084 = .inr (1, [.ref q652522, .int 0, .int 0, .int g652521]) := (hfr652626 q651084 hm652608 (nm_c hne652616 nm_n)).trans he652602
          have he652644 : F652624 q652522 = .inl (I .byte, n652523, .inl f652524) := (hfr652626 q652522 hm652609 (nm_c (rn_ao he652603 he652605) nm_n)).trans he652603
          have he652645 : F652624 q652552 = .inl (I .byte, n652553, .inl f652554) := (hfr652626 q652552 hm652611 (nm_c (rn_ao he652604 he652605) nm_n)).trans he652604
          have hfr652646 : rFr [q651054] P651052 F651053 F652624 := rFr_call hsb652615 hfr652614 hfr652626 (fun b hb hn => ⟨(nm_c (fun e => hn (e ▸ List.mem_cons_self)) nm_n), (nm_c (fun e => hq652613 (e ▸ hb)) nm_n)⟩)
          have hne652647 : q652522 ≠ q652622 := fun h => hq652630 (h ▸ hm652609)
          have hne652648 : q652552 ≠ q652622 := fun h => hq652630 (h ▸ hm652611)
          change G _ _ _ _ _ _ _ _ _ _ _
          refine G_widen (cs' := (4 + (g652520.toInt - p651057.toInt) : Int).toNat + 1 + 1) (sl' := (40 + 5 * (g652520.toInt - p651057.toInt) : Int).toNat + 4 + 16) (by omega) (by omega) ?_
          refine G_ldcK (a := D.2 1000 35) dr_cX14_word_257 (fun _ _ _ h => gx_vk 35 rfl rfl h) ?_
          have hl35_652648 : (sb_35.length : Int) = 1 := rfl
          refine Gw_callV (As := [.ref (D.2 1000 35)]) (gV_ok D I) (cp_640714_StringBuilder_append l hl0 D I P652623 F652624 q652592 q652622 (D.2 1000 35) (D.2 1001 35) sb_35 0 0 (fun _ => 0) 16 hm652637 hm652629 he652627 he652628 (gx_sc 35 rfl rfl) (by omega) (by decide +kernel) (gB_w (gBl (show Int32.toInt 0 = 0 by decide)) (by decide) (by decide)) (gB_w (gBl (show Int32.toInt 0 = 0 by decide)) (by decide) (by decide)) (gF_w gF_0 (by decide) (by decide)) (by have qa0 : Int32.toInt 0 = 0 := (by decide); have qa1 : Int32.toInt 6 = 6 := (by decide); omega) (by have qa0 : Int32.toInt 0 = 0 := (by decide); have qa1 : Int32.toInt 6 = 6 := (by decide); omega)) dr_cX14_word_259 ⟨wr_8_191, wr_1_20, wr_8_139, by decide, rfl, (Nat.le_of_ble_eq_true rfl), (Nat.le_of_ble_eq_true rfl)⟩ wr_8_137 wr_8_138 hm652637 he652627 rfl (show (4 + (g652520.toInt - p651057.toInt) : Int).toNat + 1 + 1 + 0 ≤ ((16 * (p651056.toInt - p651057.toInt)).toNat) by first | omega | decide) (show (40 + 5 * (g652520.toInt - p651057.toInt) : Int).toNat + 4 + 16 + 0 ≤ ((160 * (p651056.toInt - p651057.toInt)).toNat) by first | omega | decide) (Nat.le_of_ble_eq_true rfl) (fun r652653 w652654 dc652650 ds652651 hp652652 => ?_) (fun _ _ _ _ _ z => z.elim)
          obtain ⟨F652660, o652655, f652656, rfl, rfl, hfr652662, he652663, he652664, hdc, hds, bo652655, bf652656, x652657, x652658, x652659⟩ := hp652652
          have he652665 : F652660 q651054 = .inr (19, [.ref q651055, .int p651056, .int g652520, .int 6, .int p651059, .int p651060, .int p651061, .ref q652551, .int p651063, .int p651064, .int p651065, .ref qo651066, .ref qo651067, .int p651068]) := (hfr652662 q651054 hm652631 (nm_c (fun h => hq652613 (h ▸ hmq651054)) (nm_c (fun h => hq652638 (h ▸ hmq651054)) nm_n))).trans he652640
          have he652666 : F652660 q651055 = .inl (I .byte, 8192, .inl f651069) := (hfr652662 q651055 hm652632 (nm_c (fun h => hq652613 (h ▸ hmq651055)) (nm_c (fun h => hq652638 (h ▸ hmq651055)) nm_n))).trans he652641
          have he652667 : F652660 q652551 = .inr (0, [.ref q652552, .int 0, .int 0, .int 0]) := (hfr652662 q652551 hm652635 (nm_c (rn_oo he652642 he652627 (by decide)) (nm_c (rn_oa he652642 he652628) nm_n))).trans he652642
          have he652668 : F652660 q651084 = .inr (1, [.ref q652522, .int 0, .int 0, .int g652521]) := (hfr652662 q651084 hm652633 (nm_c hne652616 (nm_c (rn_oa he652643 he652628) nm_n))).trans he652643
          have he652669 : F652660 q652522 = .inl (I .byte, n652523, .inl f652524) := (hfr652662 q652522 hm652634 (nm_c (rn_ao he652644 he652627) (nm_c hne652647 nm_n))).trans he652644
          have he652670 : F652660 q652552 = .inl (I .byte, n652553, .inl f652554) := (hfr652662 q652552 hm652636 (nm_c (rn_ao he652645 he652627) (nm_c hne652648 nm_n))).trans he652645
          have hfr652671 : rFr [q651054] P651052 F651053 F652660 := rFr_call hsb652639 hfr652646 hfr652662 (fun b hb hn => ⟨(nm_c (fun e => hn (e ▸ List.mem_cons_self)) nm_n), (nm_c (fun e => hq652613 (e ▸ hb)) (nm_c (fun e => hq652638 (e ▸ hb)) nm_n))⟩)
          rw [show Int32.toInt 0 = 0 from by decide] at x652657
          have bo652655' : gB o652655 1 1 := ⟨by omega, by omega⟩
          rw [show Int32.toInt 0 = 0 from by decide] at x652658
          rw [show Int32.toInt 0 = 0 from by decide] at x652659
          change G _ _ _ _ _ _ _ (.ref q652592 :: _) _ _ _
          refine G_widen (cs' := (4 + (g652520.toInt - p651057.toInt) : Int).toNat + 1 + 1 + 0) (sl' := (40 + 5 * (g652520.toInt - p651057.toInt) : Int).toNat + 4 + 16 + 0) (by omega) (by omega) ?_
          refine G_aload_n 2 dr_cX14_word_262 rfl ?_
          clear hm652565 hm652567 hm652569 hm652570 hm652571 hm652572 hsb652575 he652584 he652585 he652586 he652587 he652588 he652589 hfr652590 he652599 he652600 he652601 he652602 he652603 he652604 he652605 hm652606 hm652607 hm652608 hm652609 hm652610 hm652611 hm652612 hfr652614 hsb652615 hsb652625 hfr652626 he652627 he652628 hq652630 he652640 he652641 he652642 he652643 he652644 he652645 hfr652646 hfr652662 bo652655; try clear r652620; try clear w652621; try clear dc652617; try clear ds652618; try clear hp652619; try clear r652653; try clear w652654; try clear dc652650; try clear ds652651; try clear hp652652
          refine Gp_get 7 hm652631 he652665 dr_cX14_word_263 (gk_X14 D I) (Nat.le_of_ble_eq_true rfl) wr_9_39 rfl ?_
          refine Gw_callV (As := [.ref q652551]) (gV_ok D I) (cp_640909_StringBuilder_append l hl0 D I P652623 F652660 q652592 q652551 q652622 q652552 0 o652655 0 0 f652656 16 f652554 n652553 hm652637 hm652635 hm652629 hm652636 he652663 he652667 he652664 he652670 (Ne.symm hne652648) (gB_w (gBl (show Int32.toInt 0 = 0 by decide)) (by decide) (by decide)) (gB_w bo652655' (by decide) (by decide)) (gB_w (gBl (show Int32.toInt 0 = 0 by decide)) (by decide) (by decide)) bf652656 bf652554 (by have qa0 : Int32.toInt 0 = 0 := (by decide); have qa1 : Int32.toInt 6 = 6 := (by decide); omega) (by have qa0 : Int32.toInt 0 = 0 := (by decide); have qa1 : Int32.toInt 6 = 6 := (by decide); omega) (by have qa0 : Int32.toInt 0 = 0 := (by decide); have qa1 : Int32.toInt 6 = 6 := (by decide); omega) (by have qa0 : Int32.toInt 0 = 0 := (by decide); have qa1 : Int32.toInt 6 = 6 := (by decide); omega) (by have qa0 : Int32.toInt 0 = 0 := (by decide); have qa1 : Int32.toInt 6 = 6 := (by decide); omega)) dr_cX14_word_266 ⟨wr_8_191, wr_1_20, wr_8_139, by decide, rfl, (Nat.le_of_ble_eq_true rfl), (Nat.le_of_ble_eq_true rfl)⟩ wr_8_137 wr_8_138 hm652637 he652663 rfl (show (4 + (g652520.toInt - p651057.toInt) : Int).toNat + 1 + 1 + 0 + 1 ≤ ((16 * (p651056.toInt - p651057.toInt)).toNat) by first | omega | decide) (show (40 + 5 * (g652520.toInt - p651057.toInt) : Int).toNat + 4 + 16 + 0 + (4 * 16 + 4 + 2 * n652553) ≤ ((160 * (p651056.toInt - p651057.toInt)).toNat) by first | omega | decide) (Nat.le_of_ble_eq_true rfl) (fun r652675 w652676 dc652672 ds652673 hp652674 => ?_) (fun _ _ _ _ _ z => z.elim)
          obtain ⟨P652686, F652687, o652677, q652678, n652679, f652680, rfl, rfl, hsb652688, hfr652689, he652690, he652691, he652692, he652693, hm652694, hq652695, hdc, hds, bo652677, bf652680, x652681, x652682, x652683, x652684, x652685⟩ := hp652674
          have hm652696 : q651054 ∈ P652686 := hsb652688 q651054 hm652631
          have hm652697 : q651055 ∈ P652686 := hsb652688 q651055 hm652632
          have hm652698 : q651084 ∈ P652686 := hsb652688 q651084 hm652633
          have hm652699 : q652522 ∈ P652686 := hsb652688 q652522 hm652634
          have hm652700 : q652551 ∈ P652686 := hsb652688 q652551 hm652635
          have hm652701 : q652552 ∈ P652686 := hsb652688 q652552 hm652636
          have hm652702 : q652592 ∈ P652686 := hsb652688 q652592 hm652637
          have hm652703 : q652622 ∈ P652686 := hsb652688 q652622 hm652629
          have hq652704 : q652678 ∉ P651052 := fun z => hq652695.elim (fun e => hq652638 (e ▸ z)) (fun n => n (hsb652639 _ z))
          have hsb652705 : rSub P651052 P652686 := rSub_tr hsb652639 hsb652688
          have he652706 : F652687 q651054 = .inr (19, [.ref q651055, .int p651056, .int g652520, .int 6, .int p651059, .int p651060, .int p651061, .ref q652551, .int p651063, .int p651064, .int p651065, .ref qo651066, .ref qo651067, .int p651068]) := (hfr652689 q651054 hm652631 (nm_c (fun h => hq652613 (h ▸ hmq651054)) (nm_c (fun h => hq652638 (h ▸ hmq651054)) nm_n))).trans he652665
          have he652707 : F652687 q651055 = .inl (I .byte, 8192, .inl f651069) := (hfr652689 q651055 hm652632 (nm_c (fun h => hq652613 (h ▸ hmq651055)) (nm_c (fun h => hq652638 (h ▸ hmq651055)) nm_n))).trans he652666
          have he652708 : F652687 q651084 = .inr (1, [.ref q652522, .int 0, .int 0, .int g652521]) := (hfr652689 q651084 hm652633 (nm_c hne652616 (nm_c (rn_oa he652668 he652664) nm_n))).trans he652668
          have he652709 : F652687 q652522 = .inl (I .byte, n652523, .inl f652524) := (hfr652689 q652522 hm652634 (nm_c (rn_ao he652669 he652663) (nm_c hne652647 nm_n))).trans he652669
          have hfr652710 : rFr [q651054] P651052 F651053 F652687 := rFr_call hsb652639 hfr652671 hfr652689 (fun b hb hn => ⟨(nm_c (fun e => hn (e ▸ List.mem_cons_self)) nm_n), (nm_c (fun e => hq652613 (e ▸ hb)) (nm_c (fun e => hq652638 (e ▸ hb)) nm_n))⟩)
          have hne652711 : q652522 ≠ q652678 := fun e => hq652695.elim (fun e2 => hne652647 (e.trans e2)) (fun n => n (e ▸ hm652634))
          have hne652712 : q652552 ≠ q652678 := fun e => hq652695.elim (fun e2 => hne652648 (e.trans e2)) (fun n => n (e ▸ hm652636))
          have bo652677' : gB o652677 1 16777216 := ⟨by omega, by omega⟩
          change G _ _ _ _ _ _ _ (.ref q652592 :: _) _ _ _
          refine G_widen (cs' := (4 + (g652520.toInt - p651057.toInt) : Int).toNat + 1 + 1 + 0 + 1) (sl' := (40 + 5 * (g652520.toInt - p651057.toInt) : Int).toNat + 4 + 16 + 0 + (2 * (n652679 - 16))) (by omega) (by omega) ?_
          refine G_widen (cs' := (7 + (g652520.toInt - p651057.toInt) : Int).toNat) (sl' := (60 + 10 * (g652520.toInt - p651057.toInt) : Int).toNat) (by omega) (by omega) ?_
          clear hm652629 hm652631 hm652632 hm652633 hm652634 hm652635 hm652636 hm652637 hq652638 hsb652639 hne652647 hne652648 he652663 he652664 bf652656 he652665 he652666 he652667 he652668 he652669 he652670 hfr652671 hsb652688 hfr652689 hq652695 bo652677 hm652703; try clear x652658; try clear x652659; try clear r652675; try clear w652676; try clear dc652672; try clear ds652673; try clear hp652674
          refine G_ldcK (a := D.2 1000 35) dr_cX14_word_269 (fun _ _ _ h => gx_vk 35 rfl rfl h) ?_
          have hl35_652712 : (sb_35.length : Int) = 1 := rfl
          refine Gw_callV (As := [.ref (D.2 1000 35)]) (gV_ok D I) (cp_641053_StringBuilder_append l hl0 D I P652686 F652687 q652592 q652678 (D.2 1000 35) (D.2 1001 35) sb_35 0 o652677 f652680 n652679 hm652702 hm652694 he652690 he652692 (gx_sc 35 rfl rfl) (by omega) (by decide +kernel) (gB_w (gBl (show Int32.toInt 0 = 0 by decide)) (by decide) (by decide)) (gB_w bo652677' (by decide) (by decide)) bf652680 (by have qa0 : Int32.toInt 0 = 0 := (by decide); have qa1 : Int32.toInt 6 = 6 := (by decide); omega) (by have qa0 : Int32.toInt 0 = 0 := (by decide); have qa1 : Int32.toInt 6 = 6 := (by decide); omega) (by have qa0 : Int32.toInt 0 = 0 := (by decide); have qa1 : Int32.toInt 6 = 6 := (by decide); omega) (by have qa0 : Int32.toInt 0 = 0 := (by decide); have qa1 : Int32.toInt 6 = 6 := (by decide); omega)) dr_cX14_word_271 ⟨wr_8_191, wr_1_20, wr_8_139, by decide, rfl, (Nat.le_of_ble_eq_true rfl), (Nat.le_of_ble_eq_true rfl)⟩ wr_8_137 wr_8_138 hm652702 he652690 rfl (show (7 + (g652520.toInt - p651057.toInt) : Int).toNat + 1 ≤ ((16 * (p651056.toInt - p651057.toInt)).toNat) by first | omega | decide) (show (60 + 10 * (g652520.toInt - p651057.toInt) : Int).toNat + (4 * n652679 + 4 + 2 * sb_35.length) ≤ ((160 * (p651056.toInt - p651057.toInt)).toNat) by first | omega | decide) (Nat.le_of_ble_eq_true rfl) (fun r652717 w652718 dc652714 ds652715 hp652716 => ?_) (fun _ _ _ _ _ z => z.elim)
          obtain ⟨P652728, F652729, o652719, q652720, n652721, f652722, rfl, rfl, hsb652730, hfr652731, he652732, he652733, hm652734, hq652735, hdc, hds, bo652719, bf652722, x652723, x652724, x652725, x652726, x652727⟩ := hp652716
          have hm652736 : q651054 ∈ P652728 := hsb652730 q651054 hm652696
          have hm652737 : q651055 ∈ P652728 := hsb652730 q651055 hm652697
          have hm652738 : q651084 ∈ P652728 := hsb652730 q651084 hm652698
          have hm652739 : q652522 ∈ P652728 := hsb652730 q652522 hm652699
          have hm652740 : q652551 ∈ P652728 := hsb652730 q652551 hm652700
          have hm652741 : q652552 ∈ P652728 := hsb652730 q652552 hm652701
          have hm652742 : q652592 ∈ P652728 := hsb652730 q652592 hm652702
          have hm652743 : q652678 ∈ P652728 := hsb652730 q652678 hm652694
          have hq652744 : q652720 ∉ P651052 := fun z => hq652735.elim (fun e => hq652704 (e ▸ z)) (fun n => n (hsb652705 _ z))
          have hsb652745 : rSub P651052 P652728 := rSub_tr hsb652705 hsb652730
          have he652746 : F652729 q651054 = .inr (19, [.ref q651055, .int p651056, .int g652520, .int 6, .int p651059, .int p651060, .int p651061, .ref q652551, .int p651063, .int p651064, .int p651065, .ref qo651066, .ref qo651067, .int p651068]) := (hfr652731 q651054 hm652696 (nm_c (fun h => hq652613 (h ▸ hmq651054)) (nm_c (fun h => hq652704 (h ▸ hmq651054)) nm_n))).trans he652706
          have he652747 : F652729 q651055 = .inl (I .byte, 8192, .inl f651069) := (hfr652731 q651055 hm652697 (nm_c (fun h => hq652613 (h ▸ hmq651055)) (nm_c (fun h => hq652704 (h ▸ hmq651055)) nm_n))).trans he652707
          have he652748 : F652729 q651084 = .inr (1, [.ref q652522, .int 0, .int 0, .int g652521]) := (hfr652731 q651084 hm652698 (nm_c hne652616 (nm_c (rn_oa he652708 he652692) nm_n))).trans he652708
          have he652749 : F652729 q652522 = .inl (I .byte, n652523, .inl f652524) := (hfr652731 q652522 hm652699 (nm_c (rn_ao he652709 he652690) (nm_c hne652711 nm_n))).trans he652709
          have he652750 : F652729 q652551 = .inr (0, [.ref q652552, .int 0, .int 0, .int 0]) := (hfr652731 q652551 hm652700 (nm_c (rn_oo he652691 he652690 (by decide)) (nm_c (rn_oa he652691 he652692) nm_n))).trans he652691
          have he652751 : F652729 q652552 = .inl (I .byte, n652553, .inl f652554) := (hfr652731 q652552 hm652701 (nm_c (rn_ao he652693 he652690) (nm_c hne652712 nm_n))).trans he652693
          have hfr652752 : rFr [q651054] P651052 F651053 F652729 := rFr_call hsb652705 hfr652710 hfr652731 (fun b hb hn => ⟨(nm_c (fun e => hn (e ▸ List.mem_cons_self)) nm_n), (nm_c (fun e => hq652613 (e ▸ hb)) (nm_c (fun e => hq652704 (e ▸ hb)) nm_n))⟩)
          have hne652753 : q652522 ≠ q652720 := fun e => hq652735.elim (fun e2 => hne652711 (e.trans e2)) (fun n => n (e ▸ hm652699))
          have hne652754 : q652552 ≠ q652720 := fun e => hq652735.elim (fun e2 => hne652712 (e.trans e2)) (fun n => n (e ▸ hm652701))
          have bo652719' : gB o652719 2 16777216 := ⟨by omega, by omega⟩
          change G _ _ _ _ _ _ _ (.ref q652592 :: _) _ _ _
          refine G_widen (cs' := (7 + (g652520.toInt - p651057.toInt) : Int).toNat + 1) (sl' := (60 + 10 * (g652520.toInt - p651057.toInt) : Int).toNat + (2 * (n652721 - n652679))) (by omega) (by omega) ?_
          refine G_widen (cs' := (8 + (g652520.toInt - p651057.toInt) : Int).toNat) (sl' := (60 + 15 * (g652520.toInt - p651057.toInt) : Int).toNat) (by omega) (by omega) ?_
          clear he652690 he652691 he652692 he652693 hm652694 bf652680 hm652696 hm652697 hm652698 hm652699 hm652700 hm652701 hm652702 hq652704 hsb652705 he652706 he652707 he652708 he652709 hfr652710 hne652711 hne652712 hsb652730 hfr652731 hq652735 bo652719 hm652743; try clear r652717; try clear w652718; try clear dc652714; try clear ds652715; try clear hp652716
          refine Gw_callV (As := []) (gV_ok D I) (cp_641174_StringBuilder_toString l hl0 D I P652728 F652729 q652592 q652720 0 o652719 f652722 n652721 hm652742 hm652734 he652732 he652733 (gB_w (gBl (show Int32.toInt 0 = 0 by decide)) (by decide) (by decide)) (gB_w bo652719' (by decide) (by decide)) bf652722 (by have qa0 : Int32.toInt 0 = 0 := (by decide); have qa1 : Int32.toInt 6 = 6 := (by decide); omega) (by have qa0 : Int32.toInt 0 = 0 := (by decide); have qa1 : Int32.toInt 6 = 6 := (by decide); omega)) dr_cX14_word_274 ⟨wr_8_62, wr_1_20, wr_8_65, by decide, rfl, (Nat.le_of_ble_eq_true rfl), (Nat.le_of_ble_eq_true rfl)⟩ wr_8_63 wr_8_64 hm652742 he652732 rfl (show (8 + (g652520.toInt - p651057.toInt) : Int).toNat + 2 ≤ ((16 * (p651056.toInt - p651057.toInt)).toNat) by first | omega | decide) (show (60 + 15 * (g652520.toInt - p651057.toInt) : Int).toNat + (o652719.toInt.toNat + 4) ≤ ((160 * (p651056.toInt - p651057.toInt)).toNat) by first | omega | decide) (Nat.le_of_ble_eq_true rfl) (fun r652758 w652759 dc652755 ds652756 hp652757 => ?_) (fun _ _ _ _ _ z => z.elim)
          obtain ⟨P652766, F652767, q652760, q652761, n652762, f652763, rfl, rfl, hsb652768, hfr652769, he652770, he652771, he652772, he652773, hm652774, hq652775, hm652776, hq652777, hdc, hds, bf652763, x652764, x652765⟩ := hp652757
          have hm652778 : q651054 ∈ P652766 := hsb652768 q651054 hm652736
          have hm652779 : q651055 ∈ P652766 := hsb652768 q651055 hm652737
          have hm652780 : q651084 ∈ P652766 := hsb652768 q651084 hm652738
          have hm652781 : q652522 ∈ P652766 := hsb652768 q652522 hm652739
          have hm652782 : q652551 ∈ P652766 := hsb652768 q652551 hm652740
          have hm652783 : q652552 ∈ P652766 := hsb652768 q652552 hm652741
          have hm652784 : q652592 ∈ P652766 := hsb652768 q652592 hm652742
          have hm652785 : q652720 ∈ P652766 := hsb652768 q652720 hm652734
          have hq652786 : q652760 ∉ P651052 := fun z => hq652775 (hsb652745 q652760 z)
          have hq652787 : q652761 ∉ P651052 := fun z => hq652777 (hsb652745 q652761 z)
          have hsb652788 : rSub P651052 P652766 := rSub_tr hsb652745 hsb652768
          have he652789 : F652767 q651054 = .inr (19, [.ref q651055, .int p651056, .int g652520, .int 6, .int p651059, .int p651060, .int p651061, .ref q652551, .int p651063, .int p651064, .int p651065, .ref qo651066, .ref qo651067, .int p651068]) := (hfr652769 q651054 hm652736 nm_n).trans he652746
          have he652790 : F652767 q651055 = .inl (I .byte, 8192, .inl f651069) := (hfr652769 q651055 hm652737 nm_n).trans he652747
          have he652791 : F652767 q651084 = .inr (1, [.ref q652522, .int 0, .int 0, .int g652521]) := (hfr652769 q651084 hm652738 nm_n).trans he652748
          have he652792 : F652767 q652522 = .inl (I .byte, n652523, .inl f652524) := (hfr652769 q652522 hm652739 nm_n).trans he652749
          have he652793 : F652767 q652551 = .inr (0, [.ref q652552, .int 0, .int 0, .int 0]) := (hfr652769 q652551 hm652740 nm_n).trans he652750
          have he652794 : F652767 q652552 = .inl (I .byte, n652553, .inl f652554) := (hfr652769 q652552 hm652741 nm_n).trans he652751
          have hfr652795 : rFr [q651054] P651052 F651053 F652767 := rFr_call hsb652745 hfr652752 hfr652769 (fun b hb hn => ⟨(nm_c (fun e => hn (e ▸ List.mem_cons_self)) nm_n), nm_n⟩)
          have hne652796 : q652551 ≠ q652760 := fun h => hq652775 (h ▸ hm652740)
          have hne652797 : q652522 ≠ q652761 := fun h => hq652777 (h ▸ hm652739)
          have hne652798 : q652552 ≠ q652761 := fun h => hq652777 (h ▸ hm652741)
          have hne652799 : q652720 ≠ q652761 := fun h => hq652777 (h ▸ hm652734)
          change G _ _ _ _ _ _ _ (.ref q652760 :: _) _ _ _
          refine G_widen (cs' := (8 + (g652520.toInt - p651057.toInt) : Int).toNat + 2) (sl' := (60 + 15 * (g652520.toInt - p651057.toInt) : Int).toNat + (o652719.toInt.toNat + 4)) (by omega) (by omega) ?_
          refine G_widen (cs' := (10 + (g652520.toInt - p651057.toInt) : Int).toNat) (sl' := (66 + 16 * (g652520.toInt - p651057.toInt) : Int).toNat) (by omega) (by omega) ?_
          clear hq652613 hne652616 he652732 he652733 hm652734 bf652722 hm652736 hm652737 hm652738 hm652739 hm652740 hm652741 hm652742 hq652744 hsb652745 he652746 he652747 he652748 he652749 he652750 he652751 hfr652752 hne652753 hne652754 hsb652768 hfr652769 he652771 he652772 hq652775 hq652777 hm652784 hm652785 hne652799; try clear r652758; try clear w652759; try clear dc652755; try clear ds652756; try clear hp652757; try clear x652765
          refine Gw_callVk (As := [.ref q652760]) (gV_ok D I) (cp_641623_String_indexOf l hl0 D I P652766 F652767 q652760 q652761 (D.2 1000 34) (D.2 1001 34) sb_34 0 0 f652763 n652762 hm652774 hm652776 he652770 he652773 (gx_sc 34 rfl rfl) (by omega) (by decide +kernel) (gB_w (gBl (show Int32.toInt 0 = 0 by decide)) (by decide) (by decide)) bf652763 (by have qa0 : Int32.toInt 0 = 0 := (by decide); have qa1 : Int32.toInt 6 = 6 := (by decide); omega) (by have qa0 : Int32.toInt 0 = 0 := (by decide); have qa1 : Int32.toInt 6 = 6 := (by decide); omega)) dr_cX14_word_277 ⟨wr_8_192, wr_1_21, wr_8_195, by decide, rfl, (Nat.le_of_ble_eq_true rfl), (Nat.le_of_ble_eq_true rfl)⟩ wr_8_193 wr_8_194 (fun _ _ _ h => ((gx_sc 34 rfl rfl) _ _ _ h).1) (show (10 + (g652520.toInt - p651057.toInt) : Int).toNat + 0 ≤ ((16 * (p651056.toInt - p651057.toInt)).toNat) by first | omega | decide) (show (66 + 16 * (g652520.toInt - p651057.toInt) : Int).toNat + 0 ≤ ((160 * (p651056.toInt - p651057.toInt)).toNat) by first | omega | decide) (Nat.le_of_ble_eq_true rfl) (fun r652803 w652804 dc652800 ds652801 hp652802 => ?_) (fun _ _ _ _ _ z => z.elim)
          obtain ⟨o652805, rfl, rfl, hdc, hds, bo652805, x652806, x652807⟩ := hp652802
          change G _ _ _ _ _ _ _ (.int o652805 :: _) _ _ _
          refine G_widen (cs' := (10 + (g652520.toInt - p651057.toInt) : Int).toNat + 0) (sl' := (66 + 16 * (g652520.toInt - p651057.toInt) : Int).toNat + 0) (by omega) (by omega) ?_
          clear he652770 he652773 hm652774 hm652776 bf652763 hq652786 hq652787 hne652796 hne652797 hne652798; try clear r652803; try clear w652804; try clear dc652800; try clear ds652801; try clear hp652802; try clear x652807
          refine G_if_lt 288 dr_cX14_word_280 (by decide +kernel) (fun hc652808 => ?_) (fun hc652808 => ?_)
          · have r652809 : o652805.toInt < 0 := gj_lt hc652808 (show Int32.toInt 0 = 0 by decide)
            have bo652805' : gB o652805 (-2147483646) (-1) := ⟨by omega, by omega⟩
            exact G_vretA dr_cX14_word_288 rfl (show (10 + (g652520.toInt - p651057.toInt) : Int).toNat + 0 ≤ ((16 * (p651056.toInt - p651057.toInt)).toNat) by omega) (show (66 + 16 * (g652520.toInt - p651057.toInt) : Int).toNat + 0 ≤ ((160 * (p651056.toInt - p651057.toInt)).toNat) by omega) ⟨P652766, F652767, g652520, 6, p651060, q652551, rfl, rfl, hsb652788, hfr652795, he652789, he652790, (by omega), (by omega), bg652520, (gB_w (gBl (show Int32.toInt 6 = 6 by decide)) (by decide) (by decide)), (by have qa0 : Int32.toInt 0 = 0 := (by decide); have qa1 : Int32.toInt 6 = 6 := (by decide); omega), (by have qa0 : Int32.toInt 0 = 0 := (by decide); have qa1 : Int32.toInt 6 = 6 := (by decide); omega), (tP_no (by decide) (by decide)), (vP_no (by decide) (by decide))⟩
          · have r652810 : 0 ≤ o652805.toInt := gj_nlt hc652808 (show Int32.toInt 0 = 0 by decide)
            have bo652805' : gB o652805 0 16777215 := ⟨by omega, by omega⟩
            refine G_aload_n 2 dr_cX14_word_283 rfl ?_
            refine G_iconst 1 dr_cX14_word_284 (by decide +kernel) ?_
            refine Gp_put 3 hm652778 he652789 dr_cX14_word_285 (gk_X14 D I) (Nat.le_of_ble_eq_true rfl) wr_9_35 rfl rfl rfl (Nat.le_of_ble_eq_true rfl) (fun F652811 e652812 n652813 => ?_)
            have he652814 : F652811 q651055 = .inl (I .byte, 8192, .inl f651069) := (n652813 q651055 (rn_ao he652790 he652789)).trans he652790
            have he652815 : F652811 q651084 = .inr (1, [.ref q652522, .int 0, .int 0, .int g652521]) := (n652813 q651084 (fun h => hq651097 (h ▸ hmq651054))).trans he652791
            have he652816 : F652811 q652522 = .inl (I .byte, n652523, .inl f652524) := (n652813 q652522 (fun h => hq652525 (h ▸ hmq651054))).trans he652792
            have he652817 : F652811 q652551 = .inr (0, [.ref q652552, .int 0, .int 0, .int 0]) := (n652813 q652551 (fun h => hq652573 (h ▸ hmq651054))).trans he652793
            have he652818 : F652811 q652552 = .inl (I .byte, n652553, .inl f652554) := (n652813 q652552 (fun h => hq652574 (h ▸ hmq651054))).trans he652794
            have he652819 : F652811 q651054 = .inr (19, [.ref q651055, .int p651056, .int g652520, .int 1, .int p651059, .int p651060, .int p651061, .ref q652551, .int p651063, .int p651064, .int p651065, .ref qo651066, .ref qo651067, .int p651068]) := e652812
            have hfr652820 : rFr [q651054] P651052 F651053 F652811 := rFr_put' List.mem_cons_self hfr652795 n652813
            exact G_vretA dr_cX14_word_288 rfl (show (10 + (g652520.toInt - p651057.toInt) : Int).toNat + 0 ≤ ((16 * (p651056.toInt - p651057.toInt)).toNat) by omega) (show (66 + 16 * (g652520.toInt - p651057.toInt) : Int).toNat + 0 ≤ ((160 * (p651056.toInt - p651057.toInt)).toNat) by omega) ⟨P652766, F652811, g652520, 1, p651060, q652551, rfl, rfl, hsb652788, hfr652820, he652819, he652814, (by omega), (by omega), bg652520, (gB_w (gBl (show Int32.toInt 1 = 1 by decide)) (by decide) (by decide)), (by have qa0 : Int32.toInt 0 = 0 := (by decide); have qa1 : Int32.toInt 1 = 1 := (by decide); omega), (by have qa0 : Int32.toInt 0 = 0 := (by decide); have qa1 : Int32.toInt 1 = 1 := (by decide); omega), (tP_1 hm652782 he652817 hm652783 he652818 bf652554 (by omega) (gB_w (gBl (show Int32.toInt 0 = 0 by decide)) (by decide) (by decide)) (fun e => hq652574 (e ▸ x651073)) (fun e => hq652574 (e ▸ x651074))), (vP_no (by decide) (by decide))⟩
        · have r652821 : g652520.toInt < p651056.toInt := gC_nle hc652543
          have bg652520' : gB g652520 0 8191 := ⟨by omega, by omega⟩
          have bp651056' : gB p651056 1 8192 := ⟨by omega, by omega⟩
          refine G_aload_n 2 dr_cX14_word_197 rfl ?_
          refine Gp_get 0 hm652533 he652527 dr_cX14_word_198 (gk_X14 D I) (Nat.le_of_ble_eq_true rfl) wr_9_32 rfl ?_
          refine G_aload_n 2 dr_cX14_word_201 rfl ?_
          refine Gp_get 2 hm652533 he652527 dr_cX14_word_202 (gk_X14 D I) (Nat.le_of_ble_eq_true rfl) wr_9_34 rfl ?_
          refine Gp_bald 1 hm652534 he652528 dr_cX14_word_205 rfl (gB_in bg652520' (by decide) (by decide)) (G_nam fun z652822 hz652822 => ?_)
          have bz652822 : gB z652822 (-128) 127 := by rw [hz652822]; exact bf651069 _
          refine Gw_callS (As := [.int z652822]) (gV_ok D I) (cp_651412_Reader_isLetter l hl0 D I P652532 F652526 z652822 ) dr_cX14_word_206 ⟨wr_7_218, wr_1_32, wr_7_220, by decide, rfl, (Nat.le_of_ble_eq_true rfl), (Nat.le_of_ble_eq_true rfl)⟩ wr_7_219 (show 2 + (g652521.toInt : Int).toNat + 0 ≤ ((16 * (p651056.toInt - p651057.toInt)).toNat) by first | omega | decide) (show 4 + 2 * n652523 + 0 ≤ ((160 * (p651056.toInt - p651057.toInt)).toNat) by first | omega | decide) (Nat.le_of_ble_eq_true rfl) (fun r652826 w652827 dc652823 ds652824 hp652825 => ?_) (fun _ _ _ _ _ z => z.elim)
          obtain ⟨o652828, rfl, rfl, hdc, hds, bo652828, x652829⟩ := hp652825
          change G _ _ _ _ _ _ _ (.int o652828 :: _) _ _ _
          refine G_widen (cs' := 2 + (g652521.toInt : Int).toNat + 0) (sl' := 4 + 2 * n652523 + 0) (by omega) (by omega) ?_
          refine G_if_eq 240 dr_cX14_word_209 (by decide +kernel) (fun hc652830 => ?_) (fun hc652830 => ?_)
          · have r652831 : o652828.toInt = 0 := gj_eq hc652830 (show Int32.toInt 0 = 0 by decide)
            have bo652828' : gB o652828 0 0 := ⟨by omega, by omega⟩
            have x652832 : p651057.toInt < g652520.toInt := by first | omega | exact cLt_lt x651072 (by assumption) (isP_0 (by assumption) (by omega)) (by omega)
            refine G_aload_n 2 dr_cX14_word_240 rfl ?_
            refine G_aload_n 0 dr_cX14_word_241 rfl ?_
            refine Gw_callV (As := []) (gV_ok D I) (cp_641174_StringBuilder_toString l hl0 D I P652532 F652526 q651084 q652522 0 g652521 f652524 n652523 hm652535 hm652536 he652529 he652530 (gB_w (gBl (show Int32.toInt 0 = 0 by decide)) (by decide) (by decide)) bg652521 bf652524 (by have qa0 : Int32.toInt 0 = 0 := (by decide); have qa1 : Int32.toInt 6 = 6 := (by decide); omega) (by have qa0 : Int32.toInt 0 = 0 := (by decide); have qa1 : Int32.toInt 6 = 6 := (by decide); omega)) dr_cX14_word_242 ⟨wr_8_62, wr_1_20, wr_8_65, by decide, rfl, (Nat.le_of_ble_eq_true rfl), (Nat.le_of_ble_eq_true rfl)⟩ wr_8_63 wr_8_64 hm652535 he652529 rfl (show 2 + (g652521.toInt : Int).toNat + 0 + 2 ≤ ((16 * (p651056.toInt - p651057.toInt)).toNat) by first | omega | decide) (show 4 + 2 * n652523 + 0 + (g652521.toInt.toNat + 4) ≤ ((160 * (p651056.toInt - p651057.toInt)).toNat) by first | omega | decide) (Nat.le_of_ble_eq_true rfl) (fun r652836 w652837 dc652833 ds652834 hp652835 => ?_) (fun _ _ _ _ _ z => z.elim)
            obtain ⟨P652844, F652845, q652838, q652839, n652840, f652841, rfl, rfl, hsb652846, hfr652847, he652848, he652849, he652850, he652851, hm652852, hq652853, hm652854, hq652855, hdc, hds, bf652841, x652842, x652843⟩ := hp652835
            have hm652856 : q651054 ∈ P652844 := hsb652846 q651054 hm652533
            have hm652857 : q651055 ∈ P652844 := hsb652846 q651055 hm652534
            have hm652858 : q651084 ∈ P652844 := hsb652846 q651084 hm652535
            have hm652859 : q652522 ∈ P652844 := hsb652846 q652522 hm652536
            have hq652860 : q652838 ∉ P651052 := fun z => hq652853 (hsb652537 q652838 z)
            have hq652861 : q652839 ∉ P651052 := fun z => hq652855 (hsb652537 q652839 z)
            have hsb652862 : rSub P651052 P652844 := rSub_tr hsb652537 hsb652846
            have he652863 : F652845 q651054 = .inr (19, [.ref q651055, .int p651056, .int g652520, .int 6, .int p651059, .int p651060, .int p651061, .ref qo651062, .int p651063, .int p651064, .int p651065, .ref qo651066, .ref qo651067, .int p651068]) := (hfr652847 q651054 hm652533 nm_n).trans he652527
            have he652864 : F652845 q651055 = .inl (I .byte, 8192, .inl f651069) := (hfr652847 q651055 hm652534 nm_n).trans he652528
            have hfr652865 : rFr [q651054] P651052 F651053 F652845 := rFr_call hsb652537 hfr652531 hfr652847 (fun b hb hn => ⟨(nm_c (fun e => hn (e ▸ List.mem_cons_self)) nm_n), nm_n⟩)
            have hne652866 : q652522 ≠ q652839 := fun h => hq652855 (h ▸ hm652536)
            change G _ _ _ _ _ _ _ (.ref q652838 :: _) _ _ _
            refine G_widen (cs' := 2 + (g652521.toInt : Int).toNat + 0 + 2) (sl' := 4 + 2 * n652523 + 0 + (g652521.toInt.toNat + 4)) (by omega) (by omega) ?_
            have x652867 : (n652840 : Int) = g652520.toInt - p651057.toInt := by omega
            clear he651080 he651081 hfr651082 he651091 he651092 he651093 hm651094 hm651095 hm651096 hfr651098 hsb651099 hsb651108 hfr651109 he651110 he651111 hm651112 hq651113 hm651114 hm651115 hm651116 hq651117 hsb651118 he651119 he651120 hfr651121 bo652828 bo652828' hsb652846 hfr652847 hq652853 hq652855; try clear r651103; try clear w651104; try clear dc651100; try clear ds651101; try clear hp651102; try clear r652826; try clear w652827; try clear dc652823; try clear ds652824; try clear hp652825; try clear x652829; try clear r652831; try clear r652836; try clear w652837; try clear dc652833; try clear ds652834; try clear hp652835
            refine Gp_put 7 hm652856 he652863 dr_cX14_word_245 (gk_X14 D I) (Nat.le_of_ble_eq_true rfl) wr_9_39 rfl rfl rfl (Nat.le_of_ble_eq_true rfl) (fun F652868 e652869 n652870 => ?_)
            have he652871 : F652868 q651055 = .inl (I .byte, 8192, .inl f651069) := (n652870 q651055 (rn_ao he652864 he652863)).trans he652864
            have he652872 : F652868 q652838 = .inr (0, [.ref q652839, .int 0, .int 0, .int 0]) := (n652870 q652838 (fun h => hq652860 (h ▸ hmq651054))).trans he652848
            have he652873 : F652868 q651084 = .inr (1, [.ref q652522, .int 0, .int 0, .int g652521]) := (n652870 q651084 (fun h => hq651097 (h ▸ hmq651054))).trans he652849
            have he652874 : F652868 q652522 = .inl (I .byte, n652523, .inl f652524) := (n652870 q652522 (fun h => hq652525 (h ▸ hmq651054))).trans he652850
            have he652875 : F652868 q652839 = .inl (I .byte, n652840, .inl f652841) := (n652870 q652839 (fun h => hq652861 (h ▸ hmq651054))).trans he652851
            have he652876 : F652868 q651054 = .inr (19, [.ref q651055, .int p651056, .int g652520, .int 6, .int p651059, .int p651060, .int p651061, .ref q652838, .int p651063, .int p651064, .int p651065, .ref qo651066, .ref qo651067, .int p651068]) := e652869
            have hfr652877 : rFr [q651054] P651052 F651053 F652868 := rFr_put' List.mem_cons_self hfr652865 n652870
            refine G_widen (cs' := (4 + (g652520.toInt - p651057.toInt) : Int).toNat) (sl' := (40 + 5 * (g652520.toInt - p651057.toInt) : Int).toNat) (by omega) (by omega) ?_
            clear he652848 he652849 he652850 he652851 he652863 he652864 hfr652865
            refine G_ldcK (a := D.2 1000 34) dr_cX14_word_248 (fun _ _ _ h => gx_vk 34 rfl rfl h) ?_
            have hl34_652877 : (sb_34.length : Int) = 25 := rfl
            refine G_new [.null, .int 0, .int 0, .int 0] dr_cX14_word_250 (gk_J4 D I) wr_7_231 wr_7_44 wr_1_20 (gfs_J4) (show (4 + (g652520.toInt - p651057.toInt) : Int).toNat + 1 ≤ ((16 * (p651056.toInt - p651057.toInt)).toNat) by first | omega | decide) (show (40 + 5 * (g652520.toInt - p651057.toInt) : Int).toNat + 4 ≤ ((160 * (p651056.toInt - p651057.toInt)).toNat) by first | omega | decide) (fun q652879 => Gp_in (fun P652880 F652881 hq652882 hP652883 e652884 n652885 => ?_))
            refine G_widen (cs' := (4 + (g652520.toInt - p651057.toInt) : Int).toNat + 1) (sl' := (40 + 5 * (g652520.toInt - p651057.toInt) : Int).toNat + 4) (by omega) (by omega) ?_
            have he652886 : F652881 q651054 = .inr (19, [.ref q651055, .int p651056, .int g652520, .int 6, .int p651059, .int p651060, .int p651061, .ref q652838, .int p651063, .int p651064, .int p651065, .ref qo651066, .ref qo651067, .int p651068]) := (n652885 q651054 (fun h => hq652882 (h ▸ hm652856))).trans he652876
            have he652887 : F652881 q651055 = .inl (I .byte, 8192, .inl f651069) := (n652885 q651055 (fun h => hq652882 (h ▸ hm652857))).trans he652871
            have he652888 : F652881 q652838 = .inr (0, [.ref q652839, .int 0, .int 0, .int 0]) := (n652885 q652838 (fun h => hq652882 (h ▸ hm652852))).trans he652872
            have he652889 : F652881 q651084 = .inr (1, [.ref q652522, .int 0, .int 0, .int g652521]) := (n652885 q651084 (fun h => hq652882 (h ▸ hm652858))).trans he652873
            have he652890 : F652881 q652522 = .inl (I .byte, n652523, .inl f652524) := (n652885 q652522 (fun h => hq652882 (h ▸ hm652859))).trans he652874
            have he652891 : F652881 q652839 = .inl (I .byte, n652840, .inl f652841) := (n652885 q652839 (fun h => hq652882 (h ▸ hm652854))).trans he652875
            have he652892 : F652881 q652879 = .inr (1, [.null, .int 0, .int 0, .int 0]) := e652884
            have hm652893 : q651054 ∈ P652880 := (hP652883 q651054).mpr (Or.inl hm652856)
            have hm652894 : q651055 ∈ P652880 := (hP652883 q651055).mpr (Or.inl hm652857)
            have hm652895 : q651084 ∈ P652880 := (hP652883 q651084).mpr (Or.inl hm652858)
            have hm652896 : q652522 ∈ P652880 := (hP652883 q652522).mpr (Or.inl hm652859)
            have hm652897 : q652838 ∈ P652880 := (hP652883 q652838).mpr (Or.inl hm652852)
            have hm652898 : q652839 ∈ P652880 := (hP652883 q652839).mpr (Or.inl hm652854)
            have hm652899 : q652879 ∈ P652880 := (hP652883 q652879).mpr (Or.inr rfl)
            have hq652900 : q652879 ∉ P651052 := fun z => hq652882 (hsb652862 q652879 z)
            have hfr652901 : rFr [q651054] P651052 F651053 F652881 := rFr_new hsb652862 hq652882 hfr652877 n652885
            have hsb652902 : rSub P651052 P652880 := rSub_new hsb652862 hP652883
            have hne652903 : q651084 ≠ q652879 := fun h => hq652882 (h ▸ hm652858)
            refine G_dup dr_cX14_word_253 rfl ?_
            refine Gw_callI (As := []) (gV_ok D I) (cp_640417_StringBuilder_init l hl0 D I P652880 F652881 q652879 0 0 hm652899 he652892 (gB_w (gBl (show Int32.toInt 0 = 0 by decide)) (by decide) (by decide)) (gB_w (gBl (show Int32.toInt 0 = 0 by decide)) (by decide) (by decide))) dr_cX14_word_254 ⟨wr_7_232, wr_1_20, wr_7_47, by decide, rfl, (Nat.le_of_ble_eq_true rfl), (Nat.le_of_ble_eq_true rfl)⟩ wr_7_46 rfl (show (4 + (g652520.toInt - p651057.toInt) : Int).toNat + 1 + 1 ≤ ((16 * (p651056.toInt - p651057.toInt)).toNat) by first | omega | decide) (show (40 + 5 * (g652520.toInt - p651057.toInt) : Int).toNat + 4 + 16 ≤ ((160 * (p651056.toInt - p651057.toInt)).toNat) by first | omega | decide) (Nat.le_of_ble_eq_true rfl) (fun r652907 w652908 dc652904 ds652905 hp652906 => ?_)
            obtain ⟨P652910, F652911, q652909, rfl, rfl, hsb652912, hfr652913, he652914, he652915, hm652916, hq652917, hdc, hds⟩ := hp652906
            have hm652918 : q651054 ∈ P652910 := hsb652912 q651054 hm652893
            have hm652919 : q651055 ∈ P652910 := hsb652912 q651055 hm652894
            have hm652920 : q651084 ∈ P652910 := hsb652912 q651084 hm652895
            have hm652921 : q652522 ∈ P652910 := hsb652912 q652522 hm652896
            have hm652922 : q652838 ∈ P652910 := hsb652912 q652838 hm652897
            have hm652923 : q652839 ∈ P652910 := hsb652912 q652839 hm652898
            have hm652924 : q652879 ∈ P652910 := hsb652912 q652879 hm652899
            have hq652925 : q652909 ∉ P651052 := fun z => hq652917 (hsb652902 q652909 z)
            have hsb652926 : rSub P651052 P652910 := rSub_tr hsb652902 hsb652912
            have he652927 : F652911 q651054 = .inr (19, [.ref q651055, .int p651056, .int g652520, .int 6, .int p651059, .int p651060, .int p651061, .ref q652838, .int p651063, .int p651064, .int p651065, .ref qo651066, .ref qo651067, .int p651068]) := (hfr652913 q651054 hm652893 (nm_c (fun h => hq652900 (h ▸ hmq651054)) nm_n)).trans he652886
            have he652928 : F652911 q651055 = .inl (I .byte, 8192, .inl f651069) := (hfr652913 q651055 hm652894 (nm_c (fun h => hq652900 (h ▸ hmq651055)) nm_n)).trans he652887
            have he652929 : F652911 q652838 = .inr (0, [.ref q652839, .int 0, .int 0, .int 0]) := (hfr652913 q652838 hm652897 (nm_c (rn_oo he652888 he652892 (by decide)) nm_n)).trans he652888
            have he652930 : F652911 q651084 = .inr (1, [.ref q652522, .int 0, .int 0, .int g652521]) := (hfr652913 q651084 hm652895 (nm_c hne652903 nm_n)).trans he652889
            have he652931 : F652911 q652522 = .inl (I .byte, n652523, .inl f652524) := (hfr652913 q652522 hm652896 (nm_c (rn_ao he652890 he652892) nm_n)).trans he652890
            have he652932 : F652911 q652839 = .inl (I .byte, n652840, .inl f652841) := (hfr652913 q652839 hm652898 (nm_c (rn_ao he652891 he652892) nm_n)).trans he652891
            have hfr652933 : rFr [q651054] P651052 F651053 F652911 := rFr_call hsb652902 hfr652901 hfr652913 (fun b hb hn => ⟨(nm_c (fun e => hn (e ▸ List.mem_cons_self)) nm_n), (nm_c (fun e => hq652900 (e ▸ hb)) nm_n)⟩)
            have hne652934 : q652522 ≠ q652909 := fun h => hq652917 (h ▸ hm652896)
            have hne652935 : q652839 ≠ q652909 := fun h => hq652917 (h ▸ hm652898)
            change G _ _ _ _ _ _ _ _ _ _ _
            refine G_widen (cs' := (4 + (g652520.toInt - p651057.toInt) : Int).toNat + 1 + 1) (sl' := (40 + 5 * (g652520.toInt - p651057.toInt) : Int).toNat + 4 + 16) (by omega) (by omega) ?_
            refine G_ldcK (a := D.2 1000 35) dr_cX14_word_257 (fun _ _ _ h => gx_vk 35 rfl rfl h) ?_
            have hl35_652935 : (sb_35.length : Int) = 1 := rfl
            refine Gw_callV (As := [.ref (D.2 1000 35)]) (gV_ok D I) (cp_640714_StringBuilder_append l hl0 D I P652910 F652911 q652879 q652909 (D.2 1000 35) (D.2 1001 35) sb_35 0 0 (fun _ => 0) 16 hm652924 hm652916 he652914 he652915 (gx_sc 35 rfl rfl) (by omega) (by decide +kernel) (gB_w (gBl (show Int32.toInt 0 = 0 by decide)) (by decide) (by decide)) (gB_w (gBl (show Int32.toInt 0 = 0 by decide)) (by decide) (by decide)) (gF_w gF_0 (by decide) (by decide)) (by have qa0 : Int32.toInt 0 = 0 := (by decide); have qa1 : Int32.toInt 6 = 6 := (by decide); omega) (by have qa0 : Int32.toInt 0 = 0 := (by decide); have qa1 : Int32.toInt 6 = 6 := (by decide); omega)) dr_cX14_word_259 ⟨wr_8_191, wr_1_20, wr_8_139, by decide, rfl, (Nat.le_of_ble_eq_true rfl), (Nat.le_of_ble_eq_true rfl)⟩ wr_8_137 wr_8_138 hm652924 he652914 rfl (show (4 + (g652520.toInt - p651057.toInt) : Int).toNat + 1 + 1 + 0 ≤ ((16 * (p651056.toInt - p651057.toInt)).toNat) by first | omega | decide) (show (40 + 5 * (g652520.toInt - p651057.toInt) : Int).toNat + 4 + 16 + 0 ≤ ((160 * (p651056.toInt - p651057.toInt)).toNat) by first | omega | decide) (Nat.le_of_ble_eq_true rfl) (fun r652940 w652941 dc652937 ds652938 hp652939 => ?_) (fun _ _ _ _ _ z => z.elim)
            obtain ⟨F652947, o652942, f652943, rfl, rfl, hfr652949, he652950, he652951, hdc, hds, bo652942, bf652943, x652944, x652945, x652946⟩ := hp652939
            have he652952 : F652947 q651054 = .inr (19, [.ref q651055, .int p651056, .int g652520, .int 6, .int p651059, .int p651060, .int p651061, .ref q652838, .int p651063, .int p651064, .int p651065, .ref qo651066, .ref qo651067, .int p651068]) := (hfr652949 q651054 hm652918 (nm_c (fun h => hq652900 (h ▸ hmq651054)) (nm_c (fun h => hq652925 (h ▸ hmq651054)) nm_n))).trans he652927
            have he652953 : F652947 q651055 = .inl (I .byte, 8192, .inl f651069) := (hfr652949 q651055 hm652919 (nm_c (fun h => hq652900 (h ▸ hmq651055)) (nm_c (fun h => hq652925 (h ▸ hmq651055)) nm_n))).trans he652928
            have he652954 : F652947 q652838 = .inr (0, [.ref q652839, .int 0, .int 0, .int 0]) := (hfr652949 q652838 hm652922 (nm_c (rn_oo he652929 he652914 (by decide)) (nm_c (rn_oa he652929 he652915) nm_n))).trans he652929
            have he652955 : F652947 q651084 = .inr (1, [.ref q652522, .int 0, .int 0, .int g652521]) := (hfr652949 q651084 hm652920 (nm_c hne652903 (nm_c (rn_oa he652930 he652915) nm_n))).trans he652930
            have he652956 : F652947 q652522 = .inl (I .byte, n652523, .inl f652524) := (hfr652949 q652522 hm652921 (nm_c (rn_ao he652931 he652914) (nm_c hne652934 nm_n))).trans he652931
            have he652957 : F652947 q652839 = .inl (I .byte, n652840, .inl f652841) := (hfr652949 q652839 hm652923 (nm_c (rn_ao he652932 he652914) (nm_c hne652935 nm_n))).trans he652932
            have hfr652958 : rFr [q651054] P651052 F651053 F652947 := rFr_call hsb652926 hfr652933 hfr652949 (fun b hb hn => ⟨(nm_c (fun e => hn (e ▸ List.mem_cons_self)) nm_n), (nm_c (fun e => hq652900 (e ▸ hb)) (nm_c (fun e => hq652925 (e ▸ hb)) nm_n))⟩)
            rw [show Int32.toInt 0 = 0 from by decide] at x652944
            have bo652942' : gB o652942 1 1 := ⟨by omega, by omega⟩
            rw [show Int32.toInt 0 = 0 from by decide] at x652945
            rw [show Int32.toInt 0 = 0 from by decide] at x652946
            change G _ _ _ _ _ _ _ (.ref q652879 :: _) _ _ _
            refine G_widen (cs' := (4 + (g652520.toInt - p651057.toInt) : Int).toNat + 1 + 1 + 0) (sl' := (40 + 5 * (g652520.toInt - p651057.toInt) : Int).toNat + 4 + 16 + 0) (by omega) (by omega) ?_
            refine G_aload_n 2 dr_cX14_word_262 rfl ?_
            clear hm652852 hm652854 hm652856 hm652857 hm652858 hm652859 hsb652862 he652871 he652872 he652873 he652874 he652875 he652876 hfr652877 he652886 he652887 he652888 he652889 he652890 he652891 he652892 hm652893 hm652894 hm652895 hm652896 hm652897 hm652898 hm652899 hfr652901 hsb652902 hsb652912 hfr652913 he652914 he652915 hq652917 he652927 he652928 he652929 he652930 he652931 he652932 hfr652933 hfr652949 bo652942; try clear r652907; try clear w652908; try clear dc652904; try clear ds652905; try clear hp652906; try clear r652940; try clear w652941; try clear dc652937; try clear ds652938; try clear hp652939
            refine Gp_get 7 hm652918 he652952 dr_cX14_word_263 (gk_X14 D I) (Nat.le_of_ble_eq_true rfl) wr_9_39 rfl ?_
            refine Gw_callV (As := [.ref q652838]) (gV_ok D I) (cp_640909_StringBuilder_append l hl0 D I P652910 F652947 q652879 q652838 q652909 q652839 0 o652942 0 0 f652943 16 f652841 n652840 hm652924 hm652922 hm652916 hm652923 he652950 he652954 he652951 he652957 (Ne.symm hne652935) (gB_w (gBl (show Int32.toInt 0 = 0 by decide)) (by decide) (by decide)) (gB_w bo652942' (by decide) (by decide)) (gB_w (gBl (show Int32.toInt 0 = 0 by decide)) (by decide) (by decide)) bf652943 bf652841 (by have qa0 : Int32.toInt 0 = 0 := (by decide); have qa1 : Int32.toInt 6 = 6 := (by decide); omega) (by have qa0 : Int32.toInt 0 = 0 := (by decide); have qa1 : Int32.toInt 6 = 6 := (by decide); omega) (by have qa0 : Int32.toInt 0 = 0 := (by decide); have qa1 : Int32.toInt 6 = 6 := (by decide); omega) (by have qa0 : Int32.toInt 0 = 0 := (by decide); have qa1 : Int32.toInt 6 = 6 := (by decide); omega) (by have qa0 : Int32.toInt 0 = 0 := (by decide); have qa1 : Int32.toInt 6 = 6 := (by decide); omega)) dr_cX14_word_266 ⟨wr_8_191, wr_1_20, wr_8_139, by decide, rfl, (Nat.le_of_ble_eq_true rfl), (Nat.le_of_ble_eq_true rfl)⟩ wr_8_137 wr_8_138 hm652924 he652950 rfl (show (4 + (g652520.toInt - p651057.toInt) : Int).toNat + 1 + 1 + 0 + 1 ≤ ((16 * (p651056.toInt - p651057.toInt)).toNat) by first | omega | decide) (show (40 + 5 * (g652520.toInt - p651057.toInt) : Int).toNat + 4 + 16 + 0 + (4 * 16 + 4 + 2 * n652840) ≤ ((160 * (p651056.toInt - p651057.toInt)).toNat) by first | omega | decide) (Nat.le_of_ble_eq_true rfl) (fun r652962 w652963 dc652959 ds652960 hp652961 => ?_) (fun _ _ _ _ _ z => z.elim)
            obtain ⟨P652973, F652974, o652964, q652965, n652966, f652967, rfl, rfl, hsb652975, hfr652976, he652977, he652978, he652979, he652980, hm652981, hq652982, hdc, hds, bo652964, bf652967, x652968, x652969, x652970, x652971, x652972⟩ := hp652961
            have hm652983 : q651054 ∈ P652973 := hsb652975 q651054 hm652918
            have hm652984 : q651055 ∈ P652973 := hsb652975 q651055 hm652919
            have hm652985 : q651084 ∈ P652973 := hsb652975 q651084 hm652920
            have hm652986 : q652522 ∈ P652973 := hsb652975 q652522 hm652921
            have hm652987 : q652838 ∈ P652973 := hsb652975 q652838 hm652922
            have hm652988 : q652839 ∈ P652973 := hsb652975 q652839 hm652923
            have hm652989 : q652879 ∈ P652973 := hsb652975 q652879 hm652924
            have hm652990 : q652909 ∈ P652973 := hsb652975 q652909 hm652916
            have hq652991 : q652965 ∉ P651052 := fun z => hq652982.elim (fun e => hq652925 (e ▸ z)) (fun n => n (hsb652926 _ z))
            have hsb652992 : rSub P651052 P652973 := rSub_tr hsb652926 hsb652975
            have he652993 : F652974 q651054 = .inr (19, [.ref q651055, .int p651056, .int g652520, .int 6, .int p651059, .int p651060, .int p651061, .ref q652838, .int p651063, .int p651064, .int p651065, .ref qo651066, .ref qo651067, .int p651068]) := (hfr652976 q651054 hm652918 (nm_c (fun h => hq652900 (h ▸ hmq651054)) (nm_c (fun h => hq652925 (h ▸ hmq651054)) nm_n))).trans he652952
            have he652994 : F652974 q651055 = .inl (I .byte, 8192, .inl f651069) := (hfr652976 q651055 hm652919 (nm_c (fun h => hq652900 (h ▸ hmq651055)) (nm_c (fun h => hq652925 (h ▸ hmq651055)) nm_n))).trans he652953
            have he652995 : F652974 q651084 = .inr (1, [.ref q652522, .int 0, .int 0, .int g652521]) := (hfr652976 q651084 hm652920 (nm_c hne652903 (nm_c (rn_oa he652955 he652951) nm_n))).trans he652955
            have he652996 : F652974 q652522 = .inl (I .byte, n652523, .inl f652524) := (hfr652976 q652522 hm652921 (nm_c (rn_ao he652956 he652950) (nm_c hne652934 nm_n))).trans he652956
            have hfr652997 : rFr [q651054] P651052 F651053 F652974 := rFr_call hsb652926 hfr652958 hfr652976 (fun b hb hn => ⟨(nm_c (fun e => hn (e ▸ List.mem_cons_self)) nm_n), (nm_c (fun e => hq652900 (e ▸ hb)) (nm_c (fun e => hq652925 (e ▸ hb)) nm_n))⟩)
            have hne652998 : q652522 ≠ q652965 := fun e => hq652982.elim (fun e2 => hne652934 (e.trans e2)) (fun n => n (e ▸ hm652921))
            have hne652999 : q652839 ≠ q652965 := fun e => hq652982.elim (fun e2 => hne652935 (e.trans e2)) (fun n => n (e ▸ hm652923))
            have bo652964' : gB o652964 1 16777216 := ⟨by omega, by omega⟩
            change G _ _ _ _ _ _ _ (.ref q652879 :: _) _ _ _
            refine G_widen (cs' := (4 + (g652520.toInt - p651057.toInt) : Int).toNat + 1 + 1 + 0 + 1) (sl' := (40 + 5 * (g652520.toInt - p651057.toInt) : Int).toNat + 4 + 16 + 0 + (2 * (n652966 - 16))) (by omega) (by omega) ?_
            refine G_widen (cs' := (7 + (g652520.toInt - p651057.toInt) : Int).toNat) (sl' := (60 + 10 * (g652520.toInt - p651057.toInt) : Int).toNat) (by omega) (by omega) ?_
            clear hm652916 hm652918 hm652919 hm652920 hm652921 hm652922 hm652923 hm652924 hq652925 hsb652926 hne652934 hne652935 he652950 he652951 bf652943 he652952 he652953 he652954 he652955 he652956 he652957 hfr652958 hsb652975 hfr652976 hq652982 bo652964 hm652990; try clear x652945; try clear x652946; try clear r652962; try clear w652963; try clear dc652959; try clear ds652960; try clear hp652961
            refine G_ldcK (a := D.2 1000 35) dr_cX14_word_269 (fun _ _ _ h => gx_vk 35 rfl rfl h) ?_
            have hl35_652999 : (sb_35.length : Int) = 1 := rfl
            refine Gw_callV (As := [.ref (D.2 1000 35)]) (gV_ok D I) (cp_641053_StringBuilder_append l hl0 D I P652973 F652974 q652879 q652965 (D.2 1000 35) (D.2 1001 35) sb_35 0 o652964 f652967 n652966 hm652989 hm652981 he652977 he652979 (gx_sc 35 rfl rfl) (by omega) (by decide +kernel) (gB_w (gBl (show Int32.toInt 0 = 0 by decide)) (by decide) (by decide)) (gB_w bo652964' (by decide) (by decide)) bf652967 (by have qa0 : Int32.toInt 0 = 0 := (by decide); have qa1 : Int32.toInt 6 = 6 := (by decide); omega) (by have qa0 : Int32.toInt 0 = 0 := (by decide); have qa1 : Int32.toInt 6 = 6 := (by decide); omega) (by have qa0 : Int32.toInt 0 = 0 := (by decide); have qa1 : Int32.toInt 6 = 6 := (by decide); omega) (by have qa0 : Int32.toInt 0 = 0 := (by decide); have qa1 : Int32.toInt 6 = 6 := (by decide); omega)) dr_cX14_word_271 ⟨wr_8_191, wr_1_20, wr_8_139, by decide, rfl, (Nat.le_of_ble_eq_true rfl), (Nat.le_of_ble_eq_true rfl)⟩ wr_8_137 wr_8_138 hm652989 he652977 rfl (show (7 + (g652520.toInt - p651057.toInt) : Int).toNat + 1 ≤ ((16 * (p651056.toInt - p651057.toInt)).toNat) by first | omega | decide) (show (60 + 10 * (g652520.toInt - p651057.toInt) : Int).toNat + (4 * n652966 + 4 + 2 * sb_35.length) ≤ ((160 * (p651056.toInt - p651057.toInt)).toNat) by first | omega | decide) (Nat.le_of_ble_eq_true rfl) (fun r653004 w653005 dc653001 ds653002 hp653003 => ?_) (fun _ _ _ _ _ z => z.elim)
            obtain ⟨P653015, F653016, o653006, q653007, n653008, f653009, rfl, rfl, hsb653017, hfr653018, he653019, he653020, hm653021, hq653022, hdc, hds, bo653006, bf653009, x653010, x653011, x653012, x653013, x653014⟩ := hp653003
            have hm653023 : q651054 ∈ P653015 := hsb653017 q651054 hm652983
            have hm653024 : q651055 ∈ P653015 := hsb653017 q651055 hm652984
            have hm653025 : q651084 ∈ P653015 := hsb653017 q651084 hm652985
            have hm653026 : q652522 ∈ P653015 := hsb653017 q652522 hm652986
            have hm653027 : q652838 ∈ P653015 := hsb653017 q652838 hm652987
            have hm653028 : q652839 ∈ P653015 := hsb653017 q652839 hm652988
            have hm653029 : q652879 ∈ P653015 := hsb653017 q652879 hm652989
            have hm653030 : q652965 ∈ P653015 := hsb653017 q652965 hm652981
            have hq653031 : q653007 ∉ P651052 := fun z => hq653022.elim (fun e => hq652991 (e ▸ z)) (fun n => n (hsb652992 _ z))
            have hsb653032 : rSub P651052 P653015 := rSub_tr hsb652992 hsb653017
            have he653033 : F653016 q651054 = .inr (19, [.ref q651055, .int p651056, .int g652520, .int 6, .int p651059, .int p651060, .int p651061, .ref q652838, .int p651063, .int p651064, .int p651065, .ref qo651066, .ref qo651067, .int p651068]) := (hfr653018 q651054 hm652983 (nm_c (fun h => hq652900 (h ▸ hmq651054)) (nm_c (fun h => hq652991 (h ▸ hmq651054)) nm_n))).trans he652993
            have he653034 : F653016 q651055 = .inl (I .byte, 8192, .inl f651069) := (hfr653018 q651055 hm652984 (nm_c (fun h => hq652900 (h ▸ hmq651055)) (nm_c (fun h => hq652991 (h ▸ hmq651055)) nm_n))).trans he652994
            have he653035 : F653016 q651084 = .inr (1, [.ref q652522, .int 0, .int 0, .int g652521]) := (hfr653018 q651084 hm652985 (nm_c hne652903 (nm_c (rn_oa he652995 he652979) nm_n))).trans he652995
            have he653036 : F653016 q652522 = .inl (I .byte, n652523, .inl f652524) := (hfr653018 q652522 hm652986 (nm_c (rn_ao he652996 he652977) (nm_c hne652998 nm_n))).trans he652996
            have he653037 : F653016 q652838 = .inr (0, [.ref q652839, .int 0, .int 0, .int 0]) := (hfr653018 q652838 hm652987 (nm_c (rn_oo he652978 he652977 (by decide)) (nm_c (rn_oa he652978 he652979) nm_n))).trans he652978
            have he653038 : F653016 q652839 = .inl (I .byte, n652840, .inl f652841) := (hfr653018 q652839 hm652988 (nm_c (rn_ao he652980 he652977) (nm_c hne652999 nm_n))).trans he652980
            have hfr653039 : rFr [q651054] P651052 F651053 F653016 := rFr_call hsb652992 hfr652997 hfr653018 (fun b hb hn => ⟨(nm_c (fun e => hn (e ▸ List.mem_cons_self)) nm_n), (nm_c (fun e => hq652900 (e ▸ hb)) (nm_c (fun e => hq652991 (e ▸ hb)) nm_n))⟩)
            have hne653040 : q652522 ≠ q653007 := fun e => hq653022.elim (fun e2 => hne652998 (e.trans e2)) (fun n => n (e ▸ hm652986))
            have hne653041 : q652839 ≠ q653007 := fun e => hq653022.elim (fun e2 => hne652999 (e.trans e2)) (fun n => n (e ▸ hm652988))
            have bo653006' : gB o653006 2 16777216 := ⟨by omega, by omega⟩
            change G _ _ _ _ _ _ _ (.ref q652879 :: _) _ _ _
            refine G_widen (cs' := (7 + (g652520.toInt - p651057.toInt) : Int).toNat + 1) (sl' := (60 + 10 * (g652520.toInt - p651057.toInt) : Int).toNat + (2 * (n653008 - n652966))) (by omega) (by omega) ?_
            refine G_widen (cs' := (8 + (g652520.toInt - p651057.toInt) : Int).toNat) (sl' := (60 + 15 * (g652520.toInt - p651057.toInt) : Int).toNat) (by omega) (by omega) ?_
            clear he652977 he652978 he652979 he652980 hm652981 bf652967 hm652983 hm652984 hm652985 hm652986 hm652987 hm652988 hm652989 hq652991 hsb652992 he652993 he652994 he652995 he652996 hfr652997 hne652998 hne652999 hsb653017 hfr653018 hq653022 bo653006 hm653030; try clear r653004; try clear w653005; try clear dc653001; try clear ds653002; try clear hp653003
            refine Gw_callV (As := []) (gV_ok D I) (cp_641174_StringBuilder_toString l hl0 D I P653015 F653016 q652879 q653007 0 o653006 f653009 n653008 hm653029 hm653021 he653019 he653020 (gB_w (gBl (show Int32.toInt 0 = 0 by decide)) (by decide) (by decide)) (gB_w bo653006' (by decide) (by decide)) bf653009 (by have qa0 : Int32.toInt 0 = 0 := (by decide); have qa1 : Int32.toInt 6 = 6 := (by decide); omega) (by have qa0 : Int32.toInt 0 = 0 := (by decide); have qa1 : Int32.toInt 6 = 6 := (by decide); omega)) dr_cX14_word_274 ⟨wr_8_62, wr_1_20, wr_8_65, by decide, rfl, (Nat.le_of_ble_eq_true rfl), (Nat.le_of_ble_eq_true rfl)⟩ wr_8_63 wr_8_64 hm653029 he653019 rfl (show (8 + (g652520.toInt - p651057.toInt) : Int).toNat + 2 ≤ ((16 * (p651056.toInt - p651057.toInt)).toNat) by first | omega | decide) (show (60 + 15 * (g652520.toInt - p651057.toInt) : Int).toNat + (o653006.toInt.toNat + 4) ≤ ((160 * (p651056.toInt - p651057.toInt)).toNat) by first | omega | decide) (Nat.le_of_ble_eq_true rfl) (fun r653045 w653046 dc653042 ds653043 hp653044 => ?_) (fun _ _ _ _ _ z => z.elim)
            obtain ⟨P653053, F653054, q653047, q653048, n653049, f653050, rfl, rfl, hsb653055, hfr653056, he653057, he653058, he653059, he653060, hm653061, hq653062, hm653063, hq653064, hdc, hds, bf653050, x653051, x653052⟩ := hp653044
            have hm653065 : q651054 ∈ P653053 := hsb653055 q651054 hm653023
            have hm653066 : q651055 ∈ P653053 := hsb653055 q651055 hm653024
            have hm653067 : q651084 ∈ P653053 := hsb653055 q651084 hm653025
            have hm653068 : q652522 ∈ P653053 := hsb653055 q652522 hm653026
            have hm653069 : q652838 ∈ P653053 := hsb653055 q652838 hm653027
            have hm653070 : q652839 ∈ P653053 := hsb653055 q652839 hm653028
            have hm653071 : q652879 ∈ P653053 := hsb653055 q652879 hm653029
            have hm653072 : q653007 ∈ P653053 := hsb653055 q653007 hm653021
            have hq653073 : q653047 ∉ P651052 := fun z => hq653062 (hsb653032 q653047 z)
            have hq653074 : q653048 ∉ P651052 := fun z => hq653064 (hsb653032 q653048 z)
            have hsb653075 : rSub P651052 P653053 := rSub_tr hsb653032 hsb653055
            have he653076 : F653054 q651054 = .inr (19, [.ref q651055, .int p651056, .int g652520, .int 6, .int p651059, .int p651060, .int p651061, .ref q652838, .int p651063, .int p651064, .int p651065, .ref qo651066, .ref qo651067, .int p651068]) := (hfr653056 q651054 hm653023 nm_n).trans he653033
            have he653077 : F653054 q651055 = .inl (I .byte, 8192, .inl f651069) := (hfr653056 q651055 hm653024 nm_n).trans he653034
            have he653078 : F653054 q651084 = .inr (1, [.ref q652522, .int 0, .int 0, .int g652521]) := (hfr653056 q651084 hm653025 nm_n).trans he653035
            have he653079 : F653054 q652522 = .inl (I .byte, n652523, .inl f652524) := (hfr653056 q652522 hm653026 nm_n).trans he653036
            have he653080 : F653054 q652838 = .inr (0, [.ref q652839, .int 0, .int 0, .int 0]) := (hfr653056 q652838 hm653027 nm_n).trans he653037
            have he653081 : F653054 q652839 = .inl (I .byte, n652840, .inl f652841) := (hfr653056 q652839 hm653028 nm_n).trans he653038
            have hfr653082 : rFr [q651054] P651052 F651053 F653054 := rFr_call hsb653032 hfr653039 hfr653056 (fun b hb hn => ⟨(nm_c (fun e => hn (e ▸ List.mem_cons_self)) nm_n), nm_n⟩)
            have hne653083 : q652838 ≠ q653047 := fun h => hq653062 (h ▸ hm653027)
            have hne653084 : q652522 ≠ q653048 := fun h => hq653064 (h ▸ hm653026)
            have hne653085 : q652839 ≠ q653048 := fun h => hq653064 (h ▸ hm653028)
            have hne653086 : q653007 ≠ q653048 := fun h => hq653064 (h ▸ hm653021)
            change G _ _ _ _ _ _ _ (.ref q653047 :: _) _ _ _
            refine G_widen (cs' := (8 + (g652520.toInt - p651057.toInt) : Int).toNat + 2) (sl' := (60 + 15 * (g652520.toInt - p651057.toInt) : Int).toNat + (o653006.toInt.toNat + 4)) (by omega) (by omega) ?_
            refine G_widen (cs' := (10 + (g652520.toInt - p651057.toInt) : Int).toNat) (sl' := (66 + 16 * (g652520.toInt - p651057.toInt) : Int).toNat) (by omega) (by omega) ?_
            clear hq652900 hne652903 he653019 he653020 hm653021 bf653009 hm653023 hm653024 hm653025 hm653026 hm653027 hm653028 hm653029 hq653031 hsb653032 he653033 he653034 he653035 he653036 he653037 he653038 hfr653039 hne653040 hne653041 hsb653055 hfr653056 he653058 he653059 hq653062 hq653064 hm653071 hm653072 hne653086; try clear r653045; try clear w653046; try clear dc653042; try clear ds653043; try clear hp653044; try clear x653052
            refine Gw_callVk (As := [.ref q653047]) (gV_ok D I) (cp_641623_String_indexOf l hl0 D I P653053 F653054 q653047 q653048 (D.2 1000 34) (D.2 1001 34) sb_34 0 0 f653050 n653049 hm653061 hm653063 he653057 he653060 (gx_sc 34 rfl rfl) (by omega) (by decide +kernel) (gB_w (gBl (show Int32.toInt 0 = 0 by decide)) (by decide) (by decide)) bf653050 (by have qa0 : Int32.toInt 0 = 0 := (by decide); have qa1 : Int32.toInt 6 = 6 := (by decide); omega) (by have qa0 : Int32.toInt 0 = 0 := (by decide); have qa1 : Int32.toInt 6 = 6 := (by decide); omega)) dr_cX14_word_277 ⟨wr_8_192, wr_1_21, wr_8_195, by decide, rfl, (Nat.le_of_ble_eq_true rfl), (Nat.le_of_ble_eq_true rfl)⟩ wr_8_193 wr_8_194 (fun _ _ _ h => ((gx_sc 34 rfl rfl) _ _ _ h).1) (show (10 + (g652520.toInt - p651057.toInt) : Int).toNat + 0 ≤ ((16 * (p651056.toInt - p651057.toInt)).toNat) by first | omega | decide) (show (66 + 16 * (g652520.toInt - p651057.toInt) : Int).toNat + 0 ≤ ((160 * (p651056.toInt - p651057.toInt)).toNat) by first | omega | decide) (Nat.le_of_ble_eq_true rfl) (fun r653090 w653091 dc653087 ds653088 hp653089 => ?_) (fun _ _ _ _ _ z => z.elim)
            obtain ⟨o653092, rfl, rfl, hdc, hds, bo653092, x653093, x653094⟩ := hp653089
            change G _ _ _ _ _ _ _ (.int o653092 :: _) _ _ _
            refine G_widen (cs' := (10 + (g652520.toInt - p651057.toInt) : Int).toNat + 0) (sl' := (66 + 16 * (g652520.toInt - p651057.toInt) : Int).toNat + 0) (by omega) (by omega) ?_
            clear he653057 he653060 hm653061 hm653063 bf653050 hq653073 hq653074 hne653083 hne653084 hne653085; try clear r653090; try clear w653091; try clear dc653087; try clear ds653088; try clear hp653089; try clear x653094
            refine G_if_lt 288 dr_cX14_word_280 (by decide +kernel) (fun hc653095 => ?_) (fun hc653095 => ?_)
            · have r653096 : o653092.toInt < 0 := gj_lt hc653095 (show Int32.toInt 0 = 0 by decide)
              have bo653092' : gB o653092 (-2147483646) (-1) := ⟨by omega, by omega⟩
              exact G_vretA dr_cX14_word_288 rfl (show (10 + (g652520.toInt - p651057.toInt) : Int).toNat + 0 ≤ ((16 * (p651056.toInt - p651057.toInt)).toNat) by omega) (show (66 + 16 * (g652520.toInt - p651057.toInt) : Int).toNat + 0 ≤ ((160 * (p651056.toInt - p651057.toInt)).toNat) by omega) ⟨P653053, F653054, g652520, 6, p651060, q652838, rfl, rfl, hsb653075, hfr653082, he653076, he653077, (by omega), (by omega), (gB_w bg652520' (by decide) (by decide)), (gB_w (gBl (show Int32.toInt 6 = 6 by decide)) (by decide) (by decide)), (by have qa0 : Int32.toInt 0 = 0 := (by decide); have qa1 : Int32.toInt 6 = 6 := (by decide); omega), (by have qa0 : Int32.toInt 0 = 0 := (by decide); have qa1 : Int32.toInt 6 = 6 := (by decide); omega), (tP_no (by decide) (by decide)), (vP_no (by decide) (by decide))⟩
            · have r653097 : 0 ≤ o653092.toInt := gj_nlt hc653095 (show Int32.toInt 0 = 0 by decide)
              have bo653092' : gB o653092 0 16777215 := ⟨by omega, by omega⟩
              refine G_aload_n 2 dr_cX14_word_283 rfl ?_
              refine G_iconst 1 dr_cX14_word_284 (by decide +kernel) ?_
              refine Gp_put 3 hm653065 he653076 dr_cX14_word_285 (gk_X14 D I) (Nat.le_of_ble_eq_true rfl) wr_9_35 rfl rfl rfl (Nat.le_of_ble_eq_true rfl) (fun F653098 e653099 n653100 => ?_)
              have he653101 : F653098 q651055 = .inl (I .byte, 8192, .inl f651069) := (n653100 q651055 (rn_ao he653077 he653076)).trans he653077
              have he653102 : F653098 q651084 = .inr (1, [.ref q652522, .int 0, .int 0, .int g652521]) := (n653100 q651084 (fun h => hq651097 (h ▸ hmq651054))).trans he653078
              have he653103 : F653098 q652522 = .inl (I .byte, n652523, .inl f652524) := (n653100 q652522 (fun h => hq652525 (h ▸ hmq651054))).trans he653079
              have he653104 : F653098 q652838 = .inr (0, [.ref q652839, .int 0, .int 0, .int 0]) := (n653100 q652838 (fun h => hq652860 (h ▸ hmq651054))).trans he653080
              have he653105 : F653098 q652839 = .inl (I .byte, n652840, .inl f652841) := (n653100 q652839 (fun h => hq652861 (h ▸ hmq651054))).trans he653081
              have he653106 : F653098 q651054 = .inr (19, [.ref q651055, .int p651056, .int g652520, .int 1, .int p651059, .int p651060, .int p651061, .ref q652838, .int p651063, .int p651064, .int p651065, .ref qo651066, .ref qo651067, .int p651068]) := e653099
              have hfr653107 : rFr [q651054] P651052 F651053 F653098 := rFr_put' List.mem_cons_self hfr653082 n653100
              exact G_vretA dr_cX14_word_288 rfl (show (10 + (g652520.toInt - p651057.toInt) : Int).toNat + 0 ≤ ((16 * (p651056.toInt - p651057.toInt)).toNat) by omega) (show (66 + 16 * (g652520.toInt - p651057.toInt) : Int).toNat + 0 ≤ ((160 * (p651056.toInt - p651057.toInt)).toNat) by omega) ⟨P653053, F653098, g652520, 1, p651060, q652838, rfl, rfl, hsb653075, hfr653107, he653106, he653101, (by omega), (by omega), (gB_w bg652520' (by decide) (by decide)), (gB_w (gBl (show Int32.toInt 1 = 1 by decide)) (by decide) (by decide)), (by have qa0 : Int32.toInt 0 = 0 := (by decide); have qa1 : Int32.toInt 1 = 1 := (by decide); omega), (by have qa0 : Int32.toInt 0 = 0 := (by decide); have qa1 : Int32.toInt 1 = 1 := (by decide); omega), (tP_1 hm653069 he653104 hm653070 he653105 bf652841 (by omega) (gB_w (gBl (show Int32.toInt 0 = 0 by decide)) (by decide) (by decide)) (fun e => hq652861 (e ▸ x651073)) (fun e => hq652861 (e ▸ x651074))), (vP_no (by decide) (by decide))⟩
          · have r653108 : o652828.toInt ≠ 0 := gj_neq hc652830 (show Int32.toInt 0 = 0 by decide)
            have bo652828' : gB o652828 1 1 := ⟨by omega, by omega⟩
            have bi653109 : gB z652822 97 122 := isP_1 x652829 (by omega)
            refine G_aload_n 0 dr_cX14_word_212 rfl ?_
            refine G_aload_n 2 dr_cX14_word_213 rfl ?_
            refine Gp_get 0 hm652533 he652527 dr_cX14_word_214 (gk_X14 D I) (Nat.le_of_ble_eq_true rfl) wr_9_32 rfl ?_
            refine G_aload_n 2 dr_cX14_word_217 rfl ?_
            refine Gp_get 2 hm652533 he652527 dr_cX14_word_218 (gk_X14 D I) (Nat.le_of_ble_eq_true rfl) wr_9_34 rfl ?_
            refine Gp_bald 1 hm652534 he652528 dr_cX14_word_221 rfl (gB_in bg652520' (by decide) (by decide)) (G_eqi (y := z652822) hz652822.symm ?_)
            refine G_i2c dr_cX14_word_222 (G_nam fun z653110 hz653110 => ?_)
            have ez653110 : z653110.toInt = z652822.toInt := gI_i2c hz653110 (by omega) (by omega)
            have bz653110 : gB z653110 97 122 := ⟨by omega, by omega⟩
            refine Gw_callV (As := [.int z653110]) (gV_ok D I) (cp_651729_StringBuilder_append l hl0 D I P652532 F652526 q651084 q652522 z653110 0 g652521 f652524 n652523 hm652535 hm652536 he652529 he652530 (gB_w bz653110 (by decide) (by decide)) (gB_w (gBl (show Int32.toInt 0 = 0 by decide)) (by decide) (by decide)) bg652521 bf652524 (by have qa0 : Int32.toInt 0 = 0 := (by decide); have qa1 : Int32.toInt 6 = 6 := (by decide); omega) (by have qa0 : Int32.toInt 0 = 0 := (by decide); have qa1 : Int32.toInt 6 = 6 := (by decide); omega) (by have qa0 : Int32.toInt 0 = 0 := (by decide); have qa1 : Int32.toInt 6 = 6 := (by decide); omega) (by have qa0 : Int32.toInt 0 = 0 := (by decide); have qa1 : Int32.toInt 6 = 6 := (by decide); omega)) dr_cX14_word_223 ⟨wr_7_233, wr_1_20, wr_7_236, by decide, rfl, (Nat.le_of_ble_eq_true rfl), (Nat.le_of_ble_eq_true rfl)⟩ wr_7_234 wr_7_235 hm652535 he652529 rfl (show 2 + (g652521.toInt : Int).toNat + 0 + 1 ≤ ((16 * (p651056.toInt - p651057.toInt)).toNat) by first | omega | decide) (show 4 + 2 * n652523 + 0 + (4 * n652523 + 8) ≤ ((160 * (p651056.toInt - p651057.toInt)).toNat) by first | omega | decide) (Nat.le_of_ble_eq_true rfl) (fun r653114 w653115 dc653111 ds653112 hp653113 => ?_) (fun _ _ _ _ _ z => z.elim)
            obtain ⟨P653125, F653126, o653116, q653117, n653118, f653119, rfl, rfl, hsb653127, hfr653128, he653129, he653130, hm653131, hq653132, hdc, hds, bo653116, bf653119, x653120, x653121, x653122, x653123, x653124⟩ := hp653113
            have hm653133 : q651054 ∈ P653125 := hsb653127 q651054 hm652533
            have hm653134 : q651055 ∈ P653125 := hsb653127 q651055 hm652534
            have hm653135 : q651084 ∈ P653125 := hsb653127 q651084 hm652535
            have hm653136 : q652522 ∈ P653125 := hsb653127 q652522 hm652536
            have hq653137 : q653117 ∉ P651052 := fun z => hq653132.elim (fun e => hq652525 (e ▸ z)) (fun n => n (hsb652537 _ z))
            have hsb653138 : rSub P651052 P653125 := rSub_tr hsb652537 hsb653127
            have he653139 : F653126 q651054 = .inr (19, [.ref q651055, .int p651056, .int g652520, .int 6, .int p651059, .int p651060, .int p651061, .ref qo651062, .int p651063, .int p651064, .int p651065, .ref qo651066, .ref qo651067, .int p651068]) := (hfr653128 q651054 hm652533 (nm_c (fun h => hq652525 (h ▸ hmq651054)) (nm_c (fun h => hq651097 (h ▸ hmq651054)) nm_n))).trans he652527
            have he653140 : F653126 q651055 = .inl (I .byte, 8192, .inl f651069) := (hfr653128 q651055 hm652534 (nm_c (fun h => hq652525 (h ▸ hmq651055)) (nm_c (fun h => hq651097 (h ▸ hmq651055)) nm_n))).trans he652528
            have hfr653141 : rFr [q651054] P651052 F651053 F653126 := rFr_call hsb652537 hfr652531 hfr653128 (fun b hb hn => ⟨(nm_c (fun e => hn (e ▸ List.mem_cons_self)) nm_n), (nm_c (fun e => hq652525 (e ▸ hb)) (nm_c (fun e => hq651097 (e ▸ hb)) nm_n))⟩)
            change G _ _ _ _ _ _ _ (.ref q651084 :: _) _ _ _
            refine G_widen (cs' := 2 + (g652521.toInt : Int).toNat + 0 + 1) (sl' := 4 + 2 * n652523 + 0 + (2 * (n653118 - n652523))) (by omega) (by omega) ?_
            refine G_pop dr_cX14_word_226 rfl ?_
            refine G_aload_n 2 dr_cX14_word_227 rfl ?_
            refine G_dup dr_cX14_word_228 rfl ?_
            refine Gp_get 2 hm653133 he653139 dr_cX14_word_229 (gk_X14 D I) (Nat.le_of_ble_eq_true rfl) wr_9_34 rfl ?_
            refine G_iconst 1 dr_cX14_word_232 (by decide +kernel) ?_
            refine G_iadd dr_cX14_word_233 (G_nam fun z653142 hz653142 => ?_)
            have ez653142 : z653142.toInt = g652520.toInt + 1 := by rw [gI_add hz653142 bg652520' (gBl (show Int32.toInt 1 = 1 by decide)) (by decide) (by decide), show Int32.toInt 1 = 1 from by decide]
            have bz653142 : gB z653142 1 8192 := gB_add (gI_add hz653142 bg652520' (gBl (show Int32.toInt 1 = 1 by decide)) (by decide) (by decide)) bg652520' (gBl (show Int32.toInt 1 = 1 by decide)) (by decide) (by decide)
            refine Gp_put 2 hm653133 he653139 dr_cX14_word_234 (gk_X14 D I) (Nat.le_of_ble_eq_true rfl) wr_9_34 rfl rfl rfl (Nat.le_of_ble_eq_true rfl) (fun F653143 e653144 n653145 => ?_)
            have he653146 : F653143 q651055 = .inl (I .byte, 8192, .inl f651069) := (n653145 q651055 (rn_ao he653140 he653139)).trans he653140
            have he653147 : F653143 q651084 = .inr (1, [.ref q653117, .int 0, .int 0, .int o653116]) := (n653145 q651084 (fun h => hq651097 (h ▸ hmq651054))).trans he653129
            have he653148 : F653143 q653117 = .inl (I .byte, n653118, .inl f653119) := (n653145 q653117 (fun h => hq653137 (h ▸ hmq651054))).trans he653130
            have he653149 : F653143 q651054 = .inr (19, [.ref q651055, .int p651056, .int z653142, .int 6, .int p651059, .int p651060, .int p651061, .ref qo651062, .int p651063, .int p651064, .int p651065, .ref qo651066, .ref qo651067, .int p651068]) := e653144
            have hfr653150 : rFr [q651054] P651052 F651053 F653143 := rFr_put' List.mem_cons_self hfr653141 n653145
            refine G_goto 186 dr_cX14_word_237 (by decide +kernel) ?_
            refine G_widen (cs' := 2 + (o653116.toInt : Int).toNat) (sl' := 4 + 2 * n653118) (by omega) (by omega) ?_
            exact ih186_652542 P653125 F653143 z653142 o653116 q653117 n653118 f653119 (gB_w bz653142 (by decide) (by decide)) (gB_w bo653116 (by decide) (by decide)) bf653119 hsb653138 hfr653150 hm653133 he653149 hm653134 he653146 hm653135 he653147 hm653131 he653148 hq653137 (by have qa0 : Int32.toInt 0 = 0 := (by decide); have qa1 : Int32.toInt 6 = 6 := (by decide); omega) (by have qa0 : Int32.toInt 0 = 0 := (by decide); have qa1 : Int32.toInt 6 = 6 := (by decide); omega) (by have qa0 : Int32.toInt 0 = 0 := (by decide); have qa1 : Int32.toInt 6 = 6 := (by decide); omega) (by have qa0 : Int32.toInt 0 = 0 := (by decide); have qa1 : Int32.toInt 6 = 6 := (by decide); omega) (by have qa0 : Int32.toInt 0 = 0 := (by decide); have qa1 : Int32.toInt 6 = 6 := (by decide); omega) (by have qa0 : Int32.toInt 0 = 0 := (by decide); have qa1 : Int32.toInt 6 = 6 := (by decide); omega)
    exact hlp186_652542 (((8193 : Int) - p651057.toInt).toNat + 1) P651106 F651107 p651057 0 q651105 16 (fun _ => 0) bp651057 (gB_w (gBl (show Int32.toInt 0 = 0 by decide)) (by decide) (by decide)) (gF_w gF_0 (by decide) (by decide)) hsb651118 hfr651121 hm651114 he651119 hm651115 he651120 hm651116 he651110 hm651112 he651111 hq651117 (by have qa0 : Int32.toInt 0 = 0 := (by decide); have qa1 : Int32.toInt 6 = 6 := (by decide); omega) (by have qa0 : Int32.toInt 0 = 0 := (by decide); have qa1 : Int32.toInt 6 = 6 := (by decide); omega) (by have qa0 : Int32.toInt 0 = 0 := (by decide); have qa1 : Int32.toInt 6 = 6 := (by decide); omega) (by have qa0 : Int32.toInt 0 = 0 := (by decide); have qa1 : Int32.toInt 6 = 6 := (by decide); omega) (by have qa0 : Int32.toInt 0 = 0 := (by decide); have qa1 : Int32.toInt 6 = 6 := (by decide); omega) (Nat.lt_succ_self _)
  refine G_iload_n 0 dr_cX14_word_16 rfl ?_
  refine G_bipush 118 dr_cX14_word_17 (by decide +kernel) ?_
  refine G_icmp_eq 28 dr_cX14_word_19 (by decide +kernel) (fun hc653151 => ?_) (fun hc653151 => ?_)
  · have r653152 : z651076.toInt = 118 := gj_eq hc653151 (show Int32.toInt 118 = 118 by decide)
    have bz651076' : gB z651076 118 118 := ⟨by omega, by omega⟩
    refine G_aload_n 1 dr_cX14_word_28 rfl ?_
    refine Gp_get 2 hmq651054 he651081 dr_cX14_word_29 (gk_X14 D I) (Nat.le_of_ble_eq_true rfl) wr_9_34 rfl ?_
    refine G_iconst 1 dr_cX14_word_32 (by decide +kernel) ?_
    refine G_iadd dr_cX14_word_33 (G_nam fun z653153 hz653153 => ?_)
    have ez653153 : z653153.toInt = p651057.toInt + 1 := by rw [gI_add hz653153 bp651057 (gBl (show Int32.toInt 1 = 1 by decide)) (by decide) (by decide), show Int32.toInt 1 = 1 from by decide]
    have bz653153 : gB z653153 1 8193 := gB_add (gI_add hz653153 bp651057 (gBl (show Int32.toInt 1 = 1 by decide)) (by decide) (by decide)) bp651057 (gBl (show Int32.toInt 1 = 1 by decide)) (by decide) (by decide)
    refine G_aload_n 1 dr_cX14_word_34 rfl ?_
    refine Gp_get 1 hmq651054 he651081 dr_cX14_word_35 (gk_X14 D I) (Nat.le_of_ble_eq_true rfl) wr_9_33 rfl ?_
    refine G_icmp_ge 178 dr_cX14_word_38 (by decide +kernel) (fun hc653154 => ?_) (fun hc653154 => ?_)
    · have r653155 : p651056.toInt ≤ z653153.toInt := gC_le hc653154
      refine G_lv (L' := [(1, .int z651076), (0, .ref q651054)]) [0, 1] rfl ?_
      exact jn651083
    · have r653156 : z653153.toInt < p651056.toInt := gC_nle hc653154
      have bz653153' : gB z653153 1 8191 := ⟨by omega, by omega⟩
      have bp651056' : gB p651056 2 8192 := ⟨by omega, by omega⟩
      refine G_aload_n 1 dr_cX14_word_41 rfl ?_
      refine Gp_get 0 hmq651054 he651081 dr_cX14_word_42 (gk_X14 D I) (Nat.le_of_ble_eq_true rfl) wr_9_32 rfl ?_
      refine G_aload_n 1 dr_cX14_word_45 rfl ?_
      refine Gp_get 2 hmq651054 he651081 dr_cX14_word_46 (gk_X14 D I) (Nat.le_of_ble_eq_true rfl) wr_9_34 rfl ?_
      refine G_iconst 1 dr_cX14_word_49 (by decide +kernel) ?_
      refine G_iadd dr_cX14_word_50 (G_eqi (y := z653153) hz653153.symm ?_)
      refine Gp_bald 1 hmq651055 he651080 dr_cX14_word_51 rfl (gB_in bz653153' (by decide) (by decide)) (G_nam fun z653157 hz653157 => ?_)
      have bz653157 : gB z653157 (-128) 127 := by rw [hz653157]; exact bf651069 _
      refine Gw_callS (As := [.int z653157]) (gV_ok D I) (cp_649513_Reader_isDigit l hl0 D I P651052 F651077 z653157 ) dr_cX14_word_52 ⟨wr_7_215, wr_1_32, wr_7_217, by decide, rfl, (Nat.le_of_ble_eq_true rfl), (Nat.le_of_ble_eq_true rfl)⟩ wr_7_216 (show 0 + 0 ≤ ((16 * (p651056.toInt - p651057.toInt)).toNat) by first | omega | decide) (show 0 + 0 ≤ ((160 * (p651056.toInt - p651057.toInt)).toNat) by first | omega | decide) (Nat.le_of_ble_eq_true rfl) (fun r653161 w653162 dc653158 ds653159 hp653160 => ?_) (fun _ _ _ _ _ z => z.elim)
      obtain ⟨o653163, rfl, rfl, hdc, hds, bo653163, x653164⟩ := hp653160
      change G _ _ _ _ _ _ _ (.int o653163 :: _) _ _ _
      refine G_widen (cs' := 0) (sl' := 0) (by omega) (by omega) ?_
      refine G_if_eq 178 dr_cX14_word_55 (by decide +kernel) (fun hc653165 => ?_) (fun hc653165 => ?_)
      · have r653166 : o653163.toInt = 0 := gj_eq hc653165 (show Int32.toInt 0 = 0 by decide)
        have bo653163' : gB o653163 0 0 := ⟨by omega, by omega⟩
        refine G_lv (L' := [(1, .int z651076), (0, .ref q651054)]) [0, 1] rfl ?_
        exact jn651083
      · have r653167 : o653163.toInt ≠ 0 := gj_neq hc653165 (show Int32.toInt 0 = 0 by decide)
        have bo653163' : gB o653163 1 1 := ⟨by omega, by omega⟩
        have bi653168 : gB z653157 48 57 := isP_1 x653164 (by omega)
        refine G_lconst 0 dr_cX14_word_58 rfl ?_
        refine G_lstore_n (L' := [(2, .long 0), (1, .int z651076), (0, .ref q651054)]) dr_cX14_word_59 (Nat.le_of_ble_eq_true rfl) rfl ?_
        refine G_aload_n 2 dr_cX14_word_60 rfl ?_
        refine G_dup dr_cX14_word_61 rfl ?_
        refine Gp_get 2 hmq651054 he651081 dr_cX14_word_62 (gk_X14 D I) (Nat.le_of_ble_eq_true rfl) wr_9_34 rfl ?_
        refine G_iconst 1 dr_cX14_word_65 (by decide +kernel) ?_
        refine G_iadd dr_cX14_word_66 (G_eqi (y := z653153) hz653153.symm ?_)
        refine Gp_put 2 hmq651054 he651081 dr_cX14_word_67 (gk_X14 D I) (Nat.le_of_ble_eq_true rfl) wr_9_34 rfl rfl rfl (Nat.le_of_ble_eq_true rfl) (fun F653169 e653170 n653171 => ?_)
        have he653172 : F653169 q651055 = .inl (I .byte, 8192, .inl f651069) := (n653171 q651055 (rn_ao he651080 he651081)).trans he651080
        have he653173 : F653169 q651054 = .inr (19, [.ref q651055, .int p651056, .int z653153, .int 6, .int p651059, .int p651060, .int p651061, .ref qo651062, .int p651063, .int p651064, .int p651065, .ref qo651066, .ref qo651067, .int p651068]) := e653170
        have hfr653174 : rFr [q651054] P651052 F651053 F653169 := rFr_put' List.mem_cons_self hfr651082 n653171
        have hlp70_653321 : ∀ (n70_653321 : Nat) (F653315 : Nat → va_E) (gl653313 : Int64) (g653314 : Int32), gB g653314 0 8192 → rFr [q651054] P651052 F651053 F653315 → F653315 q651054 = .inr (19, [.ref q651055, .int p651056, .int g653314, .int 6, .int p651059, .int p651060, .int p651061, .ref qo651062, .int p651063, .int p651064, .int p651065, .ref qo651066, .ref qo651067, .int p651068]) → F653315 q651055 = .inl (I .byte, 8192, .inl f651069) → LG gl653313 0 1000000 → p651057.toInt < g653314.toInt → g653314.toInt ≤ p651056.toInt → ((8193 : Int) - g653314.toInt).toNat < n70_653321 → G (gV D I) l (gRm 6 132 ((16 * (p651056.toInt - p651057.toInt)).toNat) ((160 * (p651056.toInt - p651057.toInt)).toNat)) (gMA (gV D I) (pp_651075_Reader_word D I P651052 F651053 q651054 q651055 p651056 p651057 p651058 p651059 p651060 p651061 qo651062 p651063 p651064 p651065 qo651066 qo651067 p651068 f651069) gNA ((16 * (p651056.toInt - p651057.toInt)).toNat) ((160 * (p651056.toInt - p651057.toInt)).toNat)) ky_651075_Reader_word 70 [(2, .long gl653313), (1, .int z651076), (0, .ref q651054)] [] (va_pl P651052 F653315) 0 0 := by
          intro n70_653321
          induction n70_653321 with
          | zero => intro F653315 gl653313 g653314 bg653314 hfr653318 he653316 he653317 x653319 x653320 x653321 hm70_653321; exact absurd hm70_653321 (Nat.not_lt_zero _)
          | succ n70_653321 ih70_653321 =>
            intro F653315 gl653313 g653314 bg653314 hfr653318 he653316 he653317 x653319 x653320 x653321 hm70_653321
            refine G_aload_n 2 dr_cX14_word_70 rfl ?_
            refine Gp_get 2 hmq651054 he653316 dr_cX14_word_71 (gk_X14 D I) (Nat.le_of_ble_eq_true rfl) wr_9_34 rfl ?_
            refine G_aload_n 2 dr_cX14_word_74 rfl ?_
            refine Gp_get 1 hmq651054 he653316 dr_cX14_word_75 (gk_X14 D I) (Nat.le_of_ble_eq_true rfl) wr_9_33 rfl ?_
            refine G_icmp_ge 136 dr_cX14_word_78 (by decide +kernel) (fun hc653322 => ?_) (fun hc653322 => ?_)
            · have r653323 : p651056.toInt ≤ g653314.toInt := gC_le hc653322
              have bg653314' : gB g653314 2 8192 := ⟨by omega, by omega⟩
              clear bz651076 he651080 he651081 hfr651082 jn651083 bz653153 bz653157 bo653163 bo653163' he653172 he653173 hfr653174; try clear r653161; try clear w653162; try clear dc653158; try clear ds653159; try clear hp653160; try clear x653164; try clear r653167
              refine G_aload_n 2 dr_cX14_word_136 rfl ?_
              refine G_lload_n 0 dr_cX14_word_137 rfl ?_
              refine G_l2i dr_cX14_word_138 (G_nam fun z653324 hz653324 => ?_)
              have bz653324 : gB z653324 (-2147483648) 2147483647 := gB_any z653324
              refine Gp_put 5 hmq651054 he653316 dr_cX14_word_139 (gk_X14 D I) (Nat.le_of_ble_eq_true rfl) wr_9_37 rfl rfl rfl (Nat.le_of_ble_eq_true rfl) (fun F653325 e653326 n653327 => ?_)
              have he653328 : F653325 q651055 = .inl (I .byte, 8192, .inl f651069) := (n653327 q651055 (rn_ao he653317 he653316)).trans he653317
              have he653329 : F653325 q651054 = .inr (19, [.ref q651055, .int p651056, .int g653314, .int 6, .int p651059, .int z653324, .int p651061, .ref qo651062, .int p651063, .int p651064, .int p651065, .ref qo651066, .ref qo651067, .int p651068]) := e653326
              have hfr653330 : rFr [q651054] P651052 F651053 F653325 := rFr_put' List.mem_cons_self hfr653318 n653327
              refine G_lload_n 0 dr_cX14_word_142 rfl ?_
              refine G_iload_n 1 dr_cX14_word_143 rfl ?_
              refine G_bipush 118 dr_cX14_word_144 (by decide +kernel) ?_
              refine G_icmp_ne 155 dr_cX14_word_146 (by decide +kernel) (fun hc => absurd (show False by have := gj_neq hc (show Int32.toInt 118 = 118 by decide); omega) not_false) (fun _ => ?_)
              refine G_ldc2 99 dr_cX14_word_149 wr_7_229 ?_
              refine G_goto 158 dr_cX14_word_152 (by decide +kernel) ?_
              refine G_lcmp dr_cX14_word_158 (G_nam fun z653331 hz653331 => ?_)
              have bz653331 : gB z653331 (-1) 1 := gB_cmp hz653331
              refine G_if_gt 177 dr_cX14_word_159 (by decide +kernel) (fun hc653332 => ?_) (fun hc653332 => ?_)
              · have r653333 : 0 < z653331.toInt := gj_ltL hc653332 (show Int32.toInt 0 = 0 by decide)
                have bz653331' : gB z653331 1 1 := ⟨by omega, by omega⟩
                have lhc653332 := gC_cmpS hz653331 (by omega)
                exact G_vretA dr_cX14_word_177 rfl (show 0 ≤ ((16 * (p651056.toInt - p651057.toInt)).toNat) by omega) (show 0 ≤ ((160 * (p651056.toInt - p651057.toInt)).toNat) by omega) ⟨P651052, F653325, g653314, 6, z653324, qo651062, rfl, rfl, (rSub_rf (P := P651052)), hfr653330, he653329, he653328, (by omega), (by omega), (gB_w bg653314' (by decide) (by decide)), (gB_w (gBl (show Int32.toInt 6 = 6 by decide)) (by decide) (by decide)), (by have qa0 : Int32.toInt 6 = 6 := (by decide); omega), (by have qa0 : Int32.toInt 6 = 6 := (by decide); omega), (tP_no (by decide) (by decide)), (vP_no (by decide) (by decide))⟩
              · have r653334 : z653331.toInt ≤ 0 := gj_nltL hc653332 (show Int32.toInt 0 = 0 by decide)
                have bz653331' : gB z653331 (-1) 0 := ⟨by omega, by omega⟩
                refine G_aload_n 2 dr_cX14_word_162 rfl ?_
                refine G_iload_n 1 dr_cX14_word_163 rfl ?_
                refine G_bipush 118 dr_cX14_word_164 (by decide +kernel) ?_
                refine G_icmp_ne 173 dr_cX14_word_166 (by decide +kernel) (fun hc => absurd (show False by have := gj_neq hc (show Int32.toInt 118 = 118 by decide); omega) not_false) (fun _ => ?_)
                refine G_iconst 2 dr_cX14_word_169 (by decide +kernel) ?_
                refine G_goto 174 dr_cX14_word_170 (by decide +kernel) ?_
                refine Gp_put 3 hmq651054 he653329 dr_cX14_word_174 (gk_X14 D I) (Nat.le_of_ble_eq_true rfl) wr_9_35 rfl rfl rfl (Nat.le_of_ble_eq_true rfl) (fun F653335 e653336 n653337 => ?_)
                have he653338 : F653335 q651055 = .inl (I .byte, 8192, .inl f651069) := (n653337 q651055 (rn_ao he653328 he653329)).trans he653328
                have he653339 : F653335 q651054 = .inr (19, [.ref q651055, .int p651056, .int g653314, .int 2, .int p651059, .int z653324, .int p651061, .ref qo651062, .int p651063, .int p651064, .int p651065, .ref qo651066, .ref qo651067, .int p651068]) := e653336
                have hfr653340 : rFr [q651054] P651052 F651053 F653335 := rFr_put' List.mem_cons_self hfr653330 n653337
                exact G_vretA dr_cX14_word_177 rfl (show 0 ≤ ((16 * (p651056.toInt - p651057.toInt)).toNat) by omega) (show 0 ≤ ((160 * (p651056.toInt - p651057.toInt)).toNat) by omega) ⟨P651052, F653335, g653314, 2, z653324, qo651062, rfl, rfl, (rSub_rf (P := P651052)), hfr653340, he653339, he653338, (by omega), (by omega), (gB_w bg653314' (by decide) (by decide)), (gB_w (gBl (show Int32.toInt 2 = 2 by decide)) (by decide) (by decide)), (by have qa0 : Int32.toInt 2 = 2 := (by decide); omega), (by have qa0 : Int32.toInt 2 = 2 := (by decide); omega), (tP_no (by decide) (by decide)), (vP_r (by assumption) (by assumption) (by assumption) (by omega))⟩
            · have r653341 : g653314.toInt < p651056.toInt := gC_nle hc653322
              have bg653314' : gB g653314 0 8191 := ⟨by omega, by omega⟩
              refine G_aload_n 2 dr_cX14_word_81 rfl ?_
              refine Gp_get 0 hmq651054 he653316 dr_cX14_word_82 (gk_X14 D I) (Nat.le_of_ble_eq_true rfl) wr_9_32 rfl ?_
              refine G_aload_n 2 dr_cX14_word_85 rfl ?_
              refine Gp_get 2 hmq651054 he653316 dr_cX14_word_86 (gk_X14 D I) (Nat.le_of_ble_eq_true rfl) wr_9_34 rfl ?_
              refine Gp_bald 1 hmq651055 he653317 dr_cX14_word_89 rfl (gB_in bg653314' (by decide) (by decide)) (G_nam fun z653342 hz653342 => ?_)
              have bz653342 : gB z653342 (-128) 127 := by rw [hz653342]; exact bf651069 _
              refine Gw_callS (As := [.int z653342]) (gV_ok D I) (cp_649513_Reader_isDigit l hl0 D I P651052 F653315 z653342 ) dr_cX14_word_90 ⟨wr_7_215, wr_1_32, wr_7_217, by decide, rfl, (Nat.le_of_ble_eq_true rfl), (Nat.le_of_ble_eq_true rfl)⟩ wr_7_216 (show 0 + 0 ≤ ((16 * (p651056.toInt - p651057.toInt)).toNat) by first | omega | decide) (show 0 + 0 ≤ ((160 * (p651056.toInt - p651057.toInt)).toNat) by first | omega | decide) (Nat.le_of_ble_eq_true rfl) (fun r653346 w653347 dc653343 ds653344 hp653345 => ?_) (fun _ _ _ _ _ z => z.elim)
              obtain ⟨o653348, rfl, rfl, hdc, hds, bo653348, x653349⟩ := hp653345
              change G _ _ _ _ _ _ _ (.int o653348 :: _) _ _ _
              refine G_widen (cs' := 0) (sl' := 0) (by omega) (by omega) ?_
              refine G_if_eq 136 dr_cX14_word_93 (by decide +kernel) (fun hc653350 => ?_) (fun hc653350 => ?_)
              · have r653351 : o653348.toInt = 0 := gj_eq hc653350 (show Int32.toInt 0 = 0 by decide)
                have bo653348' : gB o653348 0 0 := ⟨by omega, by omega⟩
                clear bz651076 he651080 he651081 hfr651082 jn651083 bz653153 bz653157 bo653163 bo653163' he653172 he653173 hfr653174 bo653348 bo653348'; try clear r653161; try clear w653162; try clear dc653158; try clear ds653159; try clear hp653160; try clear x653164; try clear r653167; try clear r653346; try clear w653347; try clear dc653343; try clear ds653344; try clear hp653345; try clear x653349; try clear r653351
                refine G_aload_n 2 dr_cX14_word_136 rfl ?_
                refine G_lload_n 0 dr_cX14_word_137 rfl ?_
                refine G_l2i dr_cX14_word_138 (G_nam fun z653352 hz653352 => ?_)
                have bz653352 : gB z653352 (-2147483648) 2147483647 := gB_any z653352
                refine Gp_put 5 hmq651054 he653316 dr_cX14_word_139 (gk_X14 D I) (Nat.le_of_ble_eq_true rfl) wr_9_37 rfl rfl rfl (Nat.le_of_ble_eq_true rfl) (fun F653353 e653354 n653355 => ?_)
                have he653356 : F653353 q651055 = .inl (I .byte, 8192, .inl f651069) := (n653355 q651055 (rn_ao he653317 he653316)).trans he653317
                have he653357 : F653353 q651054 = .inr (19, [.ref q651055, .int p651056, .int g653314, .int 6, .int p651059, .int z653352, .int p651061, .ref qo651062, .int p651063, .int p651064, .int p651065, .ref qo651066, .ref qo651067, .int p651068]) := e653354
                have hfr653358 : rFr [q651054] P651052 F651053 F653353 := rFr_put' List.mem_cons_self hfr653318 n653355
                refine G_lload_n 0 dr_cX14_word_142 rfl ?_
                refine G_iload_n 1 dr_cX14_word_143 rfl ?_
                refine G_bipush 118 dr_cX14_word_144 (by decide +kernel) ?_
                refine G_icmp_ne 155 dr_cX14_word_146 (by decide +kernel) (fun hc => absurd (show False by have := gj_neq hc (show Int32.toInt 118 = 118 by decide); omega) not_false) (fun _ => ?_)
                refine G_ldc2 99 dr_cX14_word_149 wr_7_229 ?_
                refine G_goto 158 dr_cX14_word_152 (by decide +kernel) ?_
                refine G_lcmp dr_cX14_word_158 (G_nam fun z653359 hz653359 => ?_)
                have bz653359 : gB z653359 (-1) 1 := gB_cmp hz653359
                refine G_if_gt 177 dr_cX14_word_159 (by decide +kernel) (fun hc653360 => ?_) (fun hc653360 => ?_)
                · have r653361 : 0 < z653359.toInt := gj_ltL hc653360 (show Int32.toInt 0 = 0 by decide)
                  have bz653359' : gB z653359 1 1 := ⟨by omega, by omega⟩
                  have lhc653360 := gC_cmpS hz653359 (by omega)
                  exact G_vretA dr_cX14_word_177 rfl (show 0 ≤ ((16 * (p651056.toInt - p651057.toInt)).toNat) by omega) (show 0 ≤ ((160 * (p651056.toInt - p651057.toInt)).toNat) by omega) ⟨P651052, F653353, g653314, 6, z653352, qo651062, rfl, rfl, (rSub_rf (P := P651052)), hfr653358, he653357, he653356, (by omega), (by omega), (gB_w bg653314' (by decide) (by decide)), (gB_w (gBl (show Int32.toInt 6 = 6 by decide)) (by decide) (by decide)), (by have qa0 : Int32.toInt 6 = 6 := (by decide); omega), (by have qa0 : Int32.toInt 6 = 6 := (by decide); omega), (tP_no (by decide) (by decide)), (vP_no (by decide) (by decide))⟩
                · have r653362 : z653359.toInt ≤ 0 := gj_nltL hc653360 (show Int32.toInt 0 = 0 by decide)
                  have bz653359' : gB z653359 (-1) 0 := ⟨by omega, by omega⟩
                  refine G_aload_n 2 dr_cX14_word_162 rfl ?_
                  refine G_iload_n 1 dr_cX14_word_163 rfl ?_
                  refine G_bipush 118 dr_cX14_word_164 (by decide +kernel) ?_
                  refine G_icmp_ne 173 dr_cX14_word_166 (by decide +kernel) (fun hc => absurd (show False by have := gj_neq hc (show Int32.toInt 118 = 118 by decide); omega) not_false) (fun _ => ?_)
                  refine G_iconst 2 dr_cX14_word_169 (by decide +kernel) ?_
                  refine G_goto 174 dr_cX14_word_170 (by decide +kernel) ?_
                  refine Gp_put 3 hmq651054 he653357 dr_cX14_word_174 (gk_X14 D I) (Nat.le_of_ble_eq_true rfl) wr_9_35 rfl rfl rfl (Nat.le_of_ble_eq_true rfl) (fun F653363 e653364 n653365 => ?_)
                  have he653366 : F653363 q651055 = .inl (I .byte, 8192, .inl f651069) := (n653365 q651055 (rn_ao he653356 he653357)).trans he653356
                  have he653367 : F653363 q651054 = .inr (19, [.ref q651055, .int p651056, .int g653314, .int 2, .int p651059, .int z653352, .int p651061, .ref qo651062, .int p651063, .int p651064, .int p651065, .ref qo651066, .ref qo651067, .int p651068]) := e653364
                  have hfr653368 : rFr [q651054] P651052 F651053 F653363 := rFr_put' List.mem_cons_self hfr653358 n653365
                  exact G_vretA dr_cX14_word_177 rfl (show 0 ≤ ((16 * (p651056.toInt - p651057.toInt)).toNat) by omega) (show 0 ≤ ((160 * (p651056.toInt - p651057.toInt)).toNat) by omega) ⟨P651052, F653363, g653314, 2, z653352, qo651062, rfl, rfl, (rSub_rf (P := P651052)), hfr653368, he653367, he653366, (by omega), (by omega), (gB_w bg653314' (by decide) (by decide)), (gB_w (gBl (show Int32.toInt 2 = 2 by decide)) (by decide) (by decide)), (by have qa0 : Int32.toInt 2 = 2 := (by decide); omega), (by have qa0 : Int32.toInt 2 = 2 := (by decide); omega), (tP_no (by decide) (by decide)), (vP_r (by assumption) (by assumption) (by assumption) (by omega))⟩
              · have r653369 : o653348.toInt ≠ 0 := gj_neq hc653350 (show Int32.toInt 0 = 0 by decide)
                have bo653348' : gB o653348 1 1 := ⟨by omega, by omega⟩
                have bi653370 : gB z653342 48 57 := isP_1 x653349 (by omega)
                refine G_lload_n 0 dr_cX14_word_96 rfl ?_
                refine G_ldc2 10 dr_cX14_word_97 wr_7_225 ?_
                refine G_lmul dr_cX14_word_100 (G_namL fun u653371 hu653371 => ?_)
                refine G_aload_n 2 dr_cX14_word_101 rfl ?_
                refine Gp_get 0 hmq651054 he653316 dr_cX14_word_102 (gk_X14 D I) (Nat.le_of_ble_eq_true rfl) wr_9_32 rfl ?_
                refine G_aload_n 2 dr_cX14_word_105 rfl ?_
                refine Gp_get 2 hmq651054 he653316 dr_cX14_word_106 (gk_X14 D I) (Nat.le_of_ble_eq_true rfl) wr_9_34 rfl ?_
                refine Gp_bald 1 hmq651055 he653317 dr_cX14_word_109 rfl (gB_in bg653314' (by decide) (by decide)) (G_eqi (y := z653342) hz653342.symm ?_)
                refine G_i2l dr_cX14_word_110 (G_namL fun u653372 hu653372 => ?_)
                refine G_ladd dr_cX14_word_111 (G_namL fun u653373 hu653373 => ?_)
                refine G_ldc2 48 dr_cX14_word_112 wr_7_226 ?_
                refine G_lsub dr_cX14_word_115 (G_namL fun u653374 hu653374 => ?_)
                refine G_ldc2 1000000 dr_cX14_word_116 wr_7_227 ?_
                refine Gw_callS (As := [.long u653374, .long 1000000]) (gV_ok D I) (cp_649566_Math_min l hl0 D I P651052 F653315 u653374 1000000 ) dr_cX14_word_119 ⟨wr_7_228, wr_1_6, wr_3_40, by decide, rfl, (Nat.le_of_ble_eq_true rfl), (Nat.le_of_ble_eq_true rfl)⟩ wr_3_39 (show 0 + 0 ≤ ((16 * (p651056.toInt - p651057.toInt)).toNat) by first | omega | decide) (show 0 + 0 ≤ ((160 * (p651056.toInt - p651057.toInt)).toNat) by first | omega | decide) (Nat.le_of_ble_eq_true rfl) (fun r653378 w653379 dc653375 ds653376 hp653377 => ?_) (fun _ _ _ _ _ z => z.elim)
                obtain ⟨ol653380, rfl, rfl, hdc, hds, x653381⟩ := hp653377
                change G _ _ _ _ _ _ _ (.long ol653380 :: _) _ _ _
                refine G_widen (cs' := 0) (sl' := 0) (by omega) (by omega) ?_
                refine G_lstore_n (L' := [(2, .long ol653380), (1, .int z651076), (0, .ref q651054)]) dr_cX14_word_122 (Nat.le_of_ble_eq_true rfl) rfl ?_
                refine G_aload_n 2 dr_cX14_word_123 rfl ?_
                refine G_dup dr_cX14_word_124 rfl ?_
                refine Gp_get 2 hmq651054 he653316 dr_cX14_word_125 (gk_X14 D I) (Nat.le_of_ble_eq_true rfl) wr_9_34 rfl ?_
                refine G_iconst 1 dr_cX14_word_128 (by decide +kernel) ?_
                refine G_iadd dr_cX14_word_129 (G_nam fun z653382 hz653382 => ?_)
                have ez653382 : z653382.toInt = g653314.toInt + 1 := by rw [gI_add hz653382 bg653314' (gBl (show Int32.toInt 1 = 1 by decide)) (by decide) (by decide), show Int32.toInt 1 = 1 from by decide]
                have bz653382 : gB z653382 1 8192 := gB_add (gI_add hz653382 bg653314' (gBl (show Int32.toInt 1 = 1 by decide)) (by decide) (by decide)) bg653314' (gBl (show Int32.toInt 1 = 1 by decide)) (by decide) (by decide)
                refine Gp_put 2 hmq651054 he653316 dr_cX14_word_130 (gk_X14 D I) (Nat.le_of_ble_eq_true rfl) wr_9_34 rfl rfl rfl (Nat.le_of_ble_eq_true rfl) (fun F653383 e653384 n653385 => ?_)
                have he653386 : F653383 q651055 = .inl (I .byte, 8192, .inl f651069) := (n653385 q651055 (rn_ao he653317 he653316)).trans he653317
                have he653387 : F653383 q651054 = .inr (19, [.ref q651055, .int p651056, .int z653382, .int 6, .int p651059, .int p651060, .int p651061, .ref qo651062, .int p651063, .int p651064, .int p651065, .ref qo651066, .ref qo651067, .int p651068]) := e653384
                have hfr653388 : rFr [q651054] P651052 F651053 F653383 := rFr_put' List.mem_cons_self hfr653318 n653385
                refine G_goto 70 dr_cX14_word_133 (by decide +kernel) ?_
                exact ih70_653321 F653383 ol653380 z653382 (gB_w bz653382 (by decide) (by decide)) hfr653388 he653387 he653386 (lgSt (by assumption) (by assumption) (by assumption) (by assumption) (by assumption) (by assumption) (by omega) (by omega)) (by have qa0 : Int32.toInt 6 = 6 := (by decide); omega) (by have qa0 : Int32.toInt 6 = 6 := (by decide); omega) (by have qa0 : Int32.toInt 6 = 6 := (by decide); omega)
        exact hlp70_653321 (((8193 : Int) - z653153.toInt).toNat + 1) F653169 0 z653153 (gB_w bz653153' (by decide) (by decide)) hfr653174 he653173 he653172 LG_0 (by have qa0 : Int32.toInt 6 = 6 := (by decide); omega) (by have qa0 : Int32.toInt 6 = 6 := (by decide); omega) (Nat.lt_succ_self _)
  · have r653389 : z651076.toInt ≠ 118 := gj_neq hc653151 (show Int32.toInt 118 = 118 by decide)
    refine G_iload_n 0 dr_cX14_word_22 rfl ?_
    refine G_bipush 98 dr_cX14_word_23 (by decide +kernel) ?_
    refine G_icmp_ne 178 dr_cX14_word_25 (by decide +kernel) (fun hc653390 => ?_) (fun hc653390 => ?_)
    · have r653391 : z651076.toInt ≠ 98 := gj_neq hc653390 (show Int32.toInt 98 = 98 by decide)
      refine G_lv (L' := [(1, .int z651076), (0, .ref q651054)]) [0, 1] rfl ?_
      exact jn651083
    · have r653392 : z651076.toInt = 98 := gj_eq hc653390 (show Int32.toInt 98 = 98 by decide)
      have bz651076' : gB z651076 98 98 := ⟨by omega, by omega⟩
      refine G_aload_n 1 dr_cX14_word_28 rfl ?_
      refine Gp_get 2 hmq651054 he651081 dr_cX14_word_29 (gk_X14 D I) (Nat.le_of_ble_eq_true rfl) wr_9_34 rfl ?_
      refine G_iconst 1 dr_cX14_word_32 (by decide +kernel) ?_
      refine G_iadd dr_cX14_word_33 (G_nam fun z653393 hz653393 => ?_)
      have ez653393 : z653393.toInt = p651057.toInt + 1 := by rw [gI_add hz653393 bp651057 (gBl (show Int32.toInt 1 = 1 by decide)) (by decide) (by decide), show Int32.toInt 1 = 1 from by decide]
      have bz653393 : gB z653393 1 8193 := gB_add (gI_add hz653393 bp651057 (gBl (show Int32.toInt 1 = 1 by decide)) (by decide) (by decide)) bp651057 (gBl (show Int32.toInt 1 = 1 by decide)) (by decide) (by decide)
      refine G_aload_n 1 dr_cX14_word_34 rfl ?_
      refine Gp_get 1 hmq651054 he651081 dr_cX14_word_35 (gk_X14 D I) (Nat.le_of_ble_eq_true rfl) wr_9_33 rfl ?_
      refine G_icmp_ge 178 dr_cX14_word_38 (by decide +kernel) (fun hc653394 => ?_) (fun hc653394 => ?_)
      · have r653395 : p651056.toInt ≤ z653393.toInt := gC_le hc653394
        refine G_lv (L' := [(1, .int z651076), (0, .ref q651054)]) [0, 1] rfl ?_
        exact jn651083
      · have r653396 : z653393.toInt < p651056.toInt := gC_nle hc653394
        have bz653393' : gB z653393 1 8191 := ⟨by omega, by omega⟩
        have bp651056' : gB p651056 2 8192 := ⟨by omega, by omega⟩
        refine G_aload_n 1 dr_cX14_word_41 rfl ?_
        refine Gp_get 0 hmq651054 he651081 dr_cX14_word_42 (gk_X14 D I) (Nat.le_of_ble_eq_true rfl) wr_9_32 rfl ?_
        refine G_aload_n 1 dr_cX14_word_45 rfl ?_
        refine Gp_get 2 hmq651054 he651081 dr_cX14_word_46 (gk_X14 D I) (Nat.le_of_ble_eq_true rfl) wr_9_34 rfl ?_
        refine G_iconst 1 dr_cX14_word_49 (by decide +kernel) ?_
        refine G_iadd dr_cX14_word_50 (G_eqi (y := z653393) hz653393.symm ?_)
        refine Gp_bald 1 hmq651055 he651080 dr_cX14_word_51 rfl (gB_in bz653393' (by decide) (by decide)) (G_nam fun z653397 hz653397 => ?_)
        have bz653397 : gB z653397 (-128) 127 := by rw [hz653397]; exact bf651069 _
        refine Gw_callS (As := [.int z653397]) (gV_ok D I) (cp_649513_Reader_isDigit l hl0 D I P651052 F651077 z653397 ) dr_cX14_word_52 ⟨wr_7_215, wr_1_32, wr_7_217, by decide, rfl, (Nat.le_of_ble_eq_true rfl), (Nat.le_of_ble_eq_true rfl)⟩ wr_7_216 (show 0 + 0 ≤ ((16 * (p651056.toInt - p651057.toInt)).toNat) by first | omega | decide) (show 0 + 0 ≤ ((160 * (p651056.toInt - p651057.toInt)).toNat) by first | omega | decide) (Nat.le_of_ble_eq_true rfl) (fun r653401 w653402 dc653398 ds653399 hp653400 => ?_) (fun _ _ _ _ _ z => z.elim)
        obtain ⟨o653403, rfl, rfl, hdc, hds, bo653403, x653404⟩ := hp653400
        change G _ _ _ _ _ _ _ (.int o653403 :: _) _ _ _
        refine G_widen (cs' := 0) (sl' := 0) (by omega) (by omega) ?_
        refine G_if_eq 178 dr_cX14_word_55 (by decide +kernel) (fun hc653405 => ?_) (fun hc653405 => ?_)
        · have r653406 : o653403.toInt = 0 := gj_eq hc653405 (show Int32.toInt 0 = 0 by decide)
          have bo653403' : gB o653403 0 0 := ⟨by omega, by omega⟩
          refine G_lv (L' := [(1, .int z651076), (0, .ref q651054)]) [0, 1] rfl ?_
          exact jn651083
        · have r653407 : o653403.toInt ≠ 0 := gj_neq hc653405 (show Int32.toInt 0 = 0 by decide)
          have bo653403' : gB o653403 1 1 := ⟨by omega, by omega⟩
          have bi653408 : gB z653397 48 57 := isP_1 x653404 (by omega)
          refine G_lconst 0 dr_cX14_word_58 rfl ?_
          refine G_lstore_n (L' := [(2, .long 0), (1, .int z651076), (0, .ref q651054)]) dr_cX14_word_59 (Nat.le_of_ble_eq_true rfl) rfl ?_
          refine G_aload_n 2 dr_cX14_word_60 rfl ?_
          refine G_dup dr_cX14_word_61 rfl ?_
          refine Gp_get 2 hmq651054 he651081 dr_cX14_word_62 (gk_X14 D I) (Nat.le_of_ble_eq_true rfl) wr_9_34 rfl ?_
          refine G_iconst 1 dr_cX14_word_65 (by decide +kernel) ?_
          refine G_iadd dr_cX14_word_66 (G_eqi (y := z653393) hz653393.symm ?_)
          refine Gp_put 2 hmq651054 he651081 dr_cX14_word_67 (gk_X14 D I) (Nat.le_of_ble_eq_true rfl) wr_9_34 rfl rfl rfl (Nat.le_of_ble_eq_true rfl) (fun F653409 e653410 n653411 => ?_)
          have he653412 : F653409 q651055 = .inl (I .byte, 8192, .inl f651069) := (n653411 q651055 (rn_ao he651080 he651081)).trans he651080
          have he653413 : F653409 q651054 = .inr (19, [.ref q651055, .int p651056, .int z653393, .int 6, .int p651059, .int p651060, .int p651061, .ref qo651062, .int p651063, .int p651064, .int p651065, .ref qo651066, .ref qo651067, .int p651068]) := e653410
          have hfr653414 : rFr [q651054] P651052 F651053 F653409 := rFr_put' List.mem_cons_self hfr651082 n653411
          have hlp70_653561 : ∀ (n70_653561 : Nat) (F653555 : Nat → va_E) (gl653553 : Int64) (g653554 : Int32), gB g653554 0 8192 → rFr [q651054] P651052 F651053 F653555 → F653555 q651054 = .inr (19, [.ref q651055, .int p651056, .int g653554, .int 6, .int p651059, .int p651060, .int p651061, .ref qo651062, .int p651063, .int p651064, .int p651065, .ref qo651066, .ref qo651067, .int p651068]) → F653555 q651055 = .inl (I .byte, 8192, .inl f651069) → LG gl653553 0 1000000 → p651057.toInt < g653554.toInt → g653554.toInt ≤ p651056.toInt → ((8193 : Int) - g653554.toInt).toNat < n70_653561 → G (gV D I) l (gRm 6 132 ((16 * (p651056.toInt - p651057.toInt)).toNat) ((160 * (p651056.toInt - p651057.toInt)).toNat)) (gMA (gV D I) (pp_651075_Reader_word D I P651052 F651053 q651054 q651055 p651056 p651057 p651058 p651059 p651060 p651061 qo651062 p651063 p651064 p651065 qo651066 qo651067 p651068 f651069) gNA ((16 * (p651056.toInt - p651057.toInt)).toNat) ((160 * (p651056.toInt - p651057.toInt)).toNat)) ky_651075_Reader_word 70 [(2, .long gl653553), (1, .int z651076), (0, .ref q651054)] [] (va_pl P651052 F653555) 0 0 := by
            intro n70_653561
            induction n70_653561 with
            | zero => intro F653555 gl653553 g653554 bg653554 hfr653558 he653556 he653557 x653559 x653560 x653561 hm70_653561; exact absurd hm70_653561 (Nat.not_lt_zero _)
            | succ n70_653561 ih70_653561 =>
              intro F653555 gl653553 g653554 bg653554 hfr653558 he653556 he653557 x653559 x653560 x653561 hm70_653561
              refine G_aload_n 2 dr_cX14_word_70 rfl ?_
              refine Gp_get 2 hmq651054 he653556 dr_cX14_word_71 (gk_X14 D I) (Nat.le_of_ble_eq_true rfl) wr_9_34 rfl ?_
              refine G_aload_n 2 dr_cX14_word_74 rfl ?_
              refine Gp_get 1 hmq651054 he653556 dr_cX14_word_75 (gk_X14 D I) (Nat.le_of_ble_eq_true rfl) wr_9_33 rfl ?_
              refine G_icmp_ge 136 dr_cX14_word_78 (by decide +kernel) (fun hc653562 => ?_) (fun hc653562 => ?_)
              · have r653563 : p651056.toInt ≤ g653554.toInt := gC_le hc653562
                have bg653554' : gB g653554 2 8192 := ⟨by omega, by omega⟩
                clear bz651076 he651080 he651081 hfr651082 jn651083 bz653393 bz653397 bo653403 bo653403' he653412 he653413 hfr653414; try clear r653401; try clear w653402; try clear dc653398; try clear ds653399; try clear hp653400; try clear x653404; try clear r653407
                refine G_aload_n 2 dr_cX14_word_136 rfl ?_
                refine G_lload_n 0 dr_cX14_word_137 rfl ?_
                refine G_l2i dr_cX14_word_138 (G_nam fun z653564 hz653564 => ?_)
                have bz653564 : gB z653564 (-2147483648) 2147483647 := gB_any z653564
                refine Gp_put 5 hmq651054 he653556 dr_cX14_word_139 (gk_X14 D I) (Nat.le_of_ble_eq_true rfl) wr_9_37 rfl rfl rfl (Nat.le_of_ble_eq_true rfl) (fun F653565 e653566 n653567 => ?_)
                have he653568 : F653565 q651055 = .inl (I .byte, 8192, .inl f651069) := (n653567 q651055 (rn_ao he653557 he653556)).trans he653557
                have he653569 : F653565 q651054 = .inr (19, [.ref q651055, .int p651056, .int g653554, .int 6, .int p651059, .int z653564, .int p651061, .ref qo651062, .int p651063, .int p651064, .int p651065, .ref qo651066, .ref qo651067, .int p651068]) := e653566
                have hfr653570 : rFr [q651054] P651052 F651053 F653565 := rFr_put' List.mem_cons_self hfr653558 n653567
                refine G_lload_n 0 dr_cX14_word_142 rfl ?_
                refine G_iload_n 1 dr_cX14_word_143 rfl ?_
                refine G_bipush 118 dr_cX14_word_144 (by decide +kernel) ?_
                refine G_icmp_ne 155 dr_cX14_word_146 (by decide +kernel) (fun _ => ?_) (fun hc => absurd (show False by have := gj_eq hc (show Int32.toInt 118 = 118 by decide); omega) not_false)
                refine G_ldc2 39 dr_cX14_word_155 wr_7_230 ?_
                refine G_lcmp dr_cX14_word_158 (G_nam fun z653571 hz653571 => ?_)
                have bz653571 : gB z653571 (-1) 1 := gB_cmp hz653571
                refine G_if_gt 177 dr_cX14_word_159 (by decide +kernel) (fun hc653572 => ?_) (fun hc653572 => ?_)
                · have r653573 : 0 < z653571.toInt := gj_ltL hc653572 (show Int32.toInt 0 = 0 by decide)
                  have bz653571' : gB z653571 1 1 := ⟨by omega, by omega⟩
                  have lhc653572 := gC_cmpS hz653571 (by omega)
                  exact G_vretA dr_cX14_word_177 rfl (show 0 ≤ ((16 * (p651056.toInt - p651057.toInt)).toNat) by omega) (show 0 ≤ ((160 * (p651056.toInt - p651057.toInt)).toNat) by omega) ⟨P651052, F653565, g653554, 6, z653564, qo651062, rfl, rfl, (rSub_rf (P := P651052)), hfr653570, he653569, he653568, (by omega), (by omega), (gB_w bg653554' (by decide) (by decide)), (gB_w (gBl (show Int32.toInt 6 = 6 by decide)) (by decide) (by decide)), (by have qa0 : Int32.toInt 6 = 6 := (by decide); omega), (by have qa0 : Int32.toInt 6 = 6 := (by decide); omega), (tP_no (by decide) (by decide)), (vP_no (by decide) (by decide))⟩
                · have r653574 : z653571.toInt ≤ 0 := gj_nltL hc653572 (show Int32.toInt 0 = 0 by decide)
                  have bz653571' : gB z653571 (-1) 0 := ⟨by omega, by omega⟩
                  refine G_aload_n 2 dr_cX14_word_162 rfl ?_
                  refine G_iload_n 1 dr_cX14_word_163 rfl ?_
                  refine G_bipush 118 dr_cX14_word_164 (by decide +kernel) ?_
                  refine G_icmp_ne 173 dr_cX14_word_166 (by decide +kernel) (fun _ => ?_) (fun hc => absurd (show False by have := gj_eq hc (show Int32.toInt 118 = 118 by decide); omega) not_false)
                  refine G_iconst 3 dr_cX14_word_173 (by decide +kernel) ?_
                  refine Gp_put 3 hmq651054 he653569 dr_cX14_word_174 (gk_X14 D I) (Nat.le_of_ble_eq_true rfl) wr_9_35 rfl rfl rfl (Nat.le_of_ble_eq_true rfl) (fun F653575 e653576 n653577 => ?_)
                  have he653578 : F653575 q651055 = .inl (I .byte, 8192, .inl f651069) := (n653577 q651055 (rn_ao he653568 he653569)).trans he653568
                  have he653579 : F653575 q651054 = .inr (19, [.ref q651055, .int p651056, .int g653554, .int 3, .int p651059, .int z653564, .int p651061, .ref qo651062, .int p651063, .int p651064, .int p651065, .ref qo651066, .ref qo651067, .int p651068]) := e653576
                  have hfr653580 : rFr [q651054] P651052 F651053 F653575 := rFr_put' List.mem_cons_self hfr653570 n653577
                  exact G_vretA dr_cX14_word_177 rfl (show 0 ≤ ((16 * (p651056.toInt - p651057.toInt)).toNat) by omega) (show 0 ≤ ((160 * (p651056.toInt - p651057.toInt)).toNat) by omega) ⟨P651052, F653575, g653554, 3, z653564, qo651062, rfl, rfl, (rSub_rf (P := P651052)), hfr653580, he653579, he653578, (by omega), (by omega), (gB_w bg653554' (by decide) (by decide)), (gB_w (gBl (show Int32.toInt 3 = 3 by decide)) (by decide) (by decide)), (by have qa0 : Int32.toInt 3 = 3 := (by decide); omega), (by have qa0 : Int32.toInt 3 = 3 := (by decide); omega), (tP_no (by decide) (by decide)), (vP_b (by assumption) (by assumption) (by assumption) (by omega))⟩
              · have r653581 : g653554.toInt < p651056.toInt := gC_nle hc653562
                have bg653554' : gB g653554 0 8191 := ⟨by omega, by omega⟩
                refine G_aload_n 2 dr_cX14_word_81 rfl ?_
                refine Gp_get 0 hmq651054 he653556 dr_cX14_word_82 (gk_X14 D I) (Nat.le_of_ble_eq_true rfl) wr_9_32 rfl ?_
                refine G_aload_n 2 dr_cX14_word_85 rfl ?_
                refine Gp_get 2 hmq651054 he653556 dr_cX14_word_86 (gk_X14 D I) (Nat.le_of_ble_eq_true rfl) wr_9_34 rfl ?_
                refine Gp_bald 1 hmq651055 he653557 dr_cX14_word_89 rfl (gB_in bg653554' (by decide) (by decide)) (G_nam fun z653582 hz653582 => ?_)
                have bz653582 : gB z653582 (-128) 127 := by rw [hz653582]; exact bf651069 _
                refine Gw_callS (As := [.int z653582]) (gV_ok D I) (cp_649513_Reader_isDigit l hl0 D I P651052 F653555 z653582 ) dr_cX14_word_90 ⟨wr_7_215, wr_1_32, wr_7_217, by decide, rfl, (Nat.le_of_ble_eq_true rfl), (Nat.le_of_ble_eq_true rfl)⟩ wr_7_216 (show 0 + 0 ≤ ((16 * (p651056.toInt - p651057.toInt)).toNat) by first | omega | decide) (show 0 + 0 ≤ ((160 * (p651056.toInt - p651057.toInt)).toNat) by first | omega | decide) (Nat.le_of_ble_eq_true rfl) (fun r653586 w653587 dc653583 ds653584 hp653585 => ?_) (fun _ _ _ _ _ z => z.elim)
                obtain ⟨o653588, rfl, rfl, hdc, hds, bo653588, x653589⟩ := hp653585
                change G _ _ _ _ _ _ _ (.int o653588 :: _) _ _ _
                refine G_widen (cs' := 0) (sl' := 0) (by omega) (by omega) ?_
                refine G_if_eq 136 dr_cX14_word_93 (by decide +kernel) (fun hc653590 => ?_) (fun hc653590 => ?_)
                · have r653591 : o653588.toInt = 0 := gj_eq hc653590 (show Int32.toInt 0 = 0 by decide)
                  have bo653588' : gB o653588 0 0 := ⟨by omega, by omega⟩
                  clear bz651076 he651080 he651081 hfr651082 jn651083 bz653393 bz653397 bo653403 bo653403' he653412 he653413 hfr653414 bo653588 bo653588'; try clear r653401; try clear w653402; try clear dc653398; try clear ds653399; try clear hp653400; try clear x653404; try clear r653407; try clear r653586; try clear w653587; try clear dc653583; try clear ds653584; try clear hp653585; try clear x653589; try clear r653591
                  refine G_aload_n 2 dr_cX14_word_136 rfl ?_
                  refine G_lload_n 0 dr_cX14_word_137 rfl ?_
                  refine G_l2i dr_cX14_word_138 (G_nam fun z653592 hz653592 => ?_)
                  have bz653592 : gB z653592 (-2147483648) 2147483647 := gB_any z653592
                  refine Gp_put 5 hmq651054 he653556 dr_cX14_word_139 (gk_X14 D I) (Nat.le_of_ble_eq_true rfl) wr_9_37 rfl rfl rfl (Nat.le_of_ble_eq_true rfl) (fun F653593 e653594 n653595 => ?_)
                  have he653596 : F653593 q651055 = .inl (I .byte, 8192, .inl f651069) := (n653595 q651055 (rn_ao he653557 he653556)).trans he653557
                  have he653597 : F653593 q651054 = .inr (19, [.ref q651055, .int p651056, .int g653554, .int 6, .int p651059, .int z653592, .int p651061, .ref qo651062, .int p651063, .int p651064, .int p651065, .ref qo651066, .ref qo651067, .int p651068]) := e653594
                  have hfr653598 : rFr [q651054] P651052 F651053 F653593 := rFr_put' List.mem_cons_self hfr653558 n653595
                  refine G_lload_n 0 dr_cX14_word_142 rfl ?_
                  refine G_iload_n 1 dr_cX14_word_143 rfl ?_
                  refine G_bipush 118 dr_cX14_word_144 (by decide +kernel) ?_
                  refine G_icmp_ne 155 dr_cX14_word_146 (by decide +kernel) (fun _ => ?_) (fun hc => absurd (show False by have := gj_eq hc (show Int32.toInt 118 = 118 by decide); omega) not_false)
                  refine G_ldc2 39 dr_cX14_word_155 wr_7_230 ?_
                  refine G_lcmp dr_cX14_word_158 (G_nam fun z653599 hz653599 => ?_)
                  have bz653599 : gB z653599 (-1) 1 := gB_cmp hz653599
                  refine G_if_gt 177 dr_cX14_word_159 (by decide +kernel) (fun hc653600 => ?_) (fun hc653600 => ?_)
                  · have r653601 : 0 < z653599.toInt := gj_ltL hc653600 (show Int32.toInt 0 = 0 by decide)
                    have bz653599' : gB z653599 1 1 := ⟨by omega, by omega⟩
                    have lhc653600 := gC_cmpS hz653599 (by omega)
                    exact G_vretA dr_cX14_word_177 rfl (show 0 ≤ ((16 * (p651056.toInt - p651057.toInt)).toNat) by omega) (show 0 ≤ ((160 * (p651056.toInt - p651057.toInt)).toNat) by omega) ⟨P651052, F653593, g653554, 6, z653592, qo651062, rfl, rfl, (rSub_rf (P := P651052)), hfr653598, he653597, he653596, (by omega), (by omega), (gB_w bg653554' (by decide) (by decide)), (gB_w (gBl (show Int32.toInt 6 = 6 by decide)) (by decide) (by decide)), (by have qa0 : Int32.toInt 6 = 6 := (by decide); omega), (by have qa0 : Int32.toInt 6 = 6 := (by decide); omega), (tP_no (by decide) (by decide)), (vP_no (by decide) (by decide))⟩
                  · have r653602 : z653599.toInt ≤ 0 := gj_nltL hc653600 (show Int32.toInt 0 = 0 by decide)
                    have bz653599' : gB z653599 (-1) 0 := ⟨by omega, by omega⟩
                    refine G_aload_n 2 dr_cX14_word_162 rfl ?_
                    refine G_iload_n 1 dr_cX14_word_163 rfl ?_
                    refine G_bipush 118 dr_cX14_word_164 (by decide +kernel) ?_
                    refine G_icmp_ne 173 dr_cX14_word_166 (by decide +kernel) (fun _ => ?_) (fun hc => absurd (show False by have := gj_eq hc (show Int32.toInt 118 = 118 by decide); omega) not_false)
                    refine G_iconst 3 dr_cX14_word_173 (by decide +kernel) ?_
                    refine Gp_put 3 hmq651054 he653597 dr_cX14_word_174 (gk_X14 D I) (Nat.le_of_ble_eq_true rfl) wr_9_35 rfl rfl rfl (Nat.le_of_ble_eq_true rfl) (fun F653603 e653604 n653605 => ?_)
                    have he653606 : F653603 q651055 = .inl (I .byte, 8192, .inl f651069) := (n653605 q651055 (rn_ao he653596 he653597)).trans he653596
                    have he653607 : F653603 q651054 = .inr (19, [.ref q651055, .int p651056, .int g653554, .int 3, .int p651059, .int z653592, .int p651061, .ref qo651062, .int p651063, .int p651064, .int p651065, .ref qo651066, .ref qo651067, .int p651068]) := e653604
                    have hfr653608 : rFr [q651054] P651052 F651053 F653603 := rFr_put' List.mem_cons_self hfr653598 n653605
                    exact G_vretA dr_cX14_word_177 rfl (show 0 ≤ ((16 * (p651056.toInt - p651057.toInt)).toNat) by omega) (show 0 ≤ ((160 * (p651056.toInt - p651057.toInt)).toNat) by omega) ⟨P651052, F653603, g653554, 3, z653592, qo651062, rfl, rfl, (rSub_rf (P := P651052)), hfr653608, he653607, he653606, (by omega), (by omega), (gB_w bg653554' (by decide) (by decide)), (gB_w (gBl (show Int32.toInt 3 = 3 by decide)) (by decide) (by decide)), (by have qa0 : Int32.toInt 3 = 3 := (by decide); omega), (by have qa0 : Int32.toInt 3 = 3 := (by decide); omega), (tP_no (by decide) (by decide)), (vP_b (by assumption) (by assumption) (by assumption) (by omega))⟩
                · have r653609 : o653588.toInt ≠ 0 := gj_neq hc653590 (show Int32.toInt 0 = 0 by decide)
                  have bo653588' : gB o653588 1 1 := ⟨by omega, by omega⟩
                  have bi653610 : gB z653582 48 57 := isP_1 x653589 (by omega)
                  refine G_lload_n 0 dr_cX14_word_96 rfl ?_
                  refine G_ldc2 10 dr_cX14_word_97 wr_7_225 ?_
                  refine G_lmul dr_cX14_word_100 (G_namL fun u653611 hu653611 => ?_)
                  refine G_aload_n 2 dr_cX14_word_101 rfl ?_
                  refine Gp_get 0 hmq651054 he653556 dr_cX14_word_102 (gk_X14 D I) (Nat.le_of_ble_eq_true rfl) wr_9_32 rfl ?_
                  refine G_aload_n 2 dr_cX14_word_105 rfl ?_
                  refine Gp_get 2 hmq651054 he653556 dr_cX14_word_106 (gk_X14 D I) (Nat.le_of_ble_eq_true rfl) wr_9_34 rfl ?_
                  refine Gp_bald 1 hmq651055 he653557 dr_cX14_word_109 rfl (gB_in bg653554' (by decide) (by decide)) (G_eqi (y := z653582) hz653582.symm ?_)
                  refine G_i2l dr_cX14_word_110 (G_namL fun u653612 hu653612 => ?_)
                  refine G_ladd dr_cX14_word_111 (G_namL fun u653613 hu653613 => ?_)
                  refine G_ldc2 48 dr_cX14_word_112 wr_7_226 ?_
                  refine G_lsub dr_cX14_word_115 (G_namL fun u653614 hu653614 => ?_)
                  refine G_ldc2 1000000 dr_cX14_word_116 wr_7_227 ?_
                  refine Gw_callS (As := [.long u653614, .long 1000000]) (gV_ok D I) (cp_649566_Math_min l hl0 D I P651052 F653555 u653614 1000000 ) dr_cX14_word_119 ⟨wr_7_228, wr_1_6, wr_3_40, by decide, rfl, (Nat.le_of_ble_eq_true rfl), (Nat.le_of_ble_eq_true rfl)⟩ wr_3_39 (show 0 + 0 ≤ ((16 * (p651056.toInt - p651057.toInt)).toNat) by first | omega | decide) (show 0 + 0 ≤ ((160 * (p651056.toInt - p651057.toInt)).toNat) by first | omega | decide) (Nat.le_of_ble_eq_true rfl) (fun r653618 w653619 dc653615 ds653616 hp653617 => ?_) (fun _ _ _ _ _ z => z.elim)
                  obtain ⟨ol653620, rfl, rfl, hdc, hds, x653621⟩ := hp653617
                  change G _ _ _ _ _ _ _ (.long ol653620 :: _) _ _ _
                  refine G_widen (cs' := 0) (sl' := 0) (by omega) (by omega) ?_
                  refine G_lstore_n (L' := [(2, .long ol653620), (1, .int z651076), (0, .ref q651054)]) dr_cX14_word_122 (Nat.le_of_ble_eq_true rfl) rfl ?_
                  refine G_aload_n 2 dr_cX14_word_123 rfl ?_
                  refine G_dup dr_cX14_word_124 rfl ?_
                  refine Gp_get 2 hmq651054 he653556 dr_cX14_word_125 (gk_X14 D I) (Nat.le_of_ble_eq_true rfl) wr_9_34 rfl ?_
                  refine G_iconst 1 dr_cX14_word_128 (by decide +kernel) ?_
                  refine G_iadd dr_cX14_word_129 (G_nam fun z653622 hz653622 => ?_)
                  have ez653622 : z653622.toInt = g653554.toInt + 1 := by rw [gI_add hz653622 bg653554' (gBl (show Int32.toInt 1 = 1 by decide)) (by decide) (by decide), show Int32.toInt 1 = 1 from by decide]
                  have bz653622 : gB z653622 1 8192 := gB_add (gI_add hz653622 bg653554' (gBl (show Int32.toInt 1 = 1 by decide)) (by decide) (by decide)) bg653554' (gBl (show Int32.toInt 1 = 1 by decide)) (by decide) (by decide)
                  refine Gp_put 2 hmq651054 he653556 dr_cX14_word_130 (gk_X14 D I) (Nat.le_of_ble_eq_true rfl) wr_9_34 rfl rfl rfl (Nat.le_of_ble_eq_true rfl) (fun F653623 e653624 n653625 => ?_)
                  have he653626 : F653623 q651055 = .inl (I .byte, 8192, .inl f651069) := (n653625 q651055 (rn_ao he653557 he653556)).trans he653557
                  have he653627 : F653623 q651054 = .inr (19, [.ref q651055, .int p651056, .int z653622, .int 6, .int p651059, .int p651060, .int p651061, .ref qo651062, .int p651063, .int p651064, .int p651065, .ref qo651066, .ref qo651067, .int p651068]) := e653624
                  have hfr653628 : rFr [q651054] P651052 F651053 F653623 := rFr_put' List.mem_cons_self hfr653558 n653625
                  refine G_goto 70 dr_cX14_word_133 (by decide +kernel) ?_
                  exact ih70_653561 F653623 ol653620 z653622 (gB_w bz653622 (by decide) (by decide)) hfr653628 he653627 he653626 (lgSt (by assumption) (by assumption) (by assumption) (by assumption) (by assumption) (by assumption) (by omega) (by omega)) (by have qa0 : Int32.toInt 6 = 6 := (by decide); omega) (by have qa0 : Int32.toInt 6 = 6 := (by decide); omega) (by have qa0 : Int32.toInt 6 = 6 := (by decide); omega)
          exact hlp70_653561 (((8193 : Int) - z653393.toInt).toNat + 1) F653409 0 z653393 (gB_w bz653393' (by decide) (by decide)) hfr653414 he653413 he653412 LG_0 (by have qa0 : Int32.toInt 6 = 6 := (by decide); omega) (by have qa0 : Int32.toInt 6 = 6 := (by decide); omega) (Nat.lt_succ_self _)
