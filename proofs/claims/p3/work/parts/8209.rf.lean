theorem dr_cX14_word_0 : decode cX14_word 0 = .ok (.aload_n 0, 1) := by decide +kernel
theorem dr_cX14_word_1 : decode cX14_word 1 = .ok (.getfield 28, 3) := by decide +kernel
theorem dr_cX14_word_4 : decode cX14_word 4 = .ok (.aload_n 0, 1) := by decide +kernel
theorem dr_cX14_word_5 : decode cX14_word 5 = .ok (.getfield 44, 3) := by decide +kernel
theorem dr_cX14_word_8 : decode cX14_word 8 = .ok (.baload, 1) := by decide +kernel
theorem dr_cX14_word_9 : decode cX14_word 9 = .ok (.istore_n 1, 1) := by decide +kernel
theorem dr_cX14_word_10 : decode cX14_word 10 = .ok (.aload_n 0, 1) := by decide +kernel
theorem dr_cX14_word_11 : decode cX14_word 11 = .ok (.bipush 6, 2) := by decide +kernel
theorem dr_cX14_word_13 : decode cX14_word 13 = .ok (.putfield 38, 3) := by decide +kernel
theorem dr_cX14_word_178 : decode cX14_word 178 = .ok (.new 87, 3) := by decide +kernel
theorem dr_cX14_word_181 : decode cX14_word 181 = .ok (.dup, 1) := by decide +kernel
theorem dr_cX14_word_182 : decode cX14_word 182 = .ok (.invokespecial 89, 3) := by decide +kernel
theorem dr_cX14_word_185 : decode cX14_word 185 = .ok (.astore_n 2, 1) := by decide +kernel
theorem dr_cX14_word_186 : decode cX14_word 186 = .ok (.aload_n 0, 1) := by decide +kernel
theorem dr_cX14_word_187 : decode cX14_word 187 = .ok (.getfield 44, 3) := by decide +kernel
theorem dr_cX14_word_190 : decode cX14_word 190 = .ok (.aload_n 0, 1) := by decide +kernel
theorem dr_cX14_word_191 : decode cX14_word 191 = .ok (.getfield 32, 3) := by decide +kernel
theorem dr_cX14_word_194 : decode cX14_word 194 = .ok (.if_icmp .ge 46, 3) := by decide +kernel
theorem dr_cX14_word_240 : decode cX14_word 240 = .ok (.aload_n 0, 1) := by decide +kernel
theorem dr_cX14_word_241 : decode cX14_word 241 = .ok (.aload_n 2, 1) := by decide +kernel
theorem dr_cX14_word_242 : decode cX14_word 242 = .ok (.invokevirtual 94, 3) := by decide +kernel
theorem dr_cX14_word_245 : decode cX14_word 245 = .ok (.putfield 11, 3) := by decide +kernel
theorem dr_cX14_word_248 : decode cX14_word 248 = .ok (.ldc 98, 2) := by decide +kernel
theorem dr_cX14_word_250 : decode cX14_word 250 = .ok (.new 87, 3) := by decide +kernel
theorem dr_cX14_word_253 : decode cX14_word 253 = .ok (.dup, 1) := by decide +kernel
theorem dr_cX14_word_254 : decode cX14_word 254 = .ok (.invokespecial 89, 3) := by decide +kernel
theorem dr_cX14_word_257 : decode cX14_word 257 = .ok (.ldc 100, 2) := by decide +kernel
theorem dr_cX14_word_259 : decode cX14_word 259 = .ok (.invokevirtual 102, 3) := by decide +kernel
theorem dr_cX14_word_262 : decode cX14_word 262 = .ok (.aload_n 0, 1) := by decide +kernel
theorem dr_cX14_word_263 : decode cX14_word 263 = .ok (.getfield 11, 3) := by decide +kernel
theorem dr_cX14_word_266 : decode cX14_word 266 = .ok (.invokevirtual 102, 3) := by decide +kernel
theorem dr_cX14_word_269 : decode cX14_word 269 = .ok (.ldc 100, 2) := by decide +kernel
theorem dr_cX14_word_271 : decode cX14_word 271 = .ok (.invokevirtual 102, 3) := by decide +kernel
theorem dr_cX14_word_274 : decode cX14_word 274 = .ok (.invokevirtual 94, 3) := by decide +kernel
theorem dr_cX14_word_277 : decode cX14_word 277 = .ok (.invokevirtual 105, 3) := by decide +kernel
theorem dr_cX14_word_280 : decode cX14_word 280 = .ok (.ifCond .lt 8, 3) := by decide +kernel
theorem dr_cX14_word_288 : decode cX14_word 288 = .ok (.return_, 1) := by decide +kernel
theorem dr_cX14_word_283 : decode cX14_word 283 = .ok (.aload_n 0, 1) := by decide +kernel
theorem dr_cX14_word_284 : decode cX14_word 284 = .ok (.iconst 1, 1) := by decide +kernel
theorem dr_cX14_word_285 : decode cX14_word 285 = .ok (.putfield 38, 3) := by decide +kernel
theorem dr_cX14_word_197 : decode cX14_word 197 = .ok (.aload_n 0, 1) := by decide +kernel
theorem dr_cX14_word_198 : decode cX14_word 198 = .ok (.getfield 28, 3) := by decide +kernel
theorem dr_cX14_word_201 : decode cX14_word 201 = .ok (.aload_n 0, 1) := by decide +kernel
theorem dr_cX14_word_202 : decode cX14_word 202 = .ok (.getfield 44, 3) := by decide +kernel
theorem dr_cX14_word_205 : decode cX14_word 205 = .ok (.baload, 1) := by decide +kernel
theorem dr_cX14_word_206 : decode cX14_word 206 = .ok (.invokestatic 54, 3) := by decide +kernel
theorem wr_7_222 : (Jvm.Cond.methodLink "SpillForgeModel$Reader" (54 : Nat) ({ cls := "SpillForgeModel$Reader", name := "isLetter", desc := "(I)Z" } : Jvm.MethodName)) ∈ gw := gw_7 222 rfl rfl
theorem wr_7_224 : (Jvm.Cond.code ({ cls := "SpillForgeModel$Reader", name := "isLetter", desc := "(I)Z" } : Jvm.MethodName) prog_17_method_3_code (1 : Nat) (Option.some Jvm.ClassFile.FieldType.boolean)) ∈ gw := gw_7 224 rfl rfl
theorem wr_7_223 : (Jvm.Cond.static ({ cls := "SpillForgeModel$Reader", name := "isLetter", desc := "(I)Z" } : Jvm.MethodName)) ∈ gw := gw_7 223 rfl rfl
theorem dr_cX14_word_209 : decode cX14_word 209 = .ok (.ifCond .eq 31, 3) := by decide +kernel
theorem dr_cX14_word_212 : decode cX14_word 212 = .ok (.aload_n 2, 1) := by decide +kernel
theorem dr_cX14_word_213 : decode cX14_word 213 = .ok (.aload_n 0, 1) := by decide +kernel
theorem dr_cX14_word_214 : decode cX14_word 214 = .ok (.getfield 28, 3) := by decide +kernel
theorem dr_cX14_word_217 : decode cX14_word 217 = .ok (.aload_n 0, 1) := by decide +kernel
theorem dr_cX14_word_218 : decode cX14_word 218 = .ok (.getfield 44, 3) := by decide +kernel
theorem dr_cX14_word_221 : decode cX14_word 221 = .ok (.baload, 1) := by decide +kernel
theorem dr_cX14_word_222 : decode cX14_word 222 = .ok (.i2c, 1) := by decide +kernel
theorem dr_cX14_word_223 : decode cX14_word 223 = .ok (.invokevirtual 90, 3) := by decide +kernel
theorem dr_cX14_word_226 : decode cX14_word 226 = .ok (.pop, 1) := by decide +kernel
theorem dr_cX14_word_227 : decode cX14_word 227 = .ok (.aload_n 0, 1) := by decide +kernel
theorem dr_cX14_word_228 : decode cX14_word 228 = .ok (.dup, 1) := by decide +kernel
theorem dr_cX14_word_229 : decode cX14_word 229 = .ok (.getfield 44, 3) := by decide +kernel
theorem dr_cX14_word_232 : decode cX14_word 232 = .ok (.iconst 1, 1) := by decide +kernel
theorem dr_cX14_word_233 : decode cX14_word 233 = .ok (.iadd, 1) := by decide +kernel
theorem dr_cX14_word_234 : decode cX14_word 234 = .ok (.putfield 44, 3) := by decide +kernel
theorem dr_cX14_word_237 : decode cX14_word 237 = .ok (.goto (-51), 3) := by decide +kernel
theorem dr_cX14_word_16 : decode cX14_word 16 = .ok (.iload_n 1, 1) := by decide +kernel
theorem dr_cX14_word_17 : decode cX14_word 17 = .ok (.bipush 118, 2) := by decide +kernel
theorem dr_cX14_word_19 : decode cX14_word 19 = .ok (.if_icmp .eq 9, 3) := by decide +kernel
theorem dr_cX14_word_28 : decode cX14_word 28 = .ok (.aload_n 0, 1) := by decide +kernel
theorem dr_cX14_word_29 : decode cX14_word 29 = .ok (.getfield 44, 3) := by decide +kernel
theorem dr_cX14_word_32 : decode cX14_word 32 = .ok (.iconst 1, 1) := by decide +kernel
theorem dr_cX14_word_33 : decode cX14_word 33 = .ok (.iadd, 1) := by decide +kernel
theorem dr_cX14_word_34 : decode cX14_word 34 = .ok (.aload_n 0, 1) := by decide +kernel
theorem dr_cX14_word_35 : decode cX14_word 35 = .ok (.getfield 32, 3) := by decide +kernel
theorem dr_cX14_word_38 : decode cX14_word 38 = .ok (.if_icmp .ge 140, 3) := by decide +kernel
theorem dr_cX14_word_41 : decode cX14_word 41 = .ok (.aload_n 0, 1) := by decide +kernel
theorem dr_cX14_word_42 : decode cX14_word 42 = .ok (.getfield 28, 3) := by decide +kernel
theorem dr_cX14_word_45 : decode cX14_word 45 = .ok (.aload_n 0, 1) := by decide +kernel
theorem dr_cX14_word_46 : decode cX14_word 46 = .ok (.getfield 44, 3) := by decide +kernel
theorem dr_cX14_word_49 : decode cX14_word 49 = .ok (.iconst 1, 1) := by decide +kernel
theorem dr_cX14_word_50 : decode cX14_word 50 = .ok (.iadd, 1) := by decide +kernel
theorem dr_cX14_word_51 : decode cX14_word 51 = .ok (.baload, 1) := by decide +kernel
theorem dr_cX14_word_52 : decode cX14_word 52 = .ok (.invokestatic 50, 3) := by decide +kernel
theorem dr_cX14_word_55 : decode cX14_word 55 = .ok (.ifCond .eq 123, 3) := by decide +kernel
theorem dr_cX14_word_58 : decode cX14_word 58 = .ok (.lconst 0, 1) := by decide +kernel
theorem dr_cX14_word_59 : decode cX14_word 59 = .ok (.lstore_n 2, 1) := by decide +kernel
theorem dr_cX14_word_60 : decode cX14_word 60 = .ok (.aload_n 0, 1) := by decide +kernel
theorem dr_cX14_word_61 : decode cX14_word 61 = .ok (.dup, 1) := by decide +kernel
theorem dr_cX14_word_62 : decode cX14_word 62 = .ok (.getfield 44, 3) := by decide +kernel
theorem dr_cX14_word_65 : decode cX14_word 65 = .ok (.iconst 1, 1) := by decide +kernel
theorem dr_cX14_word_66 : decode cX14_word 66 = .ok (.iadd, 1) := by decide +kernel
theorem dr_cX14_word_67 : decode cX14_word 67 = .ok (.putfield 44, 3) := by decide +kernel
theorem dr_cX14_word_70 : decode cX14_word 70 = .ok (.aload_n 0, 1) := by decide +kernel
theorem dr_cX14_word_71 : decode cX14_word 71 = .ok (.getfield 44, 3) := by decide +kernel
theorem dr_cX14_word_74 : decode cX14_word 74 = .ok (.aload_n 0, 1) := by decide +kernel
theorem dr_cX14_word_75 : decode cX14_word 75 = .ok (.getfield 32, 3) := by decide +kernel
theorem dr_cX14_word_78 : decode cX14_word 78 = .ok (.if_icmp .ge 58, 3) := by decide +kernel
theorem dr_cX14_word_136 : decode cX14_word 136 = .ok (.aload_n 0, 1) := by decide +kernel
theorem dr_cX14_word_137 : decode cX14_word 137 = .ok (.lload_n 2, 1) := by decide +kernel
theorem dr_cX14_word_138 : decode cX14_word 138 = .ok (.l2i, 1) := by decide +kernel
theorem dr_cX14_word_139 : decode cX14_word 139 = .ok (.putfield 80, 3) := by decide +kernel
theorem dr_cX14_word_142 : decode cX14_word 142 = .ok (.lload_n 2, 1) := by decide +kernel
theorem dr_cX14_word_143 : decode cX14_word 143 = .ok (.iload_n 1, 1) := by decide +kernel
theorem dr_cX14_word_144 : decode cX14_word 144 = .ok (.bipush 118, 2) := by decide +kernel
theorem dr_cX14_word_146 : decode cX14_word 146 = .ok (.if_icmp .ne 9, 3) := by decide +kernel
theorem dr_cX14_word_149 : decode cX14_word 149 = .ok (.ldc2_w 83, 3) := by decide +kernel
theorem wr_7_233 : (Jvm.Cond.constantLong "SpillForgeModel$Reader" (83 : Nat) (99 : Int64)) ∈ gw := gw_7 233 rfl rfl
theorem dr_cX14_word_152 : decode cX14_word 152 = .ok (.goto 6, 3) := by decide +kernel
theorem dr_cX14_word_158 : decode cX14_word 158 = .ok (.lcmp, 1) := by decide +kernel
theorem dr_cX14_word_159 : decode cX14_word 159 = .ok (.ifCond .gt 18, 3) := by decide +kernel
theorem dr_cX14_word_177 : decode cX14_word 177 = .ok (.return_, 1) := by decide +kernel
theorem dr_cX14_word_162 : decode cX14_word 162 = .ok (.aload_n 0, 1) := by decide +kernel
theorem dr_cX14_word_163 : decode cX14_word 163 = .ok (.iload_n 1, 1) := by decide +kernel
theorem dr_cX14_word_164 : decode cX14_word 164 = .ok (.bipush 118, 2) := by decide +kernel
theorem dr_cX14_word_166 : decode cX14_word 166 = .ok (.if_icmp .ne 7, 3) := by decide +kernel
theorem dr_cX14_word_169 : decode cX14_word 169 = .ok (.iconst 2, 1) := by decide +kernel
theorem dr_cX14_word_170 : decode cX14_word 170 = .ok (.goto 4, 3) := by decide +kernel
theorem dr_cX14_word_174 : decode cX14_word 174 = .ok (.putfield 38, 3) := by decide +kernel
theorem dr_cX14_word_81 : decode cX14_word 81 = .ok (.aload_n 0, 1) := by decide +kernel
theorem dr_cX14_word_82 : decode cX14_word 82 = .ok (.getfield 28, 3) := by decide +kernel
theorem dr_cX14_word_85 : decode cX14_word 85 = .ok (.aload_n 0, 1) := by decide +kernel
theorem dr_cX14_word_86 : decode cX14_word 86 = .ok (.getfield 44, 3) := by decide +kernel
theorem dr_cX14_word_89 : decode cX14_word 89 = .ok (.baload, 1) := by decide +kernel
theorem dr_cX14_word_90 : decode cX14_word 90 = .ok (.invokestatic 50, 3) := by decide +kernel
theorem dr_cX14_word_93 : decode cX14_word 93 = .ok (.ifCond .eq 43, 3) := by decide +kernel
theorem dr_cX14_word_96 : decode cX14_word 96 = .ok (.lload_n 2, 1) := by decide +kernel
theorem dr_cX14_word_97 : decode cX14_word 97 = .ok (.ldc2_w 68, 3) := by decide +kernel
theorem dr_cX14_word_100 : decode cX14_word 100 = .ok (.lmul, 1) := by decide +kernel
theorem dr_cX14_word_101 : decode cX14_word 101 = .ok (.aload_n 0, 1) := by decide +kernel
theorem dr_cX14_word_102 : decode cX14_word 102 = .ok (.getfield 28, 3) := by decide +kernel
theorem dr_cX14_word_105 : decode cX14_word 105 = .ok (.aload_n 0, 1) := by decide +kernel
theorem dr_cX14_word_106 : decode cX14_word 106 = .ok (.getfield 44, 3) := by decide +kernel
theorem dr_cX14_word_109 : decode cX14_word 109 = .ok (.baload, 1) := by decide +kernel
theorem dr_cX14_word_110 : decode cX14_word 110 = .ok (.i2l, 1) := by decide +kernel
theorem dr_cX14_word_111 : decode cX14_word 111 = .ok (.ladd, 1) := by decide +kernel
theorem dr_cX14_word_112 : decode cX14_word 112 = .ok (.ldc2_w 70, 3) := by decide +kernel
theorem dr_cX14_word_115 : decode cX14_word 115 = .ok (.lsub, 1) := by decide +kernel
theorem dr_cX14_word_116 : decode cX14_word 116 = .ok (.ldc2_w 72, 3) := by decide +kernel
theorem wr_7_231 : (Jvm.Cond.constantLong "SpillForgeModel$Reader" (72 : Nat) (1000000 : Int64)) ∈ gw := gw_7 231 rfl rfl
theorem dr_cX14_word_119 : decode cX14_word 119 = .ok (.invokestatic 74, 3) := by decide +kernel
theorem dr_cX14_word_122 : decode cX14_word 122 = .ok (.lstore_n 2, 1) := by decide +kernel
theorem dr_cX14_word_123 : decode cX14_word 123 = .ok (.aload_n 0, 1) := by decide +kernel
theorem dr_cX14_word_124 : decode cX14_word 124 = .ok (.dup, 1) := by decide +kernel
theorem dr_cX14_word_125 : decode cX14_word 125 = .ok (.getfield 44, 3) := by decide +kernel
theorem dr_cX14_word_128 : decode cX14_word 128 = .ok (.iconst 1, 1) := by decide +kernel
theorem dr_cX14_word_129 : decode cX14_word 129 = .ok (.iadd, 1) := by decide +kernel
theorem dr_cX14_word_130 : decode cX14_word 130 = .ok (.putfield 44, 3) := by decide +kernel
theorem dr_cX14_word_133 : decode cX14_word 133 = .ok (.goto (-63), 3) := by decide +kernel
theorem dr_cX14_word_22 : decode cX14_word 22 = .ok (.iload_n 1, 1) := by decide +kernel
theorem dr_cX14_word_23 : decode cX14_word 23 = .ok (.bipush 98, 2) := by decide +kernel
theorem dr_cX14_word_25 : decode cX14_word 25 = .ok (.if_icmp .ne 153, 3) := by decide +kernel
theorem dr_cX14_word_155 : decode cX14_word 155 = .ok (.ldc2_w 85, 3) := by decide +kernel
theorem wr_7_234 : (Jvm.Cond.constantLong "SpillForgeModel$Reader" (85 : Nat) (39 : Int64)) ∈ gw := gw_7 234 rfl rfl
theorem dr_cX14_word_173 : decode cX14_word 173 = .ok (.iconst 3, 1) := by decide +kernel
abbrev ky_651520_Reader_isLetter : gKey := (cX14_isLetter, 1, "SpillForgeModel$Reader", (some FieldType.boolean), [], "isLetter", fun _ _ => True)
def pp_651520_Reader_isLetter (D : va_G) (I : FieldType → ClassId) (P651517 : List Nat) (F651518 : Nat → va_E) (p651519 : Int32) : Option Value → va_W → Nat → Nat → Prop := fun r w dc ds => ∃ (o651527 : Int32), r = some (.int o651527) ∧ w = va_pl P651517 F651518 ∧ dc ≤ 0 ∧ ds ≤ 0 ∧ gB o651527 0 1 ∧ isP p651519 97 122 o651527
set_option maxRecDepth 100000 in
set_option maxHeartbeats 4000000 in
theorem cp_651520_Reader_isLetter (l : Launch) (hl0 : l.stackTraces = false) (D : va_G) (I : FieldType → ClassId) (P651517 : List Nat) (F651518 : Nat → va_E) (p651519 : Int32)  : CtA (gV D I) l yX14_isLetter cX14_isLetter 1 (some FieldType.boolean) 0 0 0 0 [.int p651519] (va_pl P651517 F651518) (pp_651520_Reader_isLetter D I P651517 F651518 p651519) gNA := by
  refine CtA_of hl0 (by decide) (Nat.le_of_ble_eq_true rfl) ?_
  have bp651519 := gB_any p651519
  refine G_iload_n 0 dr_cX14_isLetter_0 rfl ?_
  refine G_bipush 97 dr_cX14_isLetter_1 (by decide +kernel) ?_
  refine G_icmp_lt 16 dr_cX14_isLetter_3 (by decide +kernel) (fun hc651521 => ?_) (fun hc651521 => ?_)
  · have r651522 : p651519.toInt < 97 := gj_lt hc651521 (show Int32.toInt 97 = 97 by decide)
    have bp651519' : gB p651519 (-2147483648) 96 := ⟨by omega, by omega⟩
    refine G_iconst 0 dr_cX14_isLetter_16 (by decide +kernel) ?_
    exact G_zretA FieldType.boolean dr_cX14_isLetter_17 rfl rfl (Nat.le_of_ble_eq_true rfl) (Nat.le_of_ble_eq_true rfl) ⟨0, rfl, rfl, (Nat.le_of_ble_eq_true rfl), (Nat.le_of_ble_eq_true rfl), (gB_w (gBl (show Int32.toInt 0 = 0 by decide)) (by decide) (by decide)), (isP_n (by omega))⟩
  · have r651523 : 97 ≤ p651519.toInt := gj_nlt hc651521 (show Int32.toInt 97 = 97 by decide)
    have bp651519' : gB p651519 97 2147483647 := ⟨by omega, by omega⟩
    refine G_iload_n 0 dr_cX14_isLetter_6 rfl ?_
    refine G_bipush 122 dr_cX14_isLetter_7 (by decide +kernel) ?_
    refine G_icmp_gt 16 dr_cX14_isLetter_9 (by decide +kernel) (fun hc651524 => ?_) (fun hc651524 => ?_)
    · have r651525 : 122 < p651519.toInt := gj_ltL hc651524 (show Int32.toInt 122 = 122 by decide)
      have bp651519'' : gB p651519 123 2147483647 := ⟨by omega, by omega⟩
      refine G_iconst 0 dr_cX14_isLetter_16 (by decide +kernel) ?_
      exact G_zretA FieldType.boolean dr_cX14_isLetter_17 rfl rfl (Nat.le_of_ble_eq_true rfl) (Nat.le_of_ble_eq_true rfl) ⟨0, rfl, rfl, (Nat.le_of_ble_eq_true rfl), (Nat.le_of_ble_eq_true rfl), (gB_w (gBl (show Int32.toInt 0 = 0 by decide)) (by decide) (by decide)), (isP_n (by omega))⟩
    · have r651526 : p651519.toInt ≤ 122 := gj_nltL hc651524 (show Int32.toInt 122 = 122 by decide)
      have bp651519'' : gB p651519 97 122 := ⟨by omega, by omega⟩
      refine G_iconst 1 dr_cX14_isLetter_12 (by decide +kernel) ?_
      refine G_goto 17 dr_cX14_isLetter_13 (by decide +kernel) ?_
      exact G_zretA FieldType.boolean dr_cX14_isLetter_17 rfl rfl (Nat.le_of_ble_eq_true rfl) (Nat.le_of_ble_eq_true rfl) ⟨1, rfl, rfl, (Nat.le_of_ble_eq_true rfl), (Nat.le_of_ble_eq_true rfl), (gB_w (gBl (show Int32.toInt 1 = 1 by decide)) (by decide) (by decide)), (isP_y (by omega) (by omega))⟩
abbrev ky_651851_AbstractStringBuilder_append : gKey := (cJ5_append_3fe6f, 2, "java/lang/AbstractStringBuilder", (some (FieldType.object "java/lang/AbstractStringBuilder")), [], "append", fun _ _ => True)
def pp_651851_AbstractStringBuilder_append (D : va_G) (I : FieldType → ClassId) (P651838 : List Nat) (F651839 : Nat → va_E) (q651840 : Nat) (q651841 : Nat) (p651842 : Int32) (p651843 : Int32) (p651844 : Int32) (f651845 : Nat → Int32) (n651846 : Nat) : Option Value → va_W → Nat → Nat → Prop := fun r w dc ds => ∃ (P651913 : List Nat) (F651914 : Nat → va_E) (o651909 : Int32) (q651910 : Nat) (n651911 : Nat) (f651912 : Nat → Int32), r = some (.ref q651840) ∧ w = va_pl P651913 F651914 ∧ rSub P651838 P651913 ∧ rFr [q651841, q651840] P651838 F651839 F651914 ∧ F651914 q651840 = .inr (1, [.ref q651910, .int 0, .int p651843, .int o651909]) ∧ F651914 q651910 = .inl (I .byte, n651911, .inl f651912) ∧ q651910 ∈ P651913 ∧ (q651910 = q651841 ∨ q651910 ∉ P651838) ∧ dc ≤ 1 ∧ ds ≤ 2 * (n651911 - n651846) ∧ gB o651909 1 16777216 ∧ gF f651912 (-128) 127 ∧ o651909.toInt = p651844.toInt + 1 ∧ o651909.toInt ≤ (n651911 : Int) ∧ (n651846 : Int) ≤ (n651911 : Int) ∧ (n651911 : Int) ≤ 2 * o651909.toInt + 16 ∧ (n651911 : Int) ≤ 2 * (n651846 : Int) + 2
set_option maxRecDepth 100000 in
set_option maxHeartbeats 4000000 in
theorem cp_651851_AbstractStringBuilder_append (l : Launch) (hl0 : l.stackTraces = false) (D : va_G) (I : FieldType → ClassId) (P651838 : List Nat) (F651839 : Nat → va_E) (q651840 : Nat) (q651841 : Nat) (p651842 : Int32) (p651843 : Int32) (p651844 : Int32) (f651845 : Nat → Int32) (n651846 : Nat) (hmq651840 : q651840 ∈ P651838) (hmq651841 : q651841 ∈ P651838) (heq651840 : F651839 q651840 = .inr (1, [.ref q651841, .int 0, .int p651843, .int p651844])) (heq651841 : F651839 q651841 = .inl (I .byte, n651846, .inl f651845)) (bp651842 : gB p651842 0 255) (bp651843 : gB p651843 0 1) (bp651844 : gB p651844 0 16777216) (bf651845 : gF f651845 (-128) 127) (x651847 : (n651846 : Int) ≤ 8388608 - 100000) (x651848 : p651844.toInt ≤ (n651846 : Int)) (x651849 : (n651846 : Int) ≤ 2 * p651844.toInt + 16) (x651850 : ((n651846 : Int) ≤ 16777216)) : CtA (gV D I) l yJ5_append_3fe6f cJ5_append_3fe6f 2 (some (FieldType.object "java/lang/AbstractStringBuilder")) 4 84 1 (4 * n651846 + 8) [.ref q651840, .int p651842] (va_pl P651838 F651839) (pp_651851_AbstractStringBuilder_append D I P651838 F651839 q651840 q651841 p651842 p651843 p651844 f651845 n651846) gNA := by
  refine CtA_ofF hl0 (by decide +kernel) (Nat.le_of_ble_eq_true rfl) ?_
  refine G_aload_n 0 dr_cJ5_append_3fe6f_0 rfl ?_
  refine G_aload_n 0 dr_cJ5_append_3fe6f_1 rfl ?_
  refine Gp_get 3 hmq651840 heq651840 dr_cJ5_append_3fe6f_2 (gk_J4 D I) (Nat.le_of_ble_eq_true rfl) wr_7_64 rfl ?_
  refine G_iconst 1 dr_cJ5_append_3fe6f_5 (by decide +kernel) ?_
  refine G_iadd dr_cJ5_append_3fe6f_6 (G_nam fun z651852 hz651852 => ?_)
  have ez651852 : z651852.toInt = p651844.toInt + 1 := by rw [gI_add hz651852 bp651844 (gBl (show Int32.toInt 1 = 1 by decide)) (by decide) (by decide), show Int32.toInt 1 = 1 from by decide]
  have bz651852 : gB z651852 1 16777217 := gB_add (gI_add hz651852 bp651844 (gBl (show Int32.toInt 1 = 1 by decide)) (by decide) (by decide)) bp651844 (gBl (show Int32.toInt 1 = 1 by decide)) (by decide) (by decide)
  refine Gw_callVB (As := [.int z651852]) (gV_ok D I) (cp_640241_AbstractStringBuilder_ensureCapacityInternal l hl0 D I P651838 F651839 q651840 q651841 z651852 p651843 p651844 f651845 n651846 hmq651840 hmq651841 heq651840 heq651841 ⟨by omega, by omega⟩ bp651843 bp651844 bf651845 (by have qa0 : Int32.toInt 0 = 0 := (by decide); omega) (by have qa0 : Int32.toInt 0 = 0 := (by decide); omega)) dr_cJ5_append_3fe6f_7 ⟨wr_8_4, wr_1_19, wr_8_7, by decide, rfl, (Nat.le_of_ble_eq_true rfl), (Nat.le_of_ble_eq_true rfl)⟩ wr_8_6 wr_s_0 hmq651840 heq651840 rfl (show 0 + 1 ≤ 1 by first | omega | decide) (show 0 + (2 * n651846 + 2 + z651852.toInt.toNat) ≤ (4 * n651846 + 8) by first | omega | decide) (Nat.le_of_ble_eq_true rfl) (fun r651856 w651857 dc651853 ds651854 hp651855 => ?_) (fun _ _ _ _ _ z => z.elim)
  obtain ⟨P651865, F651866, q651858, n651859, f651860, rfl, rfl, hsb651867, hfr651868, he651869, he651870, hm651871, hq651872, hdc, hds, bf651860, x651861, x651862, x651863, x651864⟩ := hp651855
  have hm651873 : q651840 ∈ P651865 := hsb651867 q651840 hmq651840
  have hm651874 : q651841 ∈ P651865 := hsb651867 q651841 hmq651841
  have hor651875 : q651858 = q651841 ∨ q651858 ∉ P651838 := hq651872.elim Or.inl (fun n => Or.inr (fun z => n ((rSub_rf (P := P651838)) _ z)))
  have hsb651876 : rSub P651838 P651865 := rSub_tr (rSub_rf (P := P651838)) hsb651867
  have he651877 : F651866 q651841 = .inl (I .byte, n651846, .inl f651845) := (hfr651868 q651841 hmq651841 (nm_c (rn_ao heq651841 heq651840) nm_n)).trans heq651841
  have hfr651878 : rFr [q651840] P651838 F651839 F651866 := rFr_call (rSub_rf (P := P651838)) (rFr_rf (W := []) (P := P651838) (F := F651839)) hfr651868 (fun b hb hn => ⟨nm_n, (nm_c (fun e => hn (e ▸ List.mem_cons_self)) nm_n)⟩)
  change G _ _ _ _ _ _ _ _ _ _ _
  refine G_widen (cs' := 1) (sl' := 2 * (n651859 - n651846)) (by omega) (by omega) ?_
  refine G_aload_n 0 dr_cJ5_append_3fe6f_10 rfl ?_
  refine Gw_callVB (As := []) (gV_ok D I) (cp_640145_AbstractStringBuilder_isLatin1 l hl0 D I P651865 F651866 q651840 q651858 p651843 p651844 f651860 n651859 hm651873 hm651871 he651869 he651870 bp651843 bp651844 bf651860 (by have qa0 : Int32.toInt 0 = 0 := (by decide); omega)) dr_cJ5_append_3fe6f_11 ⟨wr_8_33, wr_1_19, wr_8_37, by decide, rfl, (Nat.le_of_ble_eq_true rfl), (Nat.le_of_ble_eq_true rfl)⟩ wr_8_34 wr_8_36 hm651873 he651869 rfl (show 1 + 0 ≤ 1 by first | omega | decide) (show 2 * (n651859 - n651846) + 0 ≤ (4 * n651846 + 8) by first | omega | decide) (Nat.le_of_ble_eq_true rfl) (fun r651882 w651883 dc651879 ds651880 hp651881 => ?_) (fun _ _ _ _ _ z => z.elim)
  obtain ⟨rfl, rfl, hdc, hds⟩ := hp651881
  change G _ _ _ _ _ _ _ (.int 1 :: _) _ _ _
  refine G_widen (cs' := 1) (sl' := 2 * (n651859 - n651846) + 0) (by omega) (by omega) ?_
  refine G_if_eq 45 dr_cJ5_append_3fe6f_14 (by decide +kernel) (fun hc => absurd hc (by decide)) (fun _ => ?_)
  refine G_iload_n 1 dr_cJ5_append_3fe6f_17 rfl ?_
  refine Gw_callS (As := [.int p651842]) (gV_ok D I) (cp_640154_StringLatin1_canEncode l hl0 D I P651865 F651866 p651842 (gB_w bp651842 (by decide) (by decide))) dr_cJ5_append_3fe6f_18 ⟨wr_8_38, wr_1_28, wr_8_40, by decide, rfl, (Nat.le_of_ble_eq_true rfl), (Nat.le_of_ble_eq_true rfl)⟩ wr_8_39 (show 1 + 0 ≤ 1 by first | omega | decide) (show 2 * (n651859 - n651846) + 0 + 0 ≤ (4 * n651846 + 8) by first | omega | decide) (Nat.le_of_ble_eq_true rfl) (fun r651887 w651888 dc651884 ds651885 hp651886 => ?_) (fun _ _ _ _ _ z => z.elim)
  rcases hp651886 with ⟨rfl, rfl, hdc, hds, r651889⟩ | ⟨rfl, rfl, hdc, hds, r651890⟩
  · exact absurd (show False by omega) not_false
  · change G _ _ _ _ _ _ _ (.int 1 :: _) _ _ _
    refine G_widen (cs' := 1) (sl' := 2 * (n651859 - n651846) + 0 + 0) (by omega) (by omega) ?_
    refine G_if_eq 45 dr_cJ5_append_3fe6f_21 (by decide +kernel) (fun hc => absurd hc (by decide)) (fun _ => ?_)
    refine G_aload_n 0 dr_cJ5_append_3fe6f_24 rfl ?_
    refine Gp_get 0 hm651873 he651869 dr_cJ5_append_3fe6f_25 (gk_J4 D I) (Nat.le_of_ble_eq_true rfl) wr_7_60 rfl ?_
    refine G_aload_n 0 dr_cJ5_append_3fe6f_28 rfl ?_
    refine G_dup dr_cJ5_append_3fe6f_29 rfl ?_
    refine Gp_get 3 hm651873 he651869 dr_cJ5_append_3fe6f_30 (gk_J4 D I) (Nat.le_of_ble_eq_true rfl) wr_7_64 rfl ?_
    refine G_dup_x1 dr_cJ5_append_3fe6f_33 rfl rfl ?_
    refine G_iconst 1 dr_cJ5_append_3fe6f_34 (by decide +kernel) ?_
    refine G_iadd dr_cJ5_append_3fe6f_35 (G_nam fun z651892 hz651892 => ?_)
    have ez651892 : z651892.toInt = p651844.toInt + 1 := by rw [gI_add hz651892 bp651844 (gBl (show Int32.toInt 1 = 1 by decide)) (by decide) (by decide), show Int32.toInt 1 = 1 from by decide]
    have bz651892 : gB z651892 1 16777217 := gB_add (gI_add hz651892 bp651844 (gBl (show Int32.toInt 1 = 1 by decide)) (by decide) (by decide)) bp651844 (gBl (show Int32.toInt 1 = 1 by decide)) (by decide) (by decide)
    refine Gp_put 3 hm651873 he651869 dr_cJ5_append_3fe6f_36 (gk_J4 D I) (Nat.le_of_ble_eq_true rfl) wr_7_64 rfl rfl rfl (Nat.le_of_ble_eq_true rfl) (fun F651893 e651894 n651895 => ?_)
    have he651896 : F651893 q651841 = .inl (I .byte, n651846, .inl f651845) := (n651895 q651841 (rn_ao he651877 he651869)).trans he651877
    have he651897 : F651893 q651858 = .inl (I .byte, n651859, .inl f651860) := (n651895 q651858 (rn_ao he651870 he651869)).trans he651870
    have he651898 : F651893 q651840 = .inr (1, [.ref q651858, .int 0, .int p651843, .int z651892]) := e651894
    have hfr651899 : rFr [q651840] P651838 F651839 F651893 := rFr_put' List.mem_cons_self hfr651878 n651895
    refine G_iload_n 1 dr_cJ5_append_3fe6f_39 rfl ?_
    refine G_i2b dr_cJ5_append_3fe6f_40 (G_nam fun z651900 hz651900 => ?_)
    have bz651900 : gB z651900 (-128) 127 := gB_i2b hz651900
    refine Gp_bast 1 hm651871 he651897 dr_cJ5_append_3fe6f_41 rfl (gB_inr (by omega) (by omega)) (fun F651901 e651902 n651903 => ?_)
    obtain ⟨f651904, hf651904⟩ : ∃ z, z = upd f651860 p651844.toNatClampNeg (vp_nar .byte z651900) := ⟨_, rfl⟩
    rw [← hf651904] at e651902
    have he651906 : F651901 q651840 = .inr (1, [.ref q651858, .int 0, .int p651843, .int z651892]) := (n651903 q651840 (rn_oa he651898 he651897)).trans he651898
    have he651907 : F651901 q651858 = .inl (I .byte, n651859, .inl f651904) := e651902
    have hfr651908 : rFr [q651841, q651840] P651838 F651839 F651901 := rFr_eit hor651875 hfr651899 n651903
    have bf651904 : gF f651904 (-128) 127 := gF_upd hf651904 bf651860 gB_byte
    refine G_goto 75 dr_cJ5_append_3fe6f_42 (by decide +kernel) ?_
    refine G_aload_n 0 dr_cJ5_append_3fe6f_75 rfl ?_
    exact G_aretA (FieldType.object "java/lang/AbstractStringBuilder") dr_cJ5_append_3fe6f_76 rfl (by first | exact Or.inl ⟨_, rfl⟩ | exact Or.inr ⟨_, rfl⟩) (Or.inr ⟨_, rfl⟩) (Nat.le_of_ble_eq_true rfl) (show 2 * (n651859 - n651846) + 0 + 0 ≤ (4 * n651846 + 8) by omega) ⟨P651865, F651901, z651892, q651858, n651859, f651904, rfl, rfl, hsb651876, hfr651908, he651906, he651907, hm651871, hor651875, (Nat.le_of_ble_eq_true rfl), (by omega), ⟨by omega, by omega⟩, bf651904, (by have qa0 : Int32.toInt 0 = 0 := (by decide); omega), (by have qa0 : Int32.toInt 0 = 0 := (by decide); omega), (by have qa0 : Int32.toInt 0 = 0 := (by decide); omega), (by have qa0 : Int32.toInt 0 = 0 := (by decide); omega), (by have qa0 : Int32.toInt 0 = 0 := (by decide); omega)⟩
abbrev ky_651837_StringBuilder_append : gKey := (cJ4_append_cf468, 2, "java/lang/StringBuilder", (some (FieldType.object "java/lang/StringBuilder")), [], "append", fun _ _ => True)
def pp_651837_StringBuilder_append (D : va_G) (I : FieldType → ClassId) (P651824 : List Nat) (F651825 : Nat → va_E) (q651826 : Nat) (q651827 : Nat) (p651828 : Int32) (p651829 : Int32) (p651830 : Int32) (f651831 : Nat → Int32) (n651832 : Nat) : Option Value → va_W → Nat → Nat → Prop := fun r w dc ds => ∃ (P651946 : List Nat) (F651947 : Nat → va_E) (o651942 : Int32) (q651943 : Nat) (n651944 : Nat) (f651945 : Nat → Int32), r = some (.ref q651826) ∧ w = va_pl P651946 F651947 ∧ rSub P651824 P651946 ∧ rFr [q651827, q651826] P651824 F651825 F651947 ∧ F651947 q651826 = .inr (1, [.ref q651943, .int 0, .int p651829, .int o651942]) ∧ F651947 q651943 = .inl (I .byte, n651944, .inl f651945) ∧ q651943 ∈ P651946 ∧ (q651943 = q651827 ∨ q651943 ∉ P651824) ∧ dc ≤ 1 ∧ ds ≤ 2 * (n651944 - n651832) ∧ gB o651942 1 16777216 ∧ gF f651945 (-128) 127 ∧ o651942.toInt = p651830.toInt + 1 ∧ o651942.toInt ≤ (n651944 : Int) ∧ (n651832 : Int) ≤ (n651944 : Int) ∧ (n651944 : Int) ≤ 2 * o651942.toInt + 16 ∧ (n651944 : Int) ≤ 2 * (n651832 : Int) + 2
set_option maxRecDepth 100000 in
set_option maxHeartbeats 4000000 in
theorem cp_651837_StringBuilder_append (l : Launch) (hl0 : l.stackTraces = false) (D : va_G) (I : FieldType → ClassId) (P651824 : List Nat) (F651825 : Nat → va_E) (q651826 : Nat) (q651827 : Nat) (p651828 : Int32) (p651829 : Int32) (p651830 : Int32) (f651831 : Nat → Int32) (n651832 : Nat) (hmq651826 : q651826 ∈ P651824) (hmq651827 : q651827 ∈ P651824) (heq651826 : F651825 q651826 = .inr (1, [.ref q651827, .int 0, .int p651829, .int p651830])) (heq651827 : F651825 q651827 = .inl (I .byte, n651832, .inl f651831)) (bp651828 : gB p651828 0 255) (bp651829 : gB p651829 0 1) (bp651830 : gB p651830 0 16777216) (bf651831 : gF f651831 (-128) 127) (x651833 : (n651832 : Int) ≤ 8388608 - 100000) (x651834 : p651830.toInt ≤ (n651832 : Int)) (x651835 : (n651832 : Int) ≤ 2 * p651830.toInt + 16) (x651836 : ((n651832 : Int) ≤ 16777216)) : CtA (gV D I) l yJ4_append_cf468 cJ4_append_cf468 2 (some (FieldType.object "java/lang/StringBuilder")) 5 105 1 (4 * n651832 + 8) [.ref q651826, .int p651828] (va_pl P651824 F651825) (pp_651837_StringBuilder_append D I P651824 F651825 q651826 q651827 p651828 p651829 p651830 f651831 n651832) gNA := by
  refine CtA_ofF hl0 (by decide +kernel) (Nat.le_of_ble_eq_true rfl) ?_
  refine G_aload_n 0 dr_cJ4_append_cf468_0 rfl ?_
  refine G_iload_n 1 dr_cJ4_append_cf468_1 rfl ?_
  refine Gw_callSU (As := [.int p651828]) (gV_ok D I) (cp_651851_AbstractStringBuilder_append l hl0 D I P651824 F651825 q651826 q651827 p651828 p651829 p651830 f651831 n651832 hmq651826 hmq651827 heq651826 heq651827 bp651828 bp651829 bp651830 bf651831 (by have qa0 : Int32.toInt 0 = 0 := (by decide); omega) (by have qa0 : Int32.toInt 0 = 0 := (by decide); omega) (by have qa0 : Int32.toInt 0 = 0 := (by decide); omega) (by have qa0 : Int32.toInt 0 = 0 := (by decide); omega)) dr_cJ4_append_cf468_2 ⟨wr_8_1, wr_1_19, wr_8_3, by decide, rfl, (Nat.le_of_ble_eq_true rfl), (Nat.le_of_ble_eq_true rfl)⟩ wr_8_2 wr_11_224 wr_7_73 wr_7_44 (by decide) hmq651826 heq651826 rfl (show 0 + 1 ≤ 1 by first | omega | decide) (show 0 + (4 * n651832 + 8) ≤ (4 * n651832 + 8) by first | omega | decide) (Nat.le_of_ble_eq_true rfl) (fun r651918 w651919 dc651915 ds651916 hp651917 => ?_)
  obtain ⟨P651929, F651930, o651920, q651921, n651922, f651923, rfl, rfl, hsb651931, hfr651932, he651933, he651934, hm651935, hq651936, hdc, hds, bo651920, bf651923, x651924, x651925, x651926, x651927, x651928⟩ := hp651917
  have hm651937 : q651826 ∈ P651929 := hsb651931 q651826 hmq651826
  have hm651938 : q651827 ∈ P651929 := hsb651931 q651827 hmq651827
  have hor651939 : q651921 = q651827 ∨ q651921 ∉ P651824 := hq651936.elim Or.inl (fun n => Or.inr (fun z => n ((rSub_rf (P := P651824)) _ z)))
  have hsb651940 : rSub P651824 P651929 := rSub_tr (rSub_rf (P := P651824)) hsb651931
  have hfr651941 : rFr [q651827, q651826] P651824 F651825 F651930 := rFr_call (rSub_rf (P := P651824)) (rFr_rf (W := []) (P := P651824) (F := F651825)) hfr651932 (fun b hb hn => ⟨nm_n, (nm_c (fun e => hn (e ▸ List.mem_cons_self)) (nm_c (fun e => hn (e ▸ (List.mem_cons_of_mem _ List.mem_cons_self))) nm_n))⟩)
  change G _ _ _ _ _ _ _ (.ref q651826 :: _) _ _ _
  refine G_widen (cs' := 1) (sl' := 2 * (n651922 - n651832)) (by omega) (by omega) ?_
  refine G_pop dr_cJ4_append_cf468_5 rfl ?_
  refine G_aload_n 0 dr_cJ4_append_cf468_6 rfl ?_
  exact G_aretA (FieldType.object "java/lang/StringBuilder") dr_cJ4_append_cf468_7 rfl (by first | exact Or.inl ⟨_, rfl⟩ | exact Or.inr ⟨_, rfl⟩) (Or.inr ⟨_, rfl⟩) (Nat.le_of_ble_eq_true rfl) (show 2 * (n651922 - n651832) ≤ (4 * n651832 + 8) by omega) ⟨P651929, F651930, o651920, q651921, n651922, f651923, rfl, rfl, hsb651940, hfr651941, he651933, he651934, hm651935, hor651939, (Nat.le_of_ble_eq_true rfl), (by omega), bo651920, bf651923, (by have qa0 : Int32.toInt 0 = 0 := (by decide); omega), (by have qa0 : Int32.toInt 0 = 0 := (by decide); omega), (by have qa0 : Int32.toInt 0 = 0 := (by decide); omega), (by have qa0 : Int32.toInt 0 = 0 := (by decide); omega), (by have qa0 : Int32.toInt 0 = 0 := (by decide); omega)⟩
abbrev ky_651183_Reader_word : gKey := (cX14_word, 4, "SpillForgeModel$Reader", none, [], "word", fun _ _ => True)
def pp_651183_Reader_word (D : va_G) (I : FieldType → ClassId) (P651160 : List Nat) (F651161 : Nat → va_E) (q651162 : Nat) (q651163 : Nat) (p651164 : Int32) (p651165 : Int32) (p651166 : Int32) (p651167 : Int32) (p651168 : Int32) (p651169 : Int32) (qo651170 : Nat) (p651171 : Int32) (p651172 : Int32) (p651173 : Int32) (qo651174 : Nat) (qo651175 : Nat) (p651176 : Int32) (f651177 : Nat → Int32) : Option Value → va_W → Nat → Nat → Prop := fun r w dc ds => ∃ (P653741 : List Nat) (F653742 : Nat → va_E) (o653737 : Int32) (o653738 : Int32) (o653739 : Int32) (q653740 : Nat), r = none ∧ w = va_pl P653741 F653742 ∧ rSub P651160 P653741 ∧ rFr [q651162] P651160 F651161 F653742 ∧ F653742 q651162 = .inr (19, [.ref q651163, .int p651164, .int o653737, .int o653738, .int p651167, .int o653739, .int p651169, .ref q653740, .int p651171, .int p651172, .int p651173, .ref qo651174, .ref qo651175, .int p651176]) ∧ F653742 q651163 = .inl (I .byte, 8192, .inl f651177) ∧ dc ≤ (16 * (o653737.toInt - p651165.toInt)).toNat ∧ ds ≤ (160 * (o653737.toInt - p651165.toInt)).toNat ∧ gB o653737 0 8192 ∧ gB o653738 1 6 ∧ p651165.toInt < o653737.toInt ∧ o653737.toInt ≤ p651164.toInt ∧ tP I P653741 F653742 o653738 q653740 qo651175 qo651174 ∧ vP o653738 o653739
set_option maxRecDepth 100000 in
set_option maxHeartbeats 4000000 in
theorem cp_651183_Reader_word (l : Launch) (hl0 : l.stackTraces = false) (D : va_G) (I : FieldType → ClassId) (P651160 : List Nat) (F651161 : Nat → va_E) (q651162 : Nat) (q651163 : Nat) (p651164 : Int32) (p651165 : Int32) (p651166 : Int32) (p651167 : Int32) (p651168 : Int32) (p651169 : Int32) (qo651170 : Nat) (p651171 : Int32) (p651172 : Int32) (p651173 : Int32) (qo651174 : Nat) (qo651175 : Nat) (p651176 : Int32) (f651177 : Nat → Int32) (hmq651162 : q651162 ∈ P651160) (hmq651163 : q651163 ∈ P651160) (heq651162 : F651161 q651162 = .inr (19, [.ref q651163, .int p651164, .int p651165, .int p651166, .int p651167, .int p651168, .int p651169, .ref qo651170, .int p651171, .int p651172, .int p651173, .ref qo651174, .ref qo651175, .int p651176])) (heq651163 : F651161 q651163 = .inl (I .byte, 8192, .inl f651177)) (bp651164 : gB p651164 0 8192) (bp651165 : gB p651165 0 8192) (bp651166 : gB p651166 0 6) (bp651167 : gB p651167 0 8192) (bp651169 : gB p651169 0 6) (bp651171 : gB p651171 (-1) 8192) (bp651172 : gB p651172 0 4) (bp651173 : gB p651173 0 1000000) (bp651176 : gB p651176 0 1000000) (bf651177 : gF f651177 (-128) 127) (x651178 : p651165.toInt ≤ p651164.toInt) (x651179 : p651165.toInt < p651164.toInt) (x651180 : cLt f651177 p651165) (x651181 : qo651175 ∈ P651160) (x651182 : qo651174 ∈ P651160) : CtA (gV D I) l yX14_word cX14_word 4 none 6 132 ((16 * (p651164.toInt - p651165.toInt)).toNat) ((160 * (p651164.toInt - p651165.toInt)).toNat) [.ref q651162] (va_pl P651160 F651161) (pp_651183_Reader_word D I P651160 F651161 q651162 q651163 p651164 p651165 p651166 p651167 p651168 p651169 qo651170 p651171 p651172 p651173 qo651174 qo651175 p651176 f651177) gNA := by
  refine CtA_of hl0 (by decide) (Nat.le_of_ble_eq_true rfl) ?_
  have bp651168 := gB_any p651168
  refine G_aload_n 0 dr_cX14_word_0 rfl ?_
  refine Gp_get 0 hmq651162 heq651162 dr_cX14_word_1 (gk_X14 D I) (Nat.le_of_ble_eq_true rfl) wr_9_36 rfl ?_
  refine G_aload_n 0 dr_cX14_word_4 rfl ?_
  refine Gp_get 2 hmq651162 heq651162 dr_cX14_word_5 (gk_X14 D I) (Nat.le_of_ble_eq_true rfl) wr_9_38 rfl ?_
  refine Gp_bald 1 hmq651163 heq651163 dr_cX14_word_8 rfl (gB_inr (by omega) (by omega)) (G_nam fun z651184 hz651184 => ?_)
  have bz651184 : gB z651184 (-128) 127 := by rw [hz651184]; exact bf651177 _
  refine G_istore_n (L' := [(1, .int z651184), (0, .ref q651162)]) dr_cX14_word_9 (Nat.le_of_ble_eq_true rfl) rfl ?_
  refine G_aload_n 1 dr_cX14_word_10 rfl ?_
  refine G_bipush 6 dr_cX14_word_11 (by decide +kernel) ?_
  refine Gp_put 3 hmq651162 heq651162 dr_cX14_word_13 (gk_X14 D I) (Nat.le_of_ble_eq_true rfl) wr_9_39 rfl rfl rfl (Nat.le_of_ble_eq_true rfl) (fun F651185 e651186 n651187 => ?_)
  have he651188 : F651185 q651163 = .inl (I .byte, 8192, .inl f651177) := (n651187 q651163 (rn_ao heq651163 heq651162)).trans heq651163
  have he651189 : F651185 q651162 = .inr (19, [.ref q651163, .int p651164, .int p651165, .int 6, .int p651167, .int p651168, .int p651169, .ref qo651170, .int p651171, .int p651172, .int p651173, .ref qo651174, .ref qo651175, .int p651176]) := e651186
  have hfr651190 : rFr [q651162] P651160 F651161 F651185 := rFr_put (rFr_rf (W := []) (P := P651160) (F := F651161)) n651187
  have jn651191 : G (gV D I) l (gRm 6 132 ((16 * (p651164.toInt - p651165.toInt)).toNat) ((160 * (p651164.toInt - p651165.toInt)).toNat)) (gMA (gV D I) (pp_651183_Reader_word D I P651160 F651161 q651162 q651163 p651164 p651165 p651166 p651167 p651168 p651169 qo651170 p651171 p651172 p651173 qo651174 qo651175 p651176 f651177) gNA ((16 * (p651164.toInt - p651165.toInt)).toNat) ((160 * (p651164.toInt - p651165.toInt)).toNat)) ky_651183_Reader_word 178 [(1, .int z651184), (0, .ref q651162)] [] (va_pl P651160 F651185) 0 0 := by
    refine G_new [.null, .int 0, .int 0, .int 0] dr_cX14_word_178 (gk_J4 D I) wr_7_235 wr_7_44 wr_1_20 (gfs_J4) (show 0 + 1 ≤ ((16 * (p651164.toInt - p651165.toInt)).toNat) by first | omega | decide) (show 0 + 4 ≤ ((160 * (p651164.toInt - p651165.toInt)).toNat) by first | omega | decide) (fun q651192 => Gp_in (fun P651193 F651194 hq651195 hP651196 e651197 n651198 => ?_))
    refine G_widen (cs' := 1) (sl' := 4) (by omega) (by omega) ?_
    have he651199 : F651194 q651162 = .inr (19, [.ref q651163, .int p651164, .int p651165, .int 6, .int p651167, .int p651168, .int p651169, .ref qo651170, .int p651171, .int p651172, .int p651173, .ref qo651174, .ref qo651175, .int p651176]) := (n651198 q651162 (fun h => hq651195 (h ▸ hmq651162))).trans he651189
    have he651200 : F651194 q651163 = .inl (I .byte, 8192, .inl f651177) := (n651198 q651163 (fun h => hq651195 (h ▸ hmq651163))).trans he651188
    have he651201 : F651194 q651192 = .inr (1, [.null, .int 0, .int 0, .int 0]) := e651197
    have hm651202 : q651162 ∈ P651193 := (hP651196 q651162).mpr (Or.inl hmq651162)
    have hm651203 : q651163 ∈ P651193 := (hP651196 q651163).mpr (Or.inl hmq651163)
    have hm651204 : q651192 ∈ P651193 := (hP651196 q651192).mpr (Or.inr rfl)
    have hq651205 : q651192 ∉ P651160 := fun z => hq651195 ((rSub_rf (P := P651160)) q651192 z)
    have hfr651206 : rFr [q651162] P651160 F651161 F651194 := rFr_new (rSub_rf (P := P651160)) hq651195 hfr651190 n651198
    have hsb651207 : rSub P651160 P651193 := rSub_new (rSub_rf (P := P651160)) hP651196
    refine G_dup dr_cX14_word_181 rfl ?_
    refine Gw_callI (As := []) (gV_ok D I) (cp_640525_StringBuilder_init l hl0 D I P651193 F651194 q651192 0 0 hm651204 he651201 (gB_w (gBl (show Int32.toInt 0 = 0 by decide)) (by decide) (by decide)) (gB_w (gBl (show Int32.toInt 0 = 0 by decide)) (by decide) (by decide))) dr_cX14_word_182 ⟨wr_7_236, wr_1_20, wr_7_47, by decide, rfl, (Nat.le_of_ble_eq_true rfl), (Nat.le_of_ble_eq_true rfl)⟩ wr_7_46 rfl (show 1 + 1 ≤ ((16 * (p651164.toInt - p651165.toInt)).toNat) by first | omega | decide) (show 4 + 16 ≤ ((160 * (p651164.toInt - p651165.toInt)).toNat) by first | omega | decide) (Nat.le_of_ble_eq_true rfl) (fun r651211 w651212 dc651208 ds651209 hp651210 => ?_)
    obtain ⟨P651214, F651215, q651213, rfl, rfl, hsb651216, hfr651217, he651218, he651219, hm651220, hq651221, hdc, hds⟩ := hp651210
    have hm651222 : q651162 ∈ P651214 := hsb651216 q651162 hm651202
    have hm651223 : q651163 ∈ P651214 := hsb651216 q651163 hm651203
    have hm651224 : q651192 ∈ P651214 := hsb651216 q651192 hm651204
    have hq651225 : q651213 ∉ P651160 := fun z => hq651221 (hsb651207 q651213 z)
    have hsb651226 : rSub P651160 P651214 := rSub_tr hsb651207 hsb651216
    have he651227 : F651215 q651162 = .inr (19, [.ref q651163, .int p651164, .int p651165, .int 6, .int p651167, .int p651168, .int p651169, .ref qo651170, .int p651171, .int p651172, .int p651173, .ref qo651174, .ref qo651175, .int p651176]) := (hfr651217 q651162 hm651202 (nm_c (fun h => hq651205 (h ▸ hmq651162)) nm_n)).trans he651199
    have he651228 : F651215 q651163 = .inl (I .byte, 8192, .inl f651177) := (hfr651217 q651163 hm651203 (nm_c (fun h => hq651205 (h ▸ hmq651163)) nm_n)).trans he651200
    have hfr651229 : rFr [q651162] P651160 F651161 F651215 := rFr_call hsb651207 hfr651206 hfr651217 (fun b hb hn => ⟨(nm_c (fun e => hn (e ▸ List.mem_cons_self)) nm_n), (nm_c (fun e => hq651205 (e ▸ hb)) nm_n)⟩)
    change G _ _ _ _ _ _ _ _ _ _ _
    refine G_widen (cs' := 2) (sl' := 20) (by omega) (by omega) ?_
    refine G_astore_n (L' := [(2, .ref q651192), (1, .int z651184), (0, .ref q651162)]) dr_cX14_word_185 (Nat.le_of_ble_eq_true rfl) rfl ?_
    refine G_widen (cs' := 2 + (0 : Int).toNat) (sl' := 4 + 2 * 16) (by omega) (by omega) ?_
    have hlp186_652650 : ∀ (n186_652650 : Nat) (P652640 : List Nat) (F652634 : Nat → va_E) (g652628 : Int32) (g652629 : Int32) (q652630 : Nat) (n652631 : Nat) (f652632 : Nat → Int32), gB g652628 0 8192 → gB g652629 0 16777216 → gF f652632 (-128) 127 → rSub P651160 P652640 → rFr [q651162] P651160 F651161 F652634 → q651162 ∈ P652640 → F652634 q651162 = .inr (19, [.ref q651163, .int p651164, .int g652628, .int 6, .int p651167, .int p651168, .int p651169, .ref qo651170, .int p651171, .int p651172, .int p651173, .ref qo651174, .ref qo651175, .int p651176]) → q651163 ∈ P652640 → F652634 q651163 = .inl (I .byte, 8192, .inl f651177) → q651192 ∈ P652640 → F652634 q651192 = .inr (1, [.ref q652630, .int 0, .int 0, .int g652629]) → q652630 ∈ P652640 → F652634 q652630 = .inl (I .byte, n652631, .inl f652632) → q652630 ∉ P651160 → p651165.toInt ≤ g652628.toInt → g652628.toInt ≤ p651164.toInt → g652629.toInt = g652628.toInt - p651165.toInt → g652629.toInt ≤ (n652631 : Int) → (n652631 : Int) ≤ 2 * g652629.toInt + 16 → ((8193 : Int) - g652628.toInt).toNat < n186_652650 → G (gV D I) l (gRm 6 132 ((16 * (p651164.toInt - p651165.toInt)).toNat) ((160 * (p651164.toInt - p651165.toInt)).toNat)) (gMA (gV D I) (pp_651183_Reader_word D I P651160 F651161 q651162 q651163 p651164 p651165 p651166 p651167 p651168 p651169 qo651170 p651171 p651172 p651173 qo651174 qo651175 p651176 f651177) gNA ((16 * (p651164.toInt - p651165.toInt)).toNat) ((160 * (p651164.toInt - p651165.toInt)).toNat)) ky_651183_Reader_word 186 [(2, .ref q651192), (1, .int z651184), (0, .ref q651162)] [] (va_pl P652640 F652634) (2 + (g652629.toInt : Int).toNat) (4 + 2 * n652631) := by
      intro n186_652650
      induction n186_652650 with
      | zero => intro P652640 F652634 g652628 g652629 q652630 n652631 f652632 bg652628 bg652629 bf652632 hsb652645 hfr652639 hm652641 he652635 hm652642 he652636 hm652643 he652637 hm652644 he652638 hq652633 x652646 x652647 x652648 x652649 x652650 hm186_652650; exact absurd hm186_652650 (Nat.not_lt_zero _)
      | succ n186_652650 ih186_652650 =>
        intro P652640 F652634 g652628 g652629 q652630 n652631 f652632 bg652628 bg652629 bf652632 hsb652645 hfr652639 hm652641 he652635 hm652642 he652636 hm652643 he652637 hm652644 he652638 hq652633 x652646 x652647 x652648 x652649 x652650 hm186_652650
        refine G_aload_n 2 dr_cX14_word_186 rfl ?_
        refine Gp_get 2 hm652641 he652635 dr_cX14_word_187 (gk_X14 D I) (Nat.le_of_ble_eq_true rfl) wr_9_38 rfl ?_
        refine G_aload_n 2 dr_cX14_word_190 rfl ?_
        refine Gp_get 1 hm652641 he652635 dr_cX14_word_191 (gk_X14 D I) (Nat.le_of_ble_eq_true rfl) wr_9_37 rfl ?_
        refine G_icmp_ge 240 dr_cX14_word_194 (by decide +kernel) (fun hc652651 => ?_) (fun hc652651 => ?_)
        · have r652652 : p651164.toInt ≤ g652628.toInt := gC_le hc652651
          have x652653 : p651165.toInt < g652628.toInt := by first | omega | exact cLt_lt x651180 (by assumption) (isP_0 (by assumption) (by omega)) (by omega)
          refine G_aload_n 2 dr_cX14_word_240 rfl ?_
          refine G_aload_n 0 dr_cX14_word_241 rfl ?_
          refine Gw_callV (As := []) (gV_ok D I) (cp_641282_StringBuilder_toString l hl0 D I P652640 F652634 q651192 q652630 0 g652629 f652632 n652631 hm652643 hm652644 he652637 he652638 (gB_w (gBl (show Int32.toInt 0 = 0 by decide)) (by decide) (by decide)) bg652629 bf652632 (by have qa0 : Int32.toInt 0 = 0 := (by decide); have qa1 : Int32.toInt 6 = 6 := (by decide); omega) (by have qa0 : Int32.toInt 0 = 0 := (by decide); have qa1 : Int32.toInt 6 = 6 := (by decide); omega)) dr_cX14_word_242 ⟨wr_8_66, wr_1_20, wr_8_69, by decide, rfl, (Nat.le_of_ble_eq_true rfl), (Nat.le_of_ble_eq_true rfl)⟩ wr_8_67 wr_8_68 hm652643 he652637 rfl (show 2 + (g652629.toInt : Int).toNat + 2 ≤ ((16 * (p651164.toInt - p651165.toInt)).toNat) by first | omega | decide) (show 4 + 2 * n652631 + (g652629.toInt.toNat + 4) ≤ ((160 * (p651164.toInt - p651165.toInt)).toNat) by first | omega | decide) (Nat.le_of_ble_eq_true rfl) (fun r652657 w652658 dc652654 ds652655 hp652656 => ?_) (fun _ _ _ _ _ z => z.elim)
          obtain ⟨P652665, F652666, q652659, q652660, n652661, f652662, rfl, rfl, hsb652667, hfr652668, he652669, he652670, he652671, he652672, hm652673, hq652674, hm652675, hq652676, hdc, hds, bf652662, x652663, x652664⟩ := hp652656
          have hm652677 : q651162 ∈ P652665 := hsb652667 q651162 hm652641
          have hm652678 : q651163 ∈ P652665 := hsb652667 q651163 hm652642
          have hm652679 : q651192 ∈ P652665 := hsb652667 q651192 hm652643
          have hm652680 : q652630 ∈ P652665 := hsb652667 q652630 hm652644
          have hq652681 : q652659 ∉ P651160 := fun z => hq652674 (hsb652645 q652659 z)
          have hq652682 : q652660 ∉ P651160 := fun z => hq652676 (hsb652645 q652660 z)
          have hsb652683 : rSub P651160 P652665 := rSub_tr hsb652645 hsb652667
          have he652684 : F652666 q651162 = .inr (19, [.ref q651163, .int p651164, .int g652628, .int 6, .int p651167, .int p651168, .int p651169, .ref qo651170, .int p651171, .int p651172, .int p651173, .ref qo651174, .ref qo651175, .int p651176]) := (hfr652668 q651162 hm652641 nm_n).trans he652635
          have he652685 : F652666 q651163 = .inl (I .byte, 8192, .inl f651177) := (hfr652668 q651163 hm652642 nm_n).trans he652636
          have hfr652686 : rFr [q651162] P651160 F651161 F652666 := rFr_call hsb652645 hfr652639 hfr652668 (fun b hb hn => ⟨(nm_c (fun e => hn (e ▸ List.mem_cons_self)) nm_n), nm_n⟩)
          have hne652687 : q652630 ≠ q652660 := fun h => hq652676 (h ▸ hm652644)
          change G _ _ _ _ _ _ _ (.ref q652659 :: _) _ _ _
          refine G_widen (cs' := 2 + (g652629.toInt : Int).toNat + 2) (sl' := 4 + 2 * n652631 + (g652629.toInt.toNat + 4)) (by omega) (by omega) ?_
          have x652688 : (n652661 : Int) = g652628.toInt - p651165.toInt := by omega
          clear he651188 he651189 hfr651190 he651199 he651200 he651201 hm651202 hm651203 hm651204 hfr651206 hsb651207 hsb651216 hfr651217 he651218 he651219 hm651220 hq651221 hm651222 hm651223 hm651224 hq651225 hsb651226 he651227 he651228 hfr651229 hsb652667 hfr652668 hq652674 hq652676; try clear r651211; try clear w651212; try clear dc651208; try clear ds651209; try clear hp651210; try clear r652657; try clear w652658; try clear dc652654; try clear ds652655; try clear hp652656
          refine Gp_put 7 hm652677 he652684 dr_cX14_word_245 (gk_X14 D I) (Nat.le_of_ble_eq_true rfl) wr_9_43 rfl rfl rfl (Nat.le_of_ble_eq_true rfl) (fun F652689 e652690 n652691 => ?_)
          have he652692 : F652689 q651163 = .inl (I .byte, 8192, .inl f651177) := (n652691 q651163 (rn_ao he652685 he652684)).trans he652685
          have he652693 : F652689 q652659 = .inr (0, [.ref q652660, .int 0, .int 0, .int 0]) := (n652691 q652659 (fun h => hq652681 (h ▸ hmq651162))).trans he652669
          have he652694 : F652689 q651192 = .inr (1, [.ref q652630, .int 0, .int 0, .int g652629]) := (n652691 q651192 (fun h => hq651205 (h ▸ hmq651162))).trans he652670
          have he652695 : F652689 q652630 = .inl (I .byte, n652631, .inl f652632) := (n652691 q652630 (fun h => hq652633 (h ▸ hmq651162))).trans he652671
          have he652696 : F652689 q652660 = .inl (I .byte, n652661, .inl f652662) := (n652691 q652660 (fun h => hq652682 (h ▸ hmq651162))).trans he652672
          have he652697 : F652689 q651162 = .inr (19, [.ref q651163, .int p651164, .int g652628, .int 6, .int p651167, .int p651168, .int p651169, .ref q652659, .int p651171, .int p651172, .int p651173, .ref qo651174, .ref qo651175, .int p651176]) := e652690
          have hfr652698 : rFr [q651162] P651160 F651161 F652689 := rFr_put' List.mem_cons_self hfr652686 n652691
          refine G_widen (cs' := (4 + (g652628.toInt - p651165.toInt) : Int).toNat) (sl' := (40 + 5 * (g652628.toInt - p651165.toInt) : Int).toNat) (by omega) (by omega) ?_
          clear he652669 he652670 he652671 he652672 he652684 he652685 hfr652686
          refine G_ldcK (a := D.2 1000 34) dr_cX14_word_248 (fun _ _ _ h => gx_vk 34 rfl rfl h) ?_
          have hl34_652698 : (sb_34.length : Int) = 25 := rfl
          refine G_new [.null, .int 0, .int 0, .int 0] dr_cX14_word_250 (gk_J4 D I) wr_7_235 wr_7_44 wr_1_20 (gfs_J4) (show (4 + (g652628.toInt - p651165.toInt) : Int).toNat + 1 ≤ ((16 * (p651164.toInt - p651165.toInt)).toNat) by first | omega | decide) (show (40 + 5 * (g652628.toInt - p651165.toInt) : Int).toNat + 4 ≤ ((160 * (p651164.toInt - p651165.toInt)).toNat) by first | omega | decide) (fun q652700 => Gp_in (fun P652701 F652702 hq652703 hP652704 e652705 n652706 => ?_))
          refine G_widen (cs' := (4 + (g652628.toInt - p651165.toInt) : Int).toNat + 1) (sl' := (40 + 5 * (g652628.toInt - p651165.toInt) : Int).toNat + 4) (by omega) (by omega) ?_
          have he652707 : F652702 q651162 = .inr (19, [.ref q651163, .int p651164, .int g652628, .int 6, .int p651167, .int p651168, .int p651169, .ref q652659, .int p651171, .int p651172, .int p651173, .ref qo651174, .ref qo651175, .int p651176]) := (n652706 q651162 (fun h => hq652703 (h ▸ hm652677))).trans he652697
          have he652708 : F652702 q651163 = .inl (I .byte, 8192, .inl f651177) := (n652706 q651163 (fun h => hq652703 (h ▸ hm652678))).trans he652692
          have he652709 : F652702 q652659 = .inr (0, [.ref q652660, .int 0, .int 0, .int 0]) := (n652706 q652659 (fun h => hq652703 (h ▸ hm652673))).trans he652693
          have he652710 : F652702 q651192 = .inr (1, [.ref q652630, .int 0, .int 0, .int g652629]) := (n652706 q651192 (fun h => hq652703 (h ▸ hm652679))).trans he652694
          have he652711 : F652702 q652630 = .inl (I .byte, n652631, .inl f652632) := (n652706 q652630 (fun h => hq652703 (h ▸ hm652680))).trans he652695
          have he652712 : F652702 q652660 = .inl (I .byte, n652661, .inl f652662) := (n652706 q652660 (fun h => hq652703 (h ▸ hm652675))).trans he652696
          have he652713 : F652702 q652700 = .inr (1, [.null, .int 0, .int 0, .int 0]) := e652705
          have hm652714 : q651162 ∈ P652701 := (hP652704 q651162).mpr (Or.inl hm652677)
          have hm652715 : q651163 ∈ P652701 := (hP652704 q651163).mpr (Or.inl hm652678)
          have hm652716 : q651192 ∈ P652701 := (hP652704 q651192).mpr (Or.inl hm652679)
          have hm652717 : q652630 ∈ P652701 := (hP652704 q652630).mpr (Or.inl hm652680)
          have hm652718 : q652659 ∈ P652701 := (hP652704 q652659).mpr (Or.inl hm652673)
          have hm652719 : q652660 ∈ P652701 := (hP652704 q652660).mpr (Or.inl hm652675)
          have hm652720 : q652700 ∈ P652701 := (hP652704 q652700).mpr (Or.inr rfl)
          have hq652721 : q652700 ∉ P651160 := fun z => hq652703 (hsb652683 q652700 z)
          have hfr652722 : rFr [q651162] P651160 F651161 F652702 := rFr_new hsb652683 hq652703 hfr652698 n652706
          have hsb652723 : rSub P651160 P652701 := rSub_new hsb652683 hP652704
          have hne652724 : q651192 ≠ q652700 := fun h => hq652703 (h ▸ hm652679)
          refine G_dup dr_cX14_word_253 rfl ?_
          refine Gw_callI (As := []) (gV_ok D I) (cp_640525_StringBuilder_init l hl0 D I P652701 F652702 q652700 0 0 hm652720 he652713 (gB_w (gBl (show Int32.toInt 0 = 0 by decide)) (by decide) (by decide)) (gB_w (gBl (show Int32.toInt 0 = 0 by decide)) (by decide) (by decide))) dr_cX14_word_254 ⟨wr_7_236, wr_1_20, wr_7_47, by decide, rfl, (Nat.le_of_ble_eq_true rfl), (Nat.le_of_ble_eq_true rfl)⟩ wr_7_46 rfl (show (4 + (g652628.toInt - p651165.toInt) : Int).toNat + 1 + 1 ≤ ((16 * (p651164.toInt - p651165.toInt)).toNat) by first | omega | decide) (show (40 + 5 * (g652628.toInt - p651165.toInt) : Int).toNat + 4 + 16 ≤ ((160 * (p651164.toInt - p651165.toInt)).toNat) by first | omega | decide) (Nat.le_of_ble_eq_true rfl) (fun r652728 w652729 dc652725 ds652726 hp652727 => ?_)
          obtain ⟨P652731, F652732, q652730, rfl, rfl, hsb652733, hfr652734, he652735, he652736, hm652737, hq652738, hdc, hds⟩ := hp652727
          have hm652739 : q651162 ∈ P652731 := hsb652733 q651162 hm652714
          have hm652740 : q651163 ∈ P652731 := hsb652733 q651163 hm652715
          have hm652741 : q651192 ∈ P652731 := hsb652733 q651192 hm652716
          have hm652742 : q652630 ∈ P652731 := hsb652733 q652630 hm652717
          have hm652743 : q652659 ∈ P652731 := hsb652733 q652659 hm652718
          have hm652744 : q652660 ∈ P652731 := hsb652733 q652660 hm652719
          have hm652745 : q652700 ∈ P652731 := hsb652733 q652700 hm652720
          have hq652746 : q652730 ∉ P651160 := fun z => hq652738 (hsb652723 q652730 z)
          have hsb652747 : rSub P651160 P652731 := rSub_tr hsb652723 hsb652733
          have he652748 : F652732 q651162 = .inr (19, [.ref q651163, .int p651164, .int g652628, .int 6, .int p651167, .int p651168, .int p651169, .ref q652659, .int p651171, .int p651172, .int p651173, .ref qo651174, .ref qo651175, .int p651176]) := (hfr652734 q651162 hm652714 (nm_c (fun h => hq652721 (h ▸ hmq651162)) nm_n)).trans he652707
          have he652749 : F652732 q651163 = .inl (I .byte, 8192, .inl f651177) := (hfr652734 q651163 hm652715 (nm_c (fun h => hq652721 (h ▸ hmq651163)) nm_n)).trans he652708
          have he652750 : F652732 q652659 = .inr (0, [.ref q652660, .int 0, .int 0, .int 0]) := (hfr652734 q652659 hm652718 (nm_c (rn_oo he652709 he652713 (by decide)) nm_n)).trans he652709
          have he652751 : F652732 q651192 = .inr (1, [.ref q652630, .int 0, .int 0, .int g652629]) := (hfr652734 q651192 hm652716 (nm_c hne652724 nm_n)).trans he652710
          have he652752 : F652732 q652630 = .inl (I .byte, n652631, .inl f652632) := (hfr652734 q652630 hm652717 (nm_c (rn_ao he652711 he652713) nm_n)).trans he652711
          have he652753 : F652732 q652660 = .inl (I .byte, n652661, .inl f652662) := (hfr652734 q652660 hm652719 (nm_c (rn_ao he652712 he652713) nm_n)).trans he652712
          have hfr652754 : rFr [q651162] P651160 F651161 F652732 := rFr_call hsb652723 hfr652722 hfr652734 (fun b hb hn => ⟨(nm_c (fun e => hn (e ▸ List.mem_cons_self)) nm_n), (nm_c (fun e => hq652721 (e ▸ hb)) nm_n)⟩)
          have hne652755 : q652630 ≠ q652730 := fun h => hq652738 (h ▸ hm652717)
          have hne652756 : q652660 ≠ q652730 := fun h => hq652738 (h ▸ hm652719)
          change G _ _ _ _ _ _ _ _ _ _ _
          refine G_widen (cs' := (4 + (g652628.toInt - p651165.toInt) : Int).toNat + 1 + 1) (sl' := (40 + 5 * (g652628.toInt - p651165.toInt) : Int).toNat + 4 + 16) (by omega) (by omega) ?_
          refine G_ldcK (a := D.2 1000 35) dr_cX14_word_257 (fun _ _ _ h => gx_vk 35 rfl rfl h) ?_
          have hl35_652756 : (sb_35.length : Int) = 1 := rfl
          refine Gw_callV (As := [.ref (D.2 1000 35)]) (gV_ok D I) (cp_640822_StringBuilder_append l hl0 D I P652731 F652732 q652700 q652730 (D.2 1000 35) (D.2 1001 35) sb_35 0 0 (fun _ => 0) 16 hm652745 hm652737 he652735 he652736 (gx_sc 35 rfl rfl) (by omega) (by decide +kernel) (gB_w (gBl (show Int32.toInt 0 = 0 by decide)) (by decide) (by decide)) (gB_w (gBl (show Int32.toInt 0 = 0 by decide)) (by decide) (by decide)) (gF_w gF_0 (by decide) (by decide)) (by have qa0 : Int32.toInt 0 = 0 := (by decide); have qa1 : Int32.toInt 6 = 6 := (by decide); omega) (by have qa0 : Int32.toInt 0 = 0 := (by decide); have qa1 : Int32.toInt 6 = 6 := (by decide); omega)) dr_cX14_word_259 ⟨wr_8_195, wr_1_20, wr_8_143, by decide, rfl, (Nat.le_of_ble_eq_true rfl), (Nat.le_of_ble_eq_true rfl)⟩ wr_8_141 wr_8_142 hm652745 he652735 rfl (show (4 + (g652628.toInt - p651165.toInt) : Int).toNat + 1 + 1 + 0 ≤ ((16 * (p651164.toInt - p651165.toInt)).toNat) by first | omega | decide) (show (40 + 5 * (g652628.toInt - p651165.toInt) : Int).toNat + 4 + 16 + 0 ≤ ((160 * (p651164.toInt - p651165.toInt)).toNat) by first | omega | decide) (Nat.le_of_ble_eq_true rfl) (fun r652761 w652762 dc652758 ds652759 hp652760 => ?_) (fun _ _ _ _ _ z => z.elim)
          obtain ⟨F652768, o652763, f652764, rfl, rfl, hfr652770, he652771, he652772, hdc, hds, bo652763, bf652764, x652765, x652766, x652767⟩ := hp652760
          have he652773 : F652768 q651162 = .inr (19, [.ref q651163, .int p651164, .int g652628, .int 6, .int p651167, .int p651168, .int p651169, .ref q652659, .int p651171, .int p651172, .int p651173, .ref qo651174, .ref qo651175, .int p651176]) := (hfr652770 q651162 hm652739 (nm_c (fun h => hq652721 (h ▸ hmq651162)) (nm_c (fun h => hq652746 (h ▸ hmq651162)) nm_n))).trans he652748
          have he652774 : F652768 q651163 = .inl (I .byte, 8192, .inl f651177) := (hfr652770 q651163 hm652740 (nm_c (fun h => hq652721 (h ▸ hmq651163)) (nm_c (fun h => hq652746 (h ▸ hmq651163)) nm_n))).trans he652749
          have he652775 : F652768 q652659 = .inr (0, [.ref q652660, .int 0, .int 0, .int 0]) := (hfr652770 q652659 hm652743 (nm_c (rn_oo he652750 he652735 (by decide)) (nm_c (rn_oa he652750 he652736) nm_n))).trans he652750
          have he652776 : F652768 q651192 = .inr (1, [.ref q652630, .int 0, .int 0, .int g652629]) := (hfr652770 q651192 hm652741 (nm_c hne652724 (nm_c (rn_oa he652751 he652736) nm_n))).trans he652751
          have he652777 : F652768 q652630 = .inl (I .byte, n652631, .inl f652632) := (hfr652770 q652630 hm652742 (nm_c (rn_ao he652752 he652735) (nm_c hne652755 nm_n))).trans he652752
          have he652778 : F652768 q652660 = .inl (I .byte, n652661, .inl f652662) := (hfr652770 q652660 hm652744 (nm_c (rn_ao he652753 he652735) (nm_c hne652756 nm_n))).trans he652753
          have hfr652779 : rFr [q651162] P651160 F651161 F652768 := rFr_call hsb652747 hfr652754 hfr652770 (fun b hb hn => ⟨(nm_c (fun e => hn (e ▸ List.mem_cons_self)) nm_n), (nm_c (fun e => hq652721 (e ▸ hb)) (nm_c (fun e => hq652746 (e ▸ hb)) nm_n))⟩)
          rw [show Int32.toInt 0 = 0 from by decide] at x652765
          have bo652763' : gB o652763 1 1 := ⟨by omega, by omega⟩
          rw [show Int32.toInt 0 = 0 from by decide] at x652766
          rw [show Int32.toInt 0 = 0 from by decide] at x652767
          change G _ _ _ _ _ _ _ (.ref q652700 :: _) _ _ _
          refine G_widen (cs' := (4 + (g652628.toInt - p651165.toInt) : Int).toNat + 1 + 1 + 0) (sl' := (40 + 5 * (g652628.toInt - p651165.toInt) : Int).toNat + 4 + 16 + 0) (by omega) (by omega) ?_
          refine G_aload_n 2 dr_cX14_word_262 rfl ?_
          clear hm652673 hm652675 hm652677 hm652678 hm652679 hm652680 hsb652683 he652692 he652693 he652694 he652695 he652696 he652697 hfr652698 he652707 he652708 he652709 he652710 he652711 he652712 he652713 hm652714 hm652715 hm652716 hm652717 hm652718 hm652719 hm652720 hfr652722 hsb652723 hsb652733 hfr652734 he652735 he652736 hq652738 he652748 he652749 he652750 he652751 he652752 he652753 hfr652754 hfr652770 bo652763; try clear r652728; try clear w652729; try clear dc652725; try clear ds652726; try clear hp652727; try clear r652761; try clear w652762; try clear dc652758; try clear ds652759; try clear hp652760
          refine Gp_get 7 hm652739 he652773 dr_cX14_word_263 (gk_X14 D I) (Nat.le_of_ble_eq_true rfl) wr_9_43 rfl ?_
          refine Gw_callV (As := [.ref q652659]) (gV_ok D I) (cp_641017_StringBuilder_append l hl0 D I P652731 F652768 q652700 q652659 q652730 q652660 0 o652763 0 0 f652764 16 f652662 n652661 hm652745 hm652743 hm652737 hm652744 he652771 he652775 he652772 he652778 (Ne.symm hne652756) (gB_w (gBl (show Int32.toInt 0 = 0 by decide)) (by decide) (by decide)) (gB_w bo652763' (by decide) (by decide)) (gB_w (gBl (show Int32.toInt 0 = 0 by decide)) (by decide) (by decide)) bf652764 bf652662 (by have qa0 : Int32.toInt 0 = 0 := (by decide); have qa1 : Int32.toInt 6 = 6 := (by decide); omega) (by have qa0 : Int32.toInt 0 = 0 := (by decide); have qa1 : Int32.toInt 6 = 6 := (by decide); omega) (by have qa0 : Int32.toInt 0 = 0 := (by decide); have qa1 : Int32.toInt 6 = 6 := (by decide); omega) (by have qa0 : Int32.toInt 0 = 0 := (by decide); have qa1 : Int32.toInt 6 = 6 := (by decide); omega) (by have qa0 : Int32.toInt 0 = 0 := (by decide); have qa1 : Int32.toInt 6 = 6 := (by decide); omega)) dr_cX14_word_266 ⟨wr_8_195, wr_1_20, wr_8_143, by decide, rfl, (Nat.le_of_ble_eq_true rfl), (Nat.le_of_ble_eq_true rfl)⟩ wr_8_141 wr_8_142 hm652745 he652771 rfl (show (4 + (g652628.toInt - p651165.toInt) : Int).toNat + 1 + 1 + 0 + 1 ≤ ((16 * (p651164.toInt - p651165.toInt)).toNat) by first | omega | decide) (show (40 + 5 * (g652628.toInt - p651165.toInt) : Int).toNat + 4 + 16 + 0 + (4 * 16 + 4 + 2 * n652661) ≤ ((160 * (p651164.toInt - p651165.toInt)).toNat) by first | omega | decide) (Nat.le_of_ble_eq_true rfl) (fun r652783 w652784 dc652780 ds652781 hp652782 => ?_) (fun _ _ _ _ _ z => z.elim)
          obtain ⟨P652794, F652795, o652785, q652786, n652787, f652788, rfl, rfl, hsb652796, hfr652797, he652798, he652799, he652800, he652801, hm652802, hq652803, hdc, hds, bo652785, bf652788, x652789, x652790, x652791, x652792, x652793⟩ := hp652782
          have hm652804 : q651162 ∈ P652794 := hsb652796 q651162 hm652739
          have hm652805 : q651163 ∈ P652794 := hsb652796 q651163 hm652740
          have hm652806 : q651192 ∈ P652794 := hsb652796 q651192 hm652741
          have hm652807 : q652630 ∈ P652794 := hsb652796 q652630 hm652742
          have hm652808 : q652659 ∈ P652794 := hsb652796 q652659 hm652743
          have hm652809 : q652660 ∈ P652794 := hsb652796 q652660 hm652744
          have hm652810 : q652700 ∈ P652794 := hsb652796 q652700 hm652745
          have hm652811 : q652730 ∈ P652794 := hsb652796 q652730 hm652737
          have hq652812 : q652786 ∉ P651160 := fun z => hq652803.elim (fun e => hq652746 (e ▸ z)) (fun n => n (hsb652747 _ z))
          have hsb652813 : rSub P651160 P652794 := rSub_tr hsb652747 hsb652796
          have he652814 : F652795 q651162 = .inr (19, [.ref q651163, .int p651164, .int g652628, .int 6, .int p651167, .int p651168, .int p651169, .ref q652659, .int p651171, .int p651172, .int p651173, .ref qo651174, .ref qo651175, .int p651176]) := (hfr652797 q651162 hm652739 (nm_c (fun h => hq652721 (h ▸ hmq651162)) (nm_c (fun h => hq652746 (h ▸ hmq651162)) nm_n))).trans he652773
          have he652815 : F652795 q651163 = .inl (I .byte, 8192, .inl f651177) := (hfr652797 q651163 hm652740 (nm_c (fun h => hq652721 (h ▸ hmq651163)) (nm_c (fun h => hq652746 (h ▸ hmq651163)) nm_n))).trans he652774
          have he652816 : F652795 q651192 = .inr (1, [.ref q652630, .int 0, .int 0, .int g652629]) := (hfr652797 q651192 hm652741 (nm_c hne652724 (nm_c (rn_oa he652776 he652772) nm_n))).trans he652776
          have he652817 : F652795 q652630 = .inl (I .byte, n652631, .inl f652632) := (hfr652797 q652630 hm652742 (nm_c (rn_ao he652777 he652771) (nm_c hne652755 nm_n))).trans he652777
          have hfr652818 : rFr [q651162] P651160 F651161 F652795 := rFr_call hsb652747 hfr652779 hfr652797 (fun b hb hn => ⟨(nm_c (fun e => hn (e ▸ List.mem_cons_self)) nm_n), (nm_c (fun e => hq652721 (e ▸ hb)) (nm_c (fun e => hq652746 (e ▸ hb)) nm_n))⟩)
          have hne652819 : q652630 ≠ q652786 := fun e => hq652803.elim (fun e2 => hne652755 (e.trans e2)) (fun n => n (e ▸ hm652742))
          have hne652820 : q652660 ≠ q652786 := fun e => hq652803.elim (fun e2 => hne652756 (e.trans e2)) (fun n => n (e ▸ hm652744))
          have bo652785' : gB o652785 1 16777216 := ⟨by omega, by omega⟩
          change G _ _ _ _ _ _ _ (.ref q652700 :: _) _ _ _
          refine G_widen (cs' := (4 + (g652628.toInt - p651165.toInt) : Int).toNat + 1 + 1 + 0 + 1) (sl' := (40 + 5 * (g652628.toInt - p651165.toInt) : Int).toNat + 4 + 16 + 0 + (2 * (n652787 - 16))) (by omega) (by omega) ?_
          refine G_widen (cs' := (7 + (g652628.toInt - p651165.toInt) : Int).toNat) (sl' := (60 + 10 * (g652628.toInt - p651165.toInt) : Int).toNat) (by omega) (by omega) ?_
          clear hm652737 hm652739 hm652740 hm652741 hm652742 hm652743 hm652744 hm652745 hq652746 hsb652747 hne652755 hne652756 he652771 he652772 bf652764 he652773 he652774 he652775 he652776 he652777 he652778 hfr652779 hsb652796 hfr652797 hq652803 bo652785 hm652811; try clear x652766; try clear x652767; try clear r652783; try clear w652784; try clear dc652780; try clear ds652781; try clear hp652782
          refine G_ldcK (a := D.2 1000 35) dr_cX14_word_269 (fun _ _ _ h => gx_vk 35 rfl rfl h) ?_
          have hl35_652820 : (sb_35.length : Int) = 1 := rfl
          refine Gw_callV (As := [.ref (D.2 1000 35)]) (gV_ok D I) (cp_641161_StringBuilder_append l hl0 D I P652794 F652795 q652700 q652786 (D.2 1000 35) (D.2 1001 35) sb_35 0 o652785 f652788 n652787 hm652810 hm652802 he652798 he652800 (gx_sc 35 rfl rfl) (by omega) (by decide +kernel) (gB_w (gBl (show Int32.toInt 0 = 0 by decide)) (by decide) (by decide)) (gB_w bo652785' (by decide) (by decide)) bf652788 (by have qa0 : Int32.toInt 0 = 0 := (by decide); have qa1 : Int32.toInt 6 = 6 := (by decide); omega) (by have qa0 : Int32.toInt 0 = 0 := (by decide); have qa1 : Int32.toInt 6 = 6 := (by decide); omega) (by have qa0 : Int32.toInt 0 = 0 := (by decide); have qa1 : Int32.toInt 6 = 6 := (by decide); omega) (by have qa0 : Int32.toInt 0 = 0 := (by decide); have qa1 : Int32.toInt 6 = 6 := (by decide); omega)) dr_cX14_word_271 ⟨wr_8_195, wr_1_20, wr_8_143, by decide, rfl, (Nat.le_of_ble_eq_true rfl), (Nat.le_of_ble_eq_true rfl)⟩ wr_8_141 wr_8_142 hm652810 he652798 rfl (show (7 + (g652628.toInt - p651165.toInt) : Int).toNat + 1 ≤ ((16 * (p651164.toInt - p651165.toInt)).toNat) by first | omega | decide) (show (60 + 10 * (g652628.toInt - p651165.toInt) : Int).toNat + (4 * n652787 + 4 + 2 * sb_35.length) ≤ ((160 * (p651164.toInt - p651165.toInt)).toNat) by first | omega | decide) (Nat.le_of_ble_eq_true rfl) (fun r652825 w652826 dc652822 ds652823 hp652824 => ?_) (fun _ _ _ _ _ z => z.elim)
          obtain ⟨P652836, F652837, o652827, q652828, n652829, f652830, rfl, rfl, hsb652838, hfr652839, he652840, he652841, hm652842, hq652843, hdc, hds, bo652827, bf652830, x652831, x652832, x652833, x652834, x652835⟩ := hp652824
          have hm652844 : q651162 ∈ P652836 := hsb652838 q651162 hm652804
          have hm652845 : q651163 ∈ P652836 := hsb652838 q651163 hm652805
          have hm652846 : q651192 ∈ P652836 := hsb652838 q651192 hm652806
          have hm652847 : q652630 ∈ P652836 := hsb652838 q652630 hm652807
          have hm652848 : q652659 ∈ P652836 := hsb652838 q652659 hm652808
          have hm652849 : q652660 ∈ P652836 := hsb652838 q652660 hm652809
          have hm652850 : q652700 ∈ P652836 := hsb652838 q652700 hm652810
          have hm652851 : q652786 ∈ P652836 := hsb652838 q652786 hm652802
          have hq652852 : q652828 ∉ P651160 := fun z => hq652843.elim (fun e => hq652812 (e ▸ z)) (fun n => n (hsb652813 _ z))
          have hsb652853 : rSub P651160 P652836 := rSub_tr hsb652813 hsb652838
          have he652854 : F652837 q651162 = .inr (19, [.ref q651163, .int p651164, .int g652628, .int 6, .int p651167, .int p651168, .int p651169, .ref q652659, .int p651171, .int p651172, .int p651173, .ref qo651174, .ref qo651175, .int p651176]) := (hfr652839 q651162 hm652804 (nm_c (fun h => hq652721 (h ▸ hmq651162)) (nm_c (fun h => hq652812 (h ▸ hmq651162)) nm_n))).trans he652814
          have he652855 : F652837 q651163 = .inl (I .byte, 8192, .inl f651177) := (hfr652839 q651163 hm652805 (nm_c (fun h => hq652721 (h ▸ hmq651163)) (nm_c (fun h => hq652812 (h ▸ hmq651163)) nm_n))).trans he652815
          have he652856 : F652837 q651192 = .inr (1, [.ref q652630, .int 0, .int 0, .int g652629]) := (hfr652839 q651192 hm652806 (nm_c hne652724 (nm_c (rn_oa he652816 he652800) nm_n))).trans he652816
          have he652857 : F652837 q652630 = .inl (I .byte, n652631, .inl f652632) := (hfr652839 q652630 hm652807 (nm_c (rn_ao he652817 he652798) (nm_c hne652819 nm_n))).trans he652817
          have he652858 : F652837 q652659 = .inr (0, [.ref q652660, .int 0, .int 0, .int 0]) := (hfr652839 q652659 hm652808 (nm_c (rn_oo he652799 he652798 (by decide)) (nm_c (rn_oa he652799 he652800) nm_n))).trans he652799
          have he652859 : F652837 q652660 = .inl (I .byte, n652661, .inl f652662) := (hfr652839 q652660 hm652809 (nm_c (rn_ao he652801 he652798) (nm_c hne652820 nm_n))).trans he652801
          have hfr652860 : rFr [q651162] P651160 F651161 F652837 := rFr_call hsb652813 hfr652818 hfr652839 (fun b hb hn => ⟨(nm_c (fun e => hn (e ▸ List.mem_cons_self)) nm_n), (nm_c (fun e => hq652721 (e ▸ hb)) (nm_c (fun e => hq652812 (e ▸ hb)) nm_n))⟩)
          have hne652861 : q652630 ≠ q652828 := fun e => hq652843.elim (fun e2 => hne652819 (e.trans e2)) (fun n => n (e ▸ hm652807))
          have hne652862 : q652660 ≠ q652828 := fun e => hq652843.elim (fun e2 => hne652820 (e.trans e2)) (fun n => n (e ▸ hm652809))
          have bo652827' : gB o652827 2 16777216 := ⟨by omega, by omega⟩
          change G _ _ _ _ _ _ _ (.ref q652700 :: _) _ _ _
          refine G_widen (cs' := (7 + (g652628.toInt - p651165.toInt) : Int).toNat + 1) (sl' := (60 + 10 * (g652628.toInt - p651165.toInt) : Int).toNat + (2 * (n652829 - n652787))) (by omega) (by omega) ?_
          refine G_widen (cs' := (8 + (g652628.toInt - p651165.toInt) : Int).toNat) (sl' := (60 + 15 * (g652628.toInt - p651165.toInt) : Int).toNat) (by omega) (by omega) ?_
          clear he652798 he652799 he652800 he652801 hm652802 bf652788 hm652804 hm652805 hm652806 hm652807 hm652808 hm652809 hm652810 hq652812 hsb652813 he652814 he652815 he652816 he652817 hfr652818 hne652819 hne652820 hsb652838 hfr652839 hq652843 bo652827 hm652851; try clear r652825; try clear w652826; try clear dc652822; try clear ds652823; try clear hp652824
          refine Gw_callV (As := []) (gV_ok D I) (cp_641282_StringBuilder_toString l hl0 D I P652836 F652837 q652700 q652828 0 o652827 f652830 n652829 hm652850 hm652842 he652840 he652841 (gB_w (gBl (show Int32.toInt 0 = 0 by decide)) (by decide) (by decide)) (gB_w bo652827' (by decide) (by decide)) bf652830 (by have qa0 : Int32.toInt 0 = 0 := (by decide); have qa1 : Int32.toInt 6 = 6 := (by decide); omega) (by have qa0 : Int32.toInt 0 = 0 := (by decide); have qa1 : Int32.toInt 6 = 6 := (by decide); omega)) dr_cX14_word_274 ⟨wr_8_66, wr_1_20, wr_8_69, by decide, rfl, (Nat.le_of_ble_eq_true rfl), (Nat.le_of_ble_eq_true rfl)⟩ wr_8_67 wr_8_68 hm652850 he652840 rfl (show (8 + (g652628.toInt - p651165.toInt) : Int).toNat + 2 ≤ ((16 * (p651164.toInt - p651165.toInt)).toNat) by first | omega | decide) (show (60 + 15 * (g652628.toInt - p651165.toInt) : Int).toNat + (o652827.toInt.toNat + 4) ≤ ((160 * (p651164.toInt - p651165.toInt)).toNat) by first | omega | decide) (Nat.le_of_ble_eq_true rfl) (fun r652866 w652867 dc652863 ds652864 hp652865 => ?_) (fun _ _ _ _ _ z => z.elim)
          obtain ⟨P652874, F652875, q652868, q652869, n652870, f652871, rfl, rfl, hsb652876, hfr652877, he652878, he652879, he652880, he652881, hm652882, hq652883, hm652884, hq652885, hdc, hds, bf652871, x652872, x652873⟩ := hp652865
          have hm652886 : q651162 ∈ P652874 := hsb652876 q651162 hm652844
          have hm652887 : q651163 ∈ P652874 := hsb652876 q651163 hm652845
          have hm652888 : q651192 ∈ P652874 := hsb652876 q651192 hm652846
          have hm652889 : q652630 ∈ P652874 := hsb652876 q652630 hm652847
          have hm652890 : q652659 ∈ P652874 := hsb652876 q652659 hm652848
          have hm652891 : q652660 ∈ P652874 := hsb652876 q652660 hm652849
          have hm652892 : q652700 ∈ P652874 := hsb652876 q652700 hm652850
          have hm652893 : q652828 ∈ P652874 := hsb652876 q652828 hm652842
          have hq652894 : q652868 ∉ P651160 := fun z => hq652883 (hsb652853 q652868 z)
          have hq652895 : q652869 ∉ P651160 := fun z => hq652885 (hsb652853 q652869 z)
          have hsb652896 : rSub P651160 P652874 := rSub_tr hsb652853 hsb652876
          have he652897 : F652875 q651162 = .inr (19, [.ref q651163, .int p651164, .int g652628, .int 6, .int p651167, .int p651168, .int p651169, .ref q652659, .int p651171, .int p651172, .int p651173, .ref qo651174, .ref qo651175, .int p651176]) := (hfr652877 q651162 hm652844 nm_n).trans he652854
          have he652898 : F652875 q651163 = .inl (I .byte, 8192, .inl f651177) := (hfr652877 q651163 hm652845 nm_n).trans he652855
          have he652899 : F652875 q651192 = .inr (1, [.ref q652630, .int 0, .int 0, .int g652629]) := (hfr652877 q651192 hm652846 nm_n).trans he652856
          have he652900 : F652875 q652630 = .inl (I .byte, n652631, .inl f652632) := (hfr652877 q652630 hm652847 nm_n).trans he652857
          have he652901 : F652875 q652659 = .inr (0, [.ref q652660, .int 0, .int 0, .int 0]) := (hfr652877 q652659 hm652848 nm_n).trans he652858
          have he652902 : F652875 q652660 = .inl (I .byte, n652661, .inl f652662) := (hfr652877 q652660 hm652849 nm_n).trans he652859
          have hfr652903 : rFr [q651162] P651160 F651161 F652875 := rFr_call hsb652853 hfr652860 hfr652877 (fun b hb hn => ⟨(nm_c (fun e => hn (e ▸ List.mem_cons_self)) nm_n), nm_n⟩)
          have hne652904 : q652659 ≠ q652868 := fun h => hq652883 (h ▸ hm652848)
          have hne652905 : q652630 ≠ q652869 := fun h => hq652885 (h ▸ hm652847)
          have hne652906 : q652660 ≠ q652869 := fun h => hq652885 (h ▸ hm652849)
          have hne652907 : q652828 ≠ q652869 := fun h => hq652885 (h ▸ hm652842)
          change G _ _ _ _ _ _ _ (.ref q652868 :: _) _ _ _
          refine G_widen (cs' := (8 + (g652628.toInt - p651165.toInt) : Int).toNat + 2) (sl' := (60 + 15 * (g652628.toInt - p651165.toInt) : Int).toNat + (o652827.toInt.toNat + 4)) (by omega) (by omega) ?_
          refine G_widen (cs' := (10 + (g652628.toInt - p651165.toInt) : Int).toNat) (sl' := (66 + 16 * (g652628.toInt - p651165.toInt) : Int).toNat) (by omega) (by omega) ?_
          clear hq652721 hne652724 he652840 he652841 hm652842 bf652830 hm652844 hm652845 hm652846 hm652847 hm652848 hm652849 hm652850 hq652852 hsb652853 he652854 he652855 he652856 he652857 he652858 he652859 hfr652860 hne652861 hne652862 hsb652876 hfr652877 he652879 he652880 hq652883 hq652885 hm652892 hm652893 hne652907; try clear r652866; try clear w652867; try clear dc652863; try clear ds652864; try clear hp652865; try clear x652873
          refine Gw_callVk (As := [.ref q652868]) (gV_ok D I) (cp_641731_String_indexOf l hl0 D I P652874 F652875 q652868 q652869 (D.2 1000 34) (D.2 1001 34) sb_34 0 0 f652871 n652870 hm652882 hm652884 he652878 he652881 (gx_sc 34 rfl rfl) (by omega) (by decide +kernel) (gB_w (gBl (show Int32.toInt 0 = 0 by decide)) (by decide) (by decide)) bf652871 (by have qa0 : Int32.toInt 0 = 0 := (by decide); have qa1 : Int32.toInt 6 = 6 := (by decide); omega) (by have qa0 : Int32.toInt 0 = 0 := (by decide); have qa1 : Int32.toInt 6 = 6 := (by decide); omega)) dr_cX14_word_277 ⟨wr_8_196, wr_1_21, wr_8_199, by decide, rfl, (Nat.le_of_ble_eq_true rfl), (Nat.le_of_ble_eq_true rfl)⟩ wr_8_197 wr_8_198 (fun _ _ _ h => ((gx_sc 34 rfl rfl) _ _ _ h).1) (show (10 + (g652628.toInt - p651165.toInt) : Int).toNat + 0 ≤ ((16 * (p651164.toInt - p651165.toInt)).toNat) by first | omega | decide) (show (66 + 16 * (g652628.toInt - p651165.toInt) : Int).toNat + 0 ≤ ((160 * (p651164.toInt - p651165.toInt)).toNat) by first | omega | decide) (Nat.le_of_ble_eq_true rfl) (fun r652911 w652912 dc652908 ds652909 hp652910 => ?_) (fun _ _ _ _ _ z => z.elim)
          obtain ⟨o652913, rfl, rfl, hdc, hds, bo652913, x652914, x652915⟩ := hp652910
          change G _ _ _ _ _ _ _ (.int o652913 :: _) _ _ _
          refine G_widen (cs' := (10 + (g652628.toInt - p651165.toInt) : Int).toNat + 0) (sl' := (66 + 16 * (g652628.toInt - p651165.toInt) : Int).toNat + 0) (by omega) (by omega) ?_
          clear he652878 he652881 hm652882 hm652884 bf652871 hq652894 hq652895 hne652904 hne652905 hne652906; try clear r652911; try clear w652912; try clear dc652908; try clear ds652909; try clear hp652910; try clear x652915
          refine G_if_lt 288 dr_cX14_word_280 (by decide +kernel) (fun hc652916 => ?_) (fun hc652916 => ?_)
          · have r652917 : o652913.toInt < 0 := gj_lt hc652916 (show Int32.toInt 0 = 0 by decide)
            have bo652913' : gB o652913 (-2147483646) (-1) := ⟨by omega, by omega⟩
            exact G_vretA dr_cX14_word_288 rfl (show (10 + (g652628.toInt - p651165.toInt) : Int).toNat + 0 ≤ ((16 * (p651164.toInt - p651165.toInt)).toNat) by omega) (show (66 + 16 * (g652628.toInt - p651165.toInt) : Int).toNat + 0 ≤ ((160 * (p651164.toInt - p651165.toInt)).toNat) by omega) ⟨P652874, F652875, g652628, 6, p651168, q652659, rfl, rfl, hsb652896, hfr652903, he652897, he652898, (by omega), (by omega), bg652628, (gB_w (gBl (show Int32.toInt 6 = 6 by decide)) (by decide) (by decide)), (by have qa0 : Int32.toInt 0 = 0 := (by decide); have qa1 : Int32.toInt 6 = 6 := (by decide); omega), (by have qa0 : Int32.toInt 0 = 0 := (by decide); have qa1 : Int32.toInt 6 = 6 := (by decide); omega), (tP_no (by decide) (by decide)), (vP_no (by decide) (by decide))⟩
          · have r652918 : 0 ≤ o652913.toInt := gj_nlt hc652916 (show Int32.toInt 0 = 0 by decide)
            have bo652913' : gB o652913 0 16777215 := ⟨by omega, by omega⟩
            refine G_aload_n 2 dr_cX14_word_283 rfl ?_
            refine G_iconst 1 dr_cX14_word_284 (by decide +kernel) ?_
            refine Gp_put 3 hm652886 he652897 dr_cX14_word_285 (gk_X14 D I) (Nat.le_of_ble_eq_true rfl) wr_9_39 rfl rfl rfl (Nat.le_of_ble_eq_true rfl) (fun F652919 e652920 n652921 => ?_)
            have he652922 : F652919 q651163 = .inl (I .byte, 8192, .inl f651177) := (n652921 q651163 (rn_ao he652898 he652897)).trans he652898
            have he652923 : F652919 q651192 = .inr (1, [.ref q652630, .int 0, .int 0, .int g652629]) := (n652921 q651192 (fun h => hq651205 (h ▸ hmq651162))).trans he652899
            have he652924 : F652919 q652630 = .inl (I .byte, n652631, .inl f652632) := (n652921 q652630 (fun h => hq652633 (h ▸ hmq651162))).trans he652900
            have he652925 : F652919 q652659 = .inr (0, [.ref q652660, .int 0, .int 0, .int 0]) := (n652921 q652659 (fun h => hq652681 (h ▸ hmq651162))).trans he652901
            have he652926 : F652919 q652660 = .inl (I .byte, n652661, .inl f652662) := (n652921 q652660 (fun h => hq652682 (h ▸ hmq651162))).trans he652902
            have he652927 : F652919 q651162 = .inr (19, [.ref q651163, .int p651164, .int g652628, .int 1, .int p651167, .int p651168, .int p651169, .ref q652659, .int p651171, .int p651172, .int p651173, .ref qo651174, .ref qo651175, .int p651176]) := e652920
            have hfr652928 : rFr [q651162] P651160 F651161 F652919 := rFr_put' List.mem_cons_self hfr652903 n652921
            exact G_vretA dr_cX14_word_288 rfl (show (10 + (g652628.toInt - p651165.toInt) : Int).toNat + 0 ≤ ((16 * (p651164.toInt - p651165.toInt)).toNat) by omega) (show (66 + 16 * (g652628.toInt - p651165.toInt) : Int).toNat + 0 ≤ ((160 * (p651164.toInt - p651165.toInt)).toNat) by omega) ⟨P652874, F652919, g652628, 1, p651168, q652659, rfl, rfl, hsb652896, hfr652928, he652927, he652922, (by omega), (by omega), bg652628, (gB_w (gBl (show Int32.toInt 1 = 1 by decide)) (by decide) (by decide)), (by have qa0 : Int32.toInt 0 = 0 := (by decide); have qa1 : Int32.toInt 1 = 1 := (by decide); omega), (by have qa0 : Int32.toInt 0 = 0 := (by decide); have qa1 : Int32.toInt 1 = 1 := (by decide); omega), (tP_1 hm652890 he652925 hm652891 he652926 bf652662 (by omega) (gB_w (gBl (show Int32.toInt 0 = 0 by decide)) (by decide) (by decide)) (fun e => hq652682 (e ▸ x651181)) (fun e => hq652682 (e ▸ x651182))), (vP_no (by decide) (by decide))⟩
        · have r652929 : g652628.toInt < p651164.toInt := gC_nle hc652651
          have bg652628' : gB g652628 0 8191 := ⟨by omega, by omega⟩
          have bp651164' : gB p651164 1 8192 := ⟨by omega, by omega⟩
          refine G_aload_n 2 dr_cX14_word_197 rfl ?_
          refine Gp_get 0 hm652641 he652635 dr_cX14_word_198 (gk_X14 D I) (Nat.le_of_ble_eq_true rfl) wr_9_36 rfl ?_
          refine G_aload_n 2 dr_cX14_word_201 rfl ?_
          refine Gp_get 2 hm652641 he652635 dr_cX14_word_202 (gk_X14 D I) (Nat.le_of_ble_eq_true rfl) wr_9_38 rfl ?_
          refine Gp_bald 1 hm652642 he652636 dr_cX14_word_205 rfl (gB_in bg652628' (by decide) (by decide)) (G_nam fun z652930 hz652930 => ?_)
          have bz652930 : gB z652930 (-128) 127 := by rw [hz652930]; exact bf651177 _
          refine Gw_callS (As := [.int z652930]) (gV_ok D I) (cp_651520_Reader_isLetter l hl0 D I P652640 F652634 z652930 ) dr_cX14_word_206 ⟨wr_7_222, wr_1_32, wr_7_224, by decide, rfl, (Nat.le_of_ble_eq_true rfl), (Nat.le_of_ble_eq_true rfl)⟩ wr_7_223 (show 2 + (g652629.toInt : Int).toNat + 0 ≤ ((16 * (p651164.toInt - p651165.toInt)).toNat) by first | omega | decide) (show 4 + 2 * n652631 + 0 ≤ ((160 * (p651164.toInt - p651165.toInt)).toNat) by first | omega | decide) (Nat.le_of_ble_eq_true rfl) (fun r652934 w652935 dc652931 ds652932 hp652933 => ?_) (fun _ _ _ _ _ z => z.elim)
          obtain ⟨o652936, rfl, rfl, hdc, hds, bo652936, x652937⟩ := hp652933
          change G _ _ _ _ _ _ _ (.int o652936 :: _) _ _ _
          refine G_widen (cs' := 2 + (g652629.toInt : Int).toNat + 0) (sl' := 4 + 2 * n652631 + 0) (by omega) (by omega) ?_
          refine G_if_eq 240 dr_cX14_word_209 (by decide +kernel) (fun hc652938 => ?_) (fun hc652938 => ?_)
          · have r652939 : o652936.toInt = 0 := gj_eq hc652938 (show Int32.toInt 0 = 0 by decide)
            have bo652936' : gB o652936 0 0 := ⟨by omega, by omega⟩
            have x652940 : p651165.toInt < g652628.toInt := by first | omega | exact cLt_lt x651180 (by assumption) (isP_0 (by assumption) (by omega)) (by omega)
            refine G_aload_n 2 dr_cX14_word_240 rfl ?_
            refine G_aload_n 0 dr_cX14_word_241 rfl ?_
            refine Gw_callV (As := []) (gV_ok D I) (cp_641282_StringBuilder_toString l hl0 D I P652640 F652634 q651192 q652630 0 g652629 f652632 n652631 hm652643 hm652644 he652637 he652638 (gB_w (gBl (show Int32.toInt 0 = 0 by decide)) (by decide) (by decide)) bg652629 bf652632 (by have qa0 : Int32.toInt 0 = 0 := (by decide); have qa1 : Int32.toInt 6 = 6 := (by decide); omega) (by have qa0 : Int32.toInt 0 = 0 := (by decide); have qa1 : Int32.toInt 6 = 6 := (by decide); omega)) dr_cX14_word_242 ⟨wr_8_66, wr_1_20, wr_8_69, by decide, rfl, (Nat.le_of_ble_eq_true rfl), (Nat.le_of_ble_eq_true rfl)⟩ wr_8_67 wr_8_68 hm652643 he652637 rfl (show 2 + (g652629.toInt : Int).toNat + 0 + 2 ≤ ((16 * (p651164.toInt - p651165.toInt)).toNat) by first | omega | decide) (show 4 + 2 * n652631 + 0 + (g652629.toInt.toNat + 4) ≤ ((160 * (p651164.toInt - p651165.toInt)).toNat) by first | omega | decide) (Nat.le_of_ble_eq_true rfl) (fun r652944 w652945 dc652941 ds652942 hp652943 => ?_) (fun _ _ _ _ _ z => z.elim)
            obtain ⟨P652952, F652953, q652946, q652947, n652948, f652949, rfl, rfl, hsb652954, hfr652955, he652956, he652957, he652958, he652959, hm652960, hq652961, hm652962, hq652963, hdc, hds, bf652949, x652950, x652951⟩ := hp652943
            have hm652964 : q651162 ∈ P652952 := hsb652954 q651162 hm652641
            have hm652965 : q651163 ∈ P652952 := hsb652954 q651163 hm652642
            have hm652966 : q651192 ∈ P652952 := hsb652954 q651192 hm652643
            have hm652967 : q652630 ∈ P652952 := hsb652954 q652630 hm652644
            have hq652968 : q652946 ∉ P651160 := fun z => hq652961 (hsb652645 q652946 z)
            have hq652969 : q652947 ∉ P651160 := fun z => hq652963 (hsb652645 q652947 z)
            have hsb652970 : rSub P651160 P652952 := rSub_tr hsb652645 hsb652954
            have he652971 : F652953 q651162 = .inr (19, [.ref q651163, .int p651164, .int g652628, .int 6, .int p651167, .int p651168, .int p651169, .ref qo651170, .int p651171, .int p651172, .int p651173, .ref qo651174, .ref qo651175, .int p651176]) := (hfr652955 q651162 hm652641 nm_n).trans he652635
            have he652972 : F652953 q651163 = .inl (I .byte, 8192, .inl f651177) := (hfr652955 q651163 hm652642 nm_n).trans he652636
            have hfr652973 : rFr [q651162] P651160 F651161 F652953 := rFr_call hsb652645 hfr652639 hfr652955 (fun b hb hn => ⟨(nm_c (fun e => hn (e ▸ List.mem_cons_self)) nm_n), nm_n⟩)
            have hne652974 : q652630 ≠ q652947 := fun h => hq652963 (h ▸ hm652644)
            change G _ _ _ _ _ _ _ (.ref q652946 :: _) _ _ _
            refine G_widen (cs' := 2 + (g652629.toInt : Int).toNat + 0 + 2) (sl' := 4 + 2 * n652631 + 0 + (g652629.toInt.toNat + 4)) (by omega) (by omega) ?_
            have x652975 : (n652948 : Int) = g652628.toInt - p651165.toInt := by omega
            clear he651188 he651189 hfr651190 he651199 he651200 he651201 hm651202 hm651203 hm651204 hfr651206 hsb651207 hsb651216 hfr651217 he651218 he651219 hm651220 hq651221 hm651222 hm651223 hm651224 hq651225 hsb651226 he651227 he651228 hfr651229 bo652936 bo652936' hsb652954 hfr652955 hq652961 hq652963; try clear r651211; try clear w651212; try clear dc651208; try clear ds651209; try clear hp651210; try clear r652934; try clear w652935; try clear dc652931; try clear ds652932; try clear hp652933; try clear x652937; try clear r652939; try clear r652944; try clear w652945; try clear dc652941; try clear ds652942; try clear hp652943
            refine Gp_put 7 hm652964 he652971 dr_cX14_word_245 (gk_X14 D I) (Nat.le_of_ble_eq_true rfl) wr_9_43 rfl rfl rfl (Nat.le_of_ble_eq_true rfl) (fun F652976 e652977 n652978 => ?_)
            have he652979 : F652976 q651163 = .inl (I .byte, 8192, .inl f651177) := (n652978 q651163 (rn_ao he652972 he652971)).trans he652972
            have he652980 : F652976 q652946 = .inr (0, [.ref q652947, .int 0, .int 0, .int 0]) := (n652978 q652946 (fun h => hq652968 (h ▸ hmq651162))).trans he652956
            have he652981 : F652976 q651192 = .inr (1, [.ref q652630, .int 0, .int 0, .int g652629]) := (n652978 q651192 (fun h => hq651205 (h ▸ hmq651162))).trans he652957
            have he652982 : F652976 q652630 = .inl (I .byte, n652631, .inl f652632) := (n652978 q652630 (fun h => hq652633 (h ▸ hmq651162))).trans he652958
            have he652983 : F652976 q652947 = .inl (I .byte, n652948, .inl f652949) := (n652978 q652947 (fun h => hq652969 (h ▸ hmq651162))).trans he652959
            have he652984 : F652976 q651162 = .inr (19, [.ref q651163, .int p651164, .int g652628, .int 6, .int p651167, .int p651168, .int p651169, .ref q652946, .int p651171, .int p651172, .int p651173, .ref qo651174, .ref qo651175, .int p651176]) := e652977
            have hfr652985 : rFr [q651162] P651160 F651161 F652976 := rFr_put' List.mem_cons_self hfr652973 n652978
            refine G_widen (cs' := (4 + (g652628.toInt - p651165.toInt) : Int).toNat) (sl' := (40 + 5 * (g652628.toInt - p651165.toInt) : Int).toNat) (by omega) (by omega) ?_
            clear he652956 he652957 he652958 he652959 he652971 he652972 hfr652973
            refine G_ldcK (a := D.2 1000 34) dr_cX14_word_248 (fun _ _ _ h => gx_vk 34 rfl rfl h) ?_
            have hl34_652985 : (sb_34.length : Int) = 25 := rfl
            refine G_new [.null, .int 0, .int 0, .int 0] dr_cX14_word_250 (gk_J4 D I) wr_7_235 wr_7_44 wr_1_20 (gfs_J4) (show (4 + (g652628.toInt - p651165.toInt) : Int).toNat + 1 ≤ ((16 * (p651164.toInt - p651165.toInt)).toNat) by first | omega | decide) (show (40 + 5 * (g652628.toInt - p651165.toInt) : Int).toNat + 4 ≤ ((160 * (p651164.toInt - p651165.toInt)).toNat) by first | omega | decide) (fun q652987 => Gp_in (fun P652988 F652989 hq652990 hP652991 e652992 n652993 => ?_))
            refine G_widen (cs' := (4 + (g652628.toInt - p651165.toInt) : Int).toNat + 1) (sl' := (40 + 5 * (g652628.toInt - p651165.toInt) : Int).toNat + 4) (by omega) (by omega) ?_
            have he652994 : F652989 q651162 = .inr (19, [.ref q651163, .int p651164, .int g652628, .int 6, .int p651167, .int p651168, .int p651169, .ref q652946, .int p651171, .int p651172, .int p651173, .ref qo651174, .ref qo651175, .int p651176]) := (n652993 q651162 (fun h => hq652990 (h ▸ hm652964))).trans he652984
            have he652995 : F652989 q651163 = .inl (I .byte, 8192, .inl f651177) := (n652993 q651163 (fun h => hq652990 (h ▸ hm652965))).trans he652979
            have he652996 : F652989 q652946 = .inr (0, [.ref q652947, .int 0, .int 0, .int 0]) := (n652993 q652946 (fun h => hq652990 (h ▸ hm652960))).trans he652980
            have he652997 : F652989 q651192 = .inr (1, [.ref q652630, .int 0, .int 0, .int g652629]) := (n652993 q651192 (fun h => hq652990 (h ▸ hm652966))).trans he652981
            have he652998 : F652989 q652630 = .inl (I .byte, n652631, .inl f652632) := (n652993 q652630 (fun h => hq652990 (h ▸ hm652967))).trans he652982
            have he652999 : F652989 q652947 = .inl (I .byte, n652948, .inl f652949) := (n652993 q652947 (fun h => hq652990 (h ▸ hm652962))).trans he652983
            have he653000 : F652989 q652987 = .inr (1, [.null, .int 0, .int 0, .int 0]) := e652992
            have hm653001 : q651162 ∈ P652988 := (hP652991 q651162).mpr (Or.inl hm652964)
            have hm653002 : q651163 ∈ P652988 := (hP652991 q651163).mpr (Or.inl hm652965)
            have hm653003 : q651192 ∈ P652988 := (hP652991 q651192).mpr (Or.inl hm652966)
            have hm653004 : q652630 ∈ P652988 := (hP652991 q652630).mpr (Or.inl hm652967)
            have hm653005 : q652946 ∈ P652988 := (hP652991 q652946).mpr (Or.inl hm652960)
            have hm653006 : q652947 ∈ P652988 := (hP652991 q652947).mpr (Or.inl hm652962)
            have hm653007 : q652987 ∈ P652988 := (hP652991 q652987).mpr (Or.inr rfl)
            have hq653008 : q652987 ∉ P651160 := fun z => hq652990 (hsb652970 q652987 z)
            have hfr653009 : rFr [q651162] P651160 F651161 F652989 := rFr_new hsb652970 hq652990 hfr652985 n652993
            have hsb653010 : rSub P651160 P652988 := rSub_new hsb652970 hP652991
            have hne653011 : q651192 ≠ q652987 := fun h => hq652990 (h ▸ hm652966)
            refine G_dup dr_cX14_word_253 rfl ?_
            refine Gw_callI (As := []) (gV_ok D I) (cp_640525_StringBuilder_init l hl0 D I P652988 F652989 q652987 0 0 hm653007 he653000 (gB_w (gBl (show Int32.toInt 0 = 0 by decide)) (by decide) (by decide)) (gB_w (gBl (show Int32.toInt 0 = 0 by decide)) (by decide) (by decide))) dr_cX14_word_254 ⟨wr_7_236, wr_1_20, wr_7_47, by decide, rfl, (Nat.le_of_ble_eq_true rfl), (Nat.le_of_ble_eq_true rfl)⟩ wr_7_46 rfl (show (4 + (g652628.toInt - p651165.toInt) : Int).toNat + 1 + 1 ≤ ((16 * (p651164.toInt - p651165.toInt)).toNat) by first | omega | decide) (show (40 + 5 * (g652628.toInt - p651165.toInt) : Int).toNat + 4 + 16 ≤ ((160 * (p651164.toInt - p651165.toInt)).toNat) by first | omega | decide) (Nat.le_of_ble_eq_true rfl) (fun r653015 w653016 dc653012 ds653013 hp653014 => ?_)
            obtain ⟨P653018, F653019, q653017, rfl, rfl, hsb653020, hfr653021, he653022, he653023, hm653024, hq653025, hdc, hds⟩ := hp653014
            have hm653026 : q651162 ∈ P653018 := hsb653020 q651162 hm653001
            have hm653027 : q651163 ∈ P653018 := hsb653020 q651163 hm653002
            have hm653028 : q651192 ∈ P653018 := hsb653020 q651192 hm653003
            have hm653029 : q652630 ∈ P653018 := hsb653020 q652630 hm653004
            have hm653030 : q652946 ∈ P653018 := hsb653020 q652946 hm653005
            have hm653031 : q652947 ∈ P653018 := hsb653020 q652947 hm653006
            have hm653032 : q652987 ∈ P653018 := hsb653020 q652987 hm653007
            have hq653033 : q653017 ∉ P651160 := fun z => hq653025 (hsb653010 q653017 z)
            have hsb653034 : rSub P651160 P653018 := rSub_tr hsb653010 hsb653020
            have he653035 : F653019 q651162 = .inr (19, [.ref q651163, .int p651164, .int g652628, .int 6, .int p651167, .int p651168, .int p651169, .ref q652946, .int p651171, .int p651172, .int p651173, .ref qo651174, .ref qo651175, .int p651176]) := (hfr653021 q651162 hm653001 (nm_c (fun h => hq653008 (h ▸ hmq651162)) nm_n)).trans he652994
            have he653036 : F653019 q651163 = .inl (I .byte, 8192, .inl f651177) := (hfr653021 q651163 hm653002 (nm_c (fun h => hq653008 (h ▸ hmq651163)) nm_n)).trans he652995
            have he653037 : F653019 q652946 = .inr (0, [.ref q652947, .int 0, .int 0, .int 0]) := (hfr653021 q652946 hm653005 (nm_c (rn_oo he652996 he653000 (by decide)) nm_n)).trans he652996
            have he653038 : F653019 q651192 = .inr (1, [.ref q652630, .int 0, .int 0, .int g652629]) := (hfr653021 q651192 hm653003 (nm_c hne653011 nm_n)).trans he652997
            have he653039 : F653019 q652630 = .inl (I .byte, n652631, .inl f652632) := (hfr653021 q652630 hm653004 (nm_c (rn_ao he652998 he653000) nm_n)).trans he652998
            have he653040 : F653019 q652947 = .inl (I .byte, n652948, .inl f652949) := (hfr653021 q652947 hm653006 (nm_c (rn_ao he652999 he653000) nm_n)).trans he652999
            have hfr653041 : rFr [q651162] P651160 F651161 F653019 := rFr_call hsb653010 hfr653009 hfr653021 (fun b hb hn => ⟨(nm_c (fun e => hn (e ▸ List.mem_cons_self)) nm_n), (nm_c (fun e => hq653008 (e ▸ hb)) nm_n)⟩)
            have hne653042 : q652630 ≠ q653017 := fun h => hq653025 (h ▸ hm653004)
            have hne653043 : q652947 ≠ q653017 := fun h => hq653025 (h ▸ hm653006)
            change G _ _ _ _ _ _ _ _ _ _ _
            refine G_widen (cs' := (4 + (g652628.toInt - p651165.toInt) : Int).toNat + 1 + 1) (sl' := (40 + 5 * (g652628.toInt - p651165.toInt) : Int).toNat + 4 + 16) (by omega) (by omega) ?_
            refine G_ldcK (a := D.2 1000 35) dr_cX14_word_257 (fun _ _ _ h => gx_vk 35 rfl rfl h) ?_
            have hl35_653043 : (sb_35.length : Int) = 1 := rfl
            refine Gw_callV (As := [.ref (D.2 1000 35)]) (gV_ok D I) (cp_640822_StringBuilder_append l hl0 D I P653018 F653019 q652987 q653017 (D.2 1000 35) (D.2 1001 35) sb_35 0 0 (fun _ => 0) 16 hm653032 hm653024 he653022 he653023 (gx_sc 35 rfl rfl) (by omega) (by decide +kernel) (gB_w (gBl (show Int32.toInt 0 = 0 by decide)) (by decide) (by decide)) (gB_w (gBl (show Int32.toInt 0 = 0 by decide)) (by decide) (by decide)) (gF_w gF_0 (by decide) (by decide)) (by have qa0 : Int32.toInt 0 = 0 := (by decide); have qa1 : Int32.toInt 6 = 6 := (by decide); omega) (by have qa0 : Int32.toInt 0 = 0 := (by decide); have qa1 : Int32.toInt 6 = 6 := (by decide); omega)) dr_cX14_word_259 ⟨wr_8_195, wr_1_20, wr_8_143, by decide, rfl, (Nat.le_of_ble_eq_true rfl), (Nat.le_of_ble_eq_true rfl)⟩ wr_8_141 wr_8_142 hm653032 he653022 rfl (show (4 + (g652628.toInt - p651165.toInt) : Int).toNat + 1 + 1 + 0 ≤ ((16 * (p651164.toInt - p651165.toInt)).toNat) by first | omega | decide) (show (40 + 5 * (g652628.toInt - p651165.toInt) : Int).toNat + 4 + 16 + 0 ≤ ((160 * (p651164.toInt - p651165.toInt)).toNat) by first | omega | decide) (Nat.le_of_ble_eq_true rfl) (fun r653048 w653049 dc653045 ds653046 hp653047 => ?_) (fun _ _ _ _ _ z => z.elim)
            obtain ⟨F653055, o653050, f653051, rfl, rfl, hfr653057, he653058, he653059, hdc, hds, bo653050, bf653051, x653052, x653053, x653054⟩ := hp653047
            have he653060 : F653055 q651162 = .inr (19, [.ref q651163, .int p651164, .int g652628, .int 6, .int p651167, .int p651168, .int p651169, .ref q652946, .int p651171, .int p651172, .int p651173, .ref qo651174, .ref qo651175, .int p651176]) := (hfr653057 q651162 hm653026 (nm_c (fun h => hq653008 (h ▸ hmq651162)) (nm_c (fun h => hq653033 (h ▸ hmq651162)) nm_n))).trans he653035
            have he653061 : F653055 q651163 = .inl (I .byte, 8192, .inl f651177) := (hfr653057 q651163 hm653027 (nm_c (fun h => hq653008 (h ▸ hmq651163)) (nm_c (fun h => hq653033 (h ▸ hmq651163)) nm_n))).trans he653036
            have he653062 : F653055 q652946 = .inr (0, [.ref q652947, .int 0, .int 0, .int 0]) := (hfr653057 q652946 hm653030 (nm_c (rn_oo he653037 he653022 (by decide)) (nm_c (rn_oa he653037 he653023) nm_n))).trans he653037
            have he653063 : F653055 q651192 = .inr (1, [.ref q652630, .int 0, .int 0, .int g652629]) := (hfr653057 q651192 hm653028 (nm_c hne653011 (nm_c (rn_oa he653038 he653023) nm_n))).trans he653038
            have he653064 : F653055 q652630 = .inl (I .byte, n652631, .inl f652632) := (hfr653057 q652630 hm653029 (nm_c (rn_ao he653039 he653022) (nm_c hne653042 nm_n))).trans he653039
            have he653065 : F653055 q652947 = .inl (I .byte, n652948, .inl f652949) := (hfr653057 q652947 hm653031 (nm_c (rn_ao he653040 he653022) (nm_c hne653043 nm_n))).trans he653040
            have hfr653066 : rFr [q651162] P651160 F651161 F653055 := rFr_call hsb653034 hfr653041 hfr653057 (fun b hb hn => ⟨(nm_c (fun e => hn (e ▸ List.mem_cons_self)) nm_n), (nm_c (fun e => hq653008 (e ▸ hb)) (nm_c (fun e => hq653033 (e ▸ hb)) nm_n))⟩)
            rw [show Int32.toInt 0 = 0 from by decide] at x653052
            have bo653050' : gB o653050 1 1 := ⟨by omega, by omega⟩
            rw [show Int32.toInt 0 = 0 from by decide] at x653053
            rw [show Int32.toInt 0 = 0 from by decide] at x653054
            change G _ _ _ _ _ _ _ (.ref q652987 :: _) _ _ _
            refine G_widen (cs' := (4 + (g652628.toInt - p651165.toInt) : Int).toNat + 1 + 1 + 0) (sl' := (40 + 5 * (g652628.toInt - p651165.toInt) : Int).toNat + 4 + 16 + 0) (by omega) (by omega) ?_
            refine G_aload_n 2 dr_cX14_word_262 rfl ?_
            clear hm652960 hm652962 hm652964 hm652965 hm652966 hm652967 hsb652970 he652979 he652980 he652981 he652982 he652983 he652984 hfr652985 he652994 he652995 he652996 he652997 he652998 he652999 he653000 hm653001 hm653002 hm653003 hm653004 hm653005 hm653006 hm653007 hfr653009 hsb653010 hsb653020 hfr653021 he653022 he653023 hq653025 he653035 he653036 he653037 he653038 he653039 he653040 hfr653041 hfr653057 bo653050; try clear r653015; try clear w653016; try clear dc653012; try clear ds653013; try clear hp653014; try clear r653048; try clear w653049; try clear dc653045; try clear ds653046; try clear hp653047
            refine Gp_get 7 hm653026 he653060 dr_cX14_word_263 (gk_X14 D I) (Nat.le_of_ble_eq_true rfl) wr_9_43 rfl ?_
            refine Gw_callV (As := [.ref q652946]) (gV_ok D I) (cp_641017_StringBuilder_append l hl0 D I P653018 F653055 q652987 q652946 q653017 q652947 0 o653050 0 0 f653051 16 f652949 n652948 hm653032 hm653030 hm653024 hm653031 he653058 he653062 he653059 he653065 (Ne.symm hne653043) (gB_w (gBl (show Int32.toInt 0 = 0 by decide)) (by decide) (by decide)) (gB_w bo653050' (by decide) (by decide)) (gB_w (gBl (show Int32.toInt 0 = 0 by decide)) (by decide) (by decide)) bf653051 bf652949 (by have qa0 : Int32.toInt 0 = 0 := (by decide); have qa1 : Int32.toInt 6 = 6 := (by decide); omega) (by have qa0 : Int32.toInt 0 = 0 := (by decide); have qa1 : Int32.toInt 6 = 6 := (by decide); omega) (by have qa0 : Int32.toInt 0 = 0 := (by decide); have qa1 : Int32.toInt 6 = 6 := (by decide); omega) (by have qa0 : Int32.toInt 0 = 0 := (by decide); have qa1 : Int32.toInt 6 = 6 := (by decide); omega) (by have qa0 : Int32.toInt 0 = 0 := (by decide); have qa1 : Int32.toInt 6 = 6 := (by decide); omega)) dr_cX14_word_266 ⟨wr_8_195, wr_1_20, wr_8_143, by decide, rfl, (Nat.le_of_ble_eq_true rfl), (Nat.le_of_ble_eq_true rfl)⟩ wr_8_141 wr_8_142 hm653032 he653058 rfl (show (4 + (g652628.toInt - p651165.toInt) : Int).toNat + 1 + 1 + 0 + 1 ≤ ((16 * (p651164.toInt - p651165.toInt)).toNat) by first | omega | decide) (show (40 + 5 * (g652628.toInt - p651165.toInt) : Int).toNat + 4 + 16 + 0 + (4 * 16 + 4 + 2 * n652948) ≤ ((160 * (p651164.toInt - p651165.toInt)).toNat) by first | omega | decide) (Nat.le_of_ble_eq_true rfl) (fun r653070 w653071 dc653067 ds653068 hp653069 => ?_) (fun _ _ _ _ _ z => z.elim)
            obtain ⟨P653081, F653082, o653072, q653073, n653074, f653075, rfl, rfl, hsb653083, hfr653084, he653085, he653086, he653087, he653088, hm653089, hq653090, hdc, hds, bo653072, bf653075, x653076, x653077, x653078, x653079, x653080⟩ := hp653069
            have hm653091 : q651162 ∈ P653081 := hsb653083 q651162 hm653026
            have hm653092 : q651163 ∈ P653081 := hsb653083 q651163 hm653027
            have hm653093 : q651192 ∈ P653081 := hsb653083 q651192 hm653028
            have hm653094 : q652630 ∈ P653081 := hsb653083 q652630 hm653029
            have hm653095 : q652946 ∈ P653081 := hsb653083 q652946 hm653030
            have hm653096 : q652947 ∈ P653081 := hsb653083 q652947 hm653031
            have hm653097 : q652987 ∈ P653081 := hsb653083 q652987 hm653032
            have hm653098 : q653017 ∈ P653081 := hsb653083 q653017 hm653024
            have hq653099 : q653073 ∉ P651160 := fun z => hq653090.elim (fun e => hq653033 (e ▸ z)) (fun n => n (hsb653034 _ z))
            have hsb653100 : rSub P651160 P653081 := rSub_tr hsb653034 hsb653083
            have he653101 : F653082 q651162 = .inr (19, [.ref q651163, .int p651164, .int g652628, .int 6, .int p651167, .int p651168, .int p651169, .ref q652946, .int p651171, .int p651172, .int p651173, .ref qo651174, .ref qo651175, .int p651176]) := (hfr653084 q651162 hm653026 (nm_c (fun h => hq653008 (h ▸ hmq651162)) (nm_c (fun h => hq653033 (h ▸ hmq651162)) nm_n))).trans he653060
            have he653102 : F653082 q651163 = .inl (I .byte, 8192, .inl f651177) := (hfr653084 q651163 hm653027 (nm_c (fun h => hq653008 (h ▸ hmq651163)) (nm_c (fun h => hq653033 (h ▸ hmq651163)) nm_n))).trans he653061
            have he653103 : F653082 q651192 = .inr (1, [.ref q652630, .int 0, .int 0, .int g652629]) := (hfr653084 q651192 hm653028 (nm_c hne653011 (nm_c (rn_oa he653063 he653059) nm_n))).trans he653063
            have he653104 : F653082 q652630 = .inl (I .byte, n652631, .inl f652632) := (hfr653084 q652630 hm653029 (nm_c (rn_ao he653064 he653058) (nm_c hne653042 nm_n))).trans he653064
            have hfr653105 : rFr [q651162] P651160 F651161 F653082 := rFr_call hsb653034 hfr653066 hfr653084 (fun b hb hn => ⟨(nm_c (fun e => hn (e ▸ List.mem_cons_self)) nm_n), (nm_c (fun e => hq653008 (e ▸ hb)) (nm_c (fun e => hq653033 (e ▸ hb)) nm_n))⟩)
            have hne653106 : q652630 ≠ q653073 := fun e => hq653090.elim (fun e2 => hne653042 (e.trans e2)) (fun n => n (e ▸ hm653029))
            have hne653107 : q652947 ≠ q653073 := fun e => hq653090.elim (fun e2 => hne653043 (e.trans e2)) (fun n => n (e ▸ hm653031))
            have bo653072' : gB o653072 1 16777216 := ⟨by omega, by omega⟩
            change G _ _ _ _ _ _ _ (.ref q652987 :: _) _ _ _
            refine G_widen (cs' := (4 + (g652628.toInt - p651165.toInt) : Int).toNat + 1 + 1 + 0 + 1) (sl' := (40 + 5 * (g652628.toInt - p651165.toInt) : Int).toNat + 4 + 16 + 0 + (2 * (n653074 - 16))) (by omega) (by omega) ?_
            refine G_widen (cs' := (7 + (g652628.toInt - p651165.toInt) : Int).toNat) (sl' := (60 + 10 * (g652628.toInt - p651165.toInt) : Int).toNat) (by omega) (by omega) ?_
            clear hm653024 hm653026 hm653027 hm653028 hm653029 hm653030 hm653031 hm653032 hq653033 hsb653034 hne653042 hne653043 he653058 he653059 bf653051 he653060 he653061 he653062 he653063 he653064 he653065 hfr653066 hsb653083 hfr653084 hq653090 bo653072 hm653098; try clear x653053; try clear x653054; try clear r653070; try clear w653071; try clear dc653067; try clear ds653068; try clear hp653069
            refine G_ldcK (a := D.2 1000 35) dr_cX14_word_269 (fun _ _ _ h => gx_vk 35 rfl rfl h) ?_
            have hl35_653107 : (sb_35.length : Int) = 1 := rfl
            refine Gw_callV (As := [.ref (D.2 1000 35)]) (gV_ok D I) (cp_641161_StringBuilder_append l hl0 D I P653081 F653082 q652987 q653073 (D.2 1000 35) (D.2 1001 35) sb_35 0 o653072 f653075 n653074 hm653097 hm653089 he653085 he653087 (gx_sc 35 rfl rfl) (by omega) (by decide +kernel) (gB_w (gBl (show Int32.toInt 0 = 0 by decide)) (by decide) (by decide)) (gB_w bo653072' (by decide) (by decide)) bf653075 (by have qa0 : Int32.toInt 0 = 0 := (by decide); have qa1 : Int32.toInt 6 = 6 := (by decide); omega) (by have qa0 : Int32.toInt 0 = 0 := (by decide); have qa1 : Int32.toInt 6 = 6 := (by decide); omega) (by have qa0 : Int32.toInt 0 = 0 := (by decide); have qa1 : Int32.toInt 6 = 6 := (by decide); omega) (by have qa0 : Int32.toInt 0 = 0 := (by decide); have qa1 : Int32.toInt 6 = 6 := (by decide); omega)) dr_cX14_word_271 ⟨wr_8_195, wr_1_20, wr_8_143, by decide, rfl, (Nat.le_of_ble_eq_true rfl), (Nat.le_of_ble_eq_true rfl)⟩ wr_8_141 wr_8_142 hm653097 he653085 rfl (show (7 + (g652628.toInt - p651165.toInt) : Int).toNat + 1 ≤ ((16 * (p651164.toInt - p651165.toInt)).toNat) by first | omega | decide) (show (60 + 10 * (g652628.toInt - p651165.toInt) : Int).toNat + (4 * n653074 + 4 + 2 * sb_35.length) ≤ ((160 * (p651164.toInt - p651165.toInt)).toNat) by first | omega | decide) (Nat.le_of_ble_eq_true rfl) (fun r653112 w653113 dc653109 ds653110 hp653111 => ?_) (fun _ _ _ _ _ z => z.elim)
            obtain ⟨P653123, F653124, o653114, q653115, n653116, f653117, rfl, rfl, hsb653125, hfr653126, he653127, he653128, hm653129, hq653130, hdc, hds, bo653114, bf653117, x653118, x653119, x653120, x653121, x653122⟩ := hp653111
            have hm653131 : q651162 ∈ P653123 := hsb653125 q651162 hm653091
            have hm653132 : q651163 ∈ P653123 := hsb653125 q651163 hm653092
            have hm653133 : q651192 ∈ P653123 := hsb653125 q651192 hm653093
            have hm653134 : q652630 ∈ P653123 := hsb653125 q652630 hm653094
            have hm653135 : q652946 ∈ P653123 := hsb653125 q652946 hm653095
            have hm653136 : q652947 ∈ P653123 := hsb653125 q652947 hm653096
            have hm653137 : q652987 ∈ P653123 := hsb653125 q652987 hm653097
            have hm653138 : q653073 ∈ P653123 := hsb653125 q653073 hm653089
            have hq653139 : q653115 ∉ P651160 := fun z => hq653130.elim (fun e => hq653099 (e ▸ z)) (fun n => n (hsb653100 _ z))
            have hsb653140 : rSub P651160 P653123 := rSub_tr hsb653100 hsb653125
            have he653141 : F653124 q651162 = .inr (19, [.ref q651163, .int p651164, .int g652628, .int 6, .int p651167, .int p651168, .int p651169, .ref q652946, .int p651171, .int p651172, .int p651173, .ref qo651174, .ref qo651175, .int p651176]) := (hfr653126 q651162 hm653091 (nm_c (fun h => hq653008 (h ▸ hmq651162)) (nm_c (fun h => hq653099 (h ▸ hmq651162)) nm_n))).trans he653101
            have he653142 : F653124 q651163 = .inl (I .byte, 8192, .inl f651177) := (hfr653126 q651163 hm653092 (nm_c (fun h => hq653008 (h ▸ hmq651163)) (nm_c (fun h => hq653099 (h ▸ hmq651163)) nm_n))).trans he653102
            have he653143 : F653124 q651192 = .inr (1, [.ref q652630, .int 0, .int 0, .int g652629]) := (hfr653126 q651192 hm653093 (nm_c hne653011 (nm_c (rn_oa he653103 he653087) nm_n))).trans he653103
            have he653144 : F653124 q652630 = .inl (I .byte, n652631, .inl f652632) := (hfr653126 q652630 hm653094 (nm_c (rn_ao he653104 he653085) (nm_c hne653106 nm_n))).trans he653104
            have he653145 : F653124 q652946 = .inr (0, [.ref q652947, .int 0, .int 0, .int 0]) := (hfr653126 q652946 hm653095 (nm_c (rn_oo he653086 he653085 (by decide)) (nm_c (rn_oa he653086 he653087) nm_n))).trans he653086
            have he653146 : F653124 q652947 = .inl (I .byte, n652948, .inl f652949) := (hfr653126 q652947 hm653096 (nm_c (rn_ao he653088 he653085) (nm_c hne653107 nm_n))).trans he653088
            have hfr653147 : rFr [q651162] P651160 F651161 F653124 := rFr_call hsb653100 hfr653105 hfr653126 (fun b hb hn => ⟨(nm_c (fun e => hn (e ▸ List.mem_cons_self)) nm_n), (nm_c (fun e => hq653008 (e ▸ hb)) (nm_c (fun e => hq653099 (e ▸ hb)) nm_n))⟩)
            have hne653148 : q652630 ≠ q653115 := fun e => hq653130.elim (fun e2 => hne653106 (e.trans e2)) (fun n => n (e ▸ hm653094))
            have hne653149 : q652947 ≠ q653115 := fun e => hq653130.elim (fun e2 => hne653107 (e.trans e2)) (fun n => n (e ▸ hm653096))
            have bo653114' : gB o653114 2 16777216 := ⟨by omega, by omega⟩
            change G _ _ _ _ _ _ _ (.ref q652987 :: _) _ _ _
            refine G_widen (cs' := (7 + (g652628.toInt - p651165.toInt) : Int).toNat + 1) (sl' := (60 + 10 * (g652628.toInt - p651165.toInt) : Int).toNat + (2 * (n653116 - n653074))) (by omega) (by omega) ?_
            refine G_widen (cs' := (8 + (g652628.toInt - p651165.toInt) : Int).toNat) (sl' := (60 + 15 * (g652628.toInt - p651165.toInt) : Int).toNat) (by omega) (by omega) ?_
            clear he653085 he653086 he653087 he653088 hm653089 bf653075 hm653091 hm653092 hm653093 hm653094 hm653095 hm653096 hm653097 hq653099 hsb653100 he653101 he653102 he653103 he653104 hfr653105 hne653106 hne653107 hsb653125 hfr653126 hq653130 bo653114 hm653138; try clear r653112; try clear w653113; try clear dc653109; try clear ds653110; try clear hp653111
            refine Gw_callV (As := []) (gV_ok D I) (cp_641282_StringBuilder_toString l hl0 D I P653123 F653124 q652987 q653115 0 o653114 f653117 n653116 hm653137 hm653129 he653127 he653128 (gB_w (gBl (show Int32.toInt 0 = 0 by decide)) (by decide) (by decide)) (gB_w bo653114' (by decide) (by decide)) bf653117 (by have qa0 : Int32.toInt 0 = 0 := (by decide); have qa1 : Int32.toInt 6 = 6 := (by decide); omega) (by have qa0 : Int32.toInt 0 = 0 := (by decide); have qa1 : Int32.toInt 6 = 6 := (by decide); omega)) dr_cX14_word_274 ⟨wr_8_66, wr_1_20, wr_8_69, by decide, rfl, (Nat.le_of_ble_eq_true rfl), (Nat.le_of_ble_eq_true rfl)⟩ wr_8_67 wr_8_68 hm653137 he653127 rfl (show (8 + (g652628.toInt - p651165.toInt) : Int).toNat + 2 ≤ ((16 * (p651164.toInt - p651165.toInt)).toNat) by first | omega | decide) (show (60 + 15 * (g652628.toInt - p651165.toInt) : Int).toNat + (o653114.toInt.toNat + 4) ≤ ((160 * (p651164.toInt - p651165.toInt)).toNat) by first | omega | decide) (Nat.le_of_ble_eq_true rfl) (fun r653153 w653154 dc653150 ds653151 hp653152 => ?_) (fun _ _ _ _ _ z => z.elim)
            obtain ⟨P653161, F653162, q653155, q653156, n653157, f653158, rfl, rfl, hsb653163, hfr653164, he653165, he653166, he653167, he653168, hm653169, hq653170, hm653171, hq653172, hdc, hds, bf653158, x653159, x653160⟩ := hp653152
            have hm653173 : q651162 ∈ P653161 := hsb653163 q651162 hm653131
            have hm653174 : q651163 ∈ P653161 := hsb653163 q651163 hm653132
            have hm653175 : q651192 ∈ P653161 := hsb653163 q651192 hm653133
            have hm653176 : q652630 ∈ P653161 := hsb653163 q652630 hm653134
            have hm653177 : q652946 ∈ P653161 := hsb653163 q652946 hm653135
            have hm653178 : q652947 ∈ P653161 := hsb653163 q652947 hm653136
            have hm653179 : q652987 ∈ P653161 := hsb653163 q652987 hm653137
            have hm653180 : q653115 ∈ P653161 := hsb653163 q653115 hm653129
            have hq653181 : q653155 ∉ P651160 := fun z => hq653170 (hsb653140 q653155 z)
            have hq653182 : q653156 ∉ P651160 := fun z => hq653172 (hsb653140 q653156 z)
            have hsb653183 : rSub P651160 P653161 := rSub_tr hsb653140 hsb653163
            have he653184 : F653162 q651162 = .inr (19, [.ref q651163, .int p651164, .int g652628, .int 6, .int p651167, .int p651168, .int p651169, .ref q652946, .int p651171, .int p651172, .int p651173, .ref qo651174, .ref qo651175, .int p651176]) := (hfr653164 q651162 hm653131 nm_n).trans he653141
            have he653185 : F653162 q651163 = .inl (I .byte, 8192, .inl f651177) := (hfr653164 q651163 hm653132 nm_n).trans he653142
            have he653186 : F653162 q651192 = .inr (1, [.ref q652630, .int 0, .int 0, .int g652629]) := (hfr653164 q651192 hm653133 nm_n).trans he653143
            have he653187 : F653162 q652630 = .inl (I .byte, n652631, .inl f652632) := (hfr653164 q652630 hm653134 nm_n).trans he653144
            have he653188 : F653162 q652946 = .inr (0, [.ref q652947, .int 0, .int 0, .int 0]) := (hfr653164 q652946 hm653135 nm_n).trans he653145
            have he653189 : F653162 q652947 = .inl (I .byte, n652948, .inl f652949) := (hfr653164 q652947 hm653136 nm_n).trans he653146
            have hfr653190 : rFr [q651162] P651160 F651161 F653162 := rFr_call hsb653140 hfr653147 hfr653164 (fun b hb hn => ⟨(nm_c (fun e => hn (e ▸ List.mem_cons_self)) nm_n), nm_n⟩)
            have hne653191 : q652946 ≠ q653155 := fun h => hq653170 (h ▸ hm653135)
            have hne653192 : q652630 ≠ q653156 := fun h => hq653172 (h ▸ hm653134)
            have hne653193 : q652947 ≠ q653156 := fun h => hq653172 (h ▸ hm653136)
            have hne653194 : q653115 ≠ q653156 := fun h => hq653172 (h ▸ hm653129)
            change G _ _ _ _ _ _ _ (.ref q653155 :: _) _ _ _
            refine G_widen (cs' := (8 + (g652628.toInt - p651165.toInt) : Int).toNat + 2) (sl' := (60 + 15 * (g652628.toInt - p651165.toInt) : Int).toNat + (o653114.toInt.toNat + 4)) (by omega) (by omega) ?_
            refine G_widen (cs' := (10 + (g652628.toInt - p651165.toInt) : Int).toNat) (sl' := (66 + 16 * (g652628.toInt - p651165.toInt) : Int).toNat) (by omega) (by omega) ?_
            clear hq653008 hne653011 he653127 he653128 hm653129 bf653117 hm653131 hm653132 hm653133 hm653134 hm653135 hm653136 hm653137 hq653139 hsb653140 he653141 he653142 he653143 he653144 he653145 he653146 hfr653147 hne653148 hne653149 hsb653163 hfr653164 he653166 he653167 hq653170 hq653172 hm653179 hm653180 hne653194; try clear r653153; try clear w653154; try clear dc653150; try clear ds653151; try clear hp653152; try clear x653160
            refine Gw_callVk (As := [.ref q653155]) (gV_ok D I) (cp_641731_String_indexOf l hl0 D I P653161 F653162 q653155 q653156 (D.2 1000 34) (D.2 1001 34) sb_34 0 0 f653158 n653157 hm653169 hm653171 he653165 he653168 (gx_sc 34 rfl rfl) (by omega) (by decide +kernel) (gB_w (gBl (show Int32.toInt 0 = 0 by decide)) (by decide) (by decide)) bf653158 (by have qa0 : Int32.toInt 0 = 0 := (by decide); have qa1 : Int32.toInt 6 = 6 := (by decide); omega) (by have qa0 : Int32.toInt 0 = 0 := (by decide); have qa1 : Int32.toInt 6 = 6 := (by decide); omega)) dr_cX14_word_277 ⟨wr_8_196, wr_1_21, wr_8_199, by decide, rfl, (Nat.le_of_ble_eq_true rfl), (Nat.le_of_ble_eq_true rfl)⟩ wr_8_197 wr_8_198 (fun _ _ _ h => ((gx_sc 34 rfl rfl) _ _ _ h).1) (show (10 + (g652628.toInt - p651165.toInt) : Int).toNat + 0 ≤ ((16 * (p651164.toInt - p651165.toInt)).toNat) by first | omega | decide) (show (66 + 16 * (g652628.toInt - p651165.toInt) : Int).toNat + 0 ≤ ((160 * (p651164.toInt - p651165.toInt)).toNat) by first | omega | decide) (Nat.le_of_ble_eq_true rfl) (fun r653198 w653199 dc653195 ds653196 hp653197 => ?_) (fun _ _ _ _ _ z => z.elim)
            obtain ⟨o653200, rfl, rfl, hdc, hds, bo653200, x653201, x653202⟩ := hp653197
            change G _ _ _ _ _ _ _ (.int o653200 :: _) _ _ _
            refine G_widen (cs' := (10 + (g652628.toInt - p651165.toInt) : Int).toNat + 0) (sl' := (66 + 16 * (g652628.toInt - p651165.toInt) : Int).toNat + 0) (by omega) (by omega) ?_
            clear he653165 he653168 hm653169 hm653171 bf653158 hq653181 hq653182 hne653191 hne653192 hne653193; try clear r653198; try clear w653199; try clear dc653195; try clear ds653196; try clear hp653197; try clear x653202
            refine G_if_lt 288 dr_cX14_word_280 (by decide +kernel) (fun hc653203 => ?_) (fun hc653203 => ?_)
            · have r653204 : o653200.toInt < 0 := gj_lt hc653203 (show Int32.toInt 0 = 0 by decide)
              have bo653200' : gB o653200 (-2147483646) (-1) := ⟨by omega, by omega⟩
              exact G_vretA dr_cX14_word_288 rfl (show (10 + (g652628.toInt - p651165.toInt) : Int).toNat + 0 ≤ ((16 * (p651164.toInt - p651165.toInt)).toNat) by omega) (show (66 + 16 * (g652628.toInt - p651165.toInt) : Int).toNat + 0 ≤ ((160 * (p651164.toInt - p651165.toInt)).toNat) by omega) ⟨P653161, F653162, g652628, 6, p651168, q652946, rfl, rfl, hsb653183, hfr653190, he653184, he653185, (by omega), (by omega), (gB_w bg652628' (by decide) (by decide)), (gB_w (gBl (show Int32.toInt 6 = 6 by decide)) (by decide) (by decide)), (by have qa0 : Int32.toInt 0 = 0 := (by decide); have qa1 : Int32.toInt 6 = 6 := (by decide); omega), (by have qa0 : Int32.toInt 0 = 0 := (by decide); have qa1 : Int32.toInt 6 = 6 := (by decide); omega), (tP_no (by decide) (by decide)), (vP_no (by decide) (by decide))⟩
            · have r653205 : 0 ≤ o653200.toInt := gj_nlt hc653203 (show Int32.toInt 0 = 0 by decide)
              have bo653200' : gB o653200 0 16777215 := ⟨by omega, by omega⟩
              refine G_aload_n 2 dr_cX14_word_283 rfl ?_
              refine G_iconst 1 dr_cX14_word_284 (by decide +kernel) ?_
              refine Gp_put 3 hm653173 he653184 dr_cX14_word_285 (gk_X14 D I) (Nat.le_of_ble_eq_true rfl) wr_9_39 rfl rfl rfl (Nat.le_of_ble_eq_true rfl) (fun F653206 e653207 n653208 => ?_)
              have he653209 : F653206 q651163 = .inl (I .byte, 8192, .inl f651177) := (n653208 q651163 (rn_ao he653185 he653184)).trans he653185
              have he653210 : F653206 q651192 = .inr (1, [.ref q652630, .int 0, .int 0, .int g652629]) := (n653208 q651192 (fun h => hq651205 (h ▸ hmq651162))).trans he653186
              have he653211 : F653206 q652630 = .inl (I .byte, n652631, .inl f652632) := (n653208 q652630 (fun h => hq652633 (h ▸ hmq651162))).trans he653187
              have he653212 : F653206 q652946 = .inr (0, [.ref q652947, .int 0, .int 0, .int 0]) := (n653208 q652946 (fun h => hq652968 (h ▸ hmq651162))).trans he653188
              have he653213 : F653206 q652947 = .inl (I .byte, n652948, .inl f652949) := (n653208 q652947 (fun h => hq652969 (h ▸ hmq651162))).trans he653189
              have he653214 : F653206 q651162 = .inr (19, [.ref q651163, .int p651164, .int g652628, .int 1, .int p651167, .int p651168, .int p651169, .ref q652946, .int p651171, .int p651172, .int p651173, .ref qo651174, .ref qo651175, .int p651176]) := e653207
              have hfr653215 : rFr [q651162] P651160 F651161 F653206 := rFr_put' List.mem_cons_self hfr653190 n653208
              exact G_vretA dr_cX14_word_288 rfl (show (10 + (g652628.toInt - p651165.toInt) : Int).toNat + 0 ≤ ((16 * (p651164.toInt - p651165.toInt)).toNat) by omega) (show (66 + 16 * (g652628.toInt - p651165.toInt) : Int).toNat + 0 ≤ ((160 * (p651164.toInt - p651165.toInt)).toNat) by omega) ⟨P653161, F653206, g652628, 1, p651168, q652946, rfl, rfl, hsb653183, hfr653215, he653214, he653209, (by omega), (by omega), (gB_w bg652628' (by decide) (by decide)), (gB_w (gBl (show Int32.toInt 1 = 1 by decide)) (by decide) (by decide)), (by have qa0 : Int32.toInt 0 = 0 := (by decide); have qa1 : Int32.toInt 1 = 1 := (by decide); omega), (by have qa0 : Int32.toInt 0 = 0 := (by decide); have qa1 : Int32.toInt 1 = 1 := (by decide); omega), (tP_1 hm653177 he653212 hm653178 he653213 bf652949 (by omega) (gB_w (gBl (show Int32.toInt 0 = 0 by decide)) (by decide) (by decide)) (fun e => hq652969 (e ▸ x651181)) (fun e => hq652969 (e ▸ x651182))), (vP_no (by decide) (by decide))⟩
          · have r653216 : o652936.toInt ≠ 0 := gj_neq hc652938 (show Int32.toInt 0 = 0 by decide)
            have bo652936' : gB o652936 1 1 := ⟨by omega, by omega⟩
            have bi653217 : gB z652930 97 122 := isP_1 x652937 (by omega)
            refine G_aload_n 0 dr_cX14_word_212 rfl ?_
            refine G_aload_n 2 dr_cX14_word_213 rfl ?_
            refine Gp_get 0 hm652641 he652635 dr_cX14_word_214 (gk_X14 D I) (Nat.le_of_ble_eq_true rfl) wr_9_36 rfl ?_
            refine G_aload_n 2 dr_cX14_word_217 rfl ?_
            refine Gp_get 2 hm652641 he652635 dr_cX14_word_218 (gk_X14 D I) (Nat.le_of_ble_eq_true rfl) wr_9_38 rfl ?_
            refine Gp_bald 1 hm652642 he652636 dr_cX14_word_221 rfl (gB_in bg652628' (by decide) (by decide)) (G_eqi (y := z652930) hz652930.symm ?_)
            refine G_i2c dr_cX14_word_222 (G_nam fun z653218 hz653218 => ?_)
            have ez653218 : z653218.toInt = z652930.toInt := gI_i2c hz653218 (by omega) (by omega)
            have bz653218 : gB z653218 97 122 := ⟨by omega, by omega⟩
            refine Gw_callV (As := [.int z653218]) (gV_ok D I) (cp_651837_StringBuilder_append l hl0 D I P652640 F652634 q651192 q652630 z653218 0 g652629 f652632 n652631 hm652643 hm652644 he652637 he652638 (gB_w bz653218 (by decide) (by decide)) (gB_w (gBl (show Int32.toInt 0 = 0 by decide)) (by decide) (by decide)) bg652629 bf652632 (by have qa0 : Int32.toInt 0 = 0 := (by decide); have qa1 : Int32.toInt 6 = 6 := (by decide); omega) (by have qa0 : Int32.toInt 0 = 0 := (by decide); have qa1 : Int32.toInt 6 = 6 := (by decide); omega) (by have qa0 : Int32.toInt 0 = 0 := (by decide); have qa1 : Int32.toInt 6 = 6 := (by decide); omega) (by have qa0 : Int32.toInt 0 = 0 := (by decide); have qa1 : Int32.toInt 6 = 6 := (by decide); omega)) dr_cX14_word_223 ⟨wr_7_237, wr_1_20, wr_8_0, by decide, rfl, (Nat.le_of_ble_eq_true rfl), (Nat.le_of_ble_eq_true rfl)⟩ wr_7_238 wr_7_239 hm652643 he652637 rfl (show 2 + (g652629.toInt : Int).toNat + 0 + 1 ≤ ((16 * (p651164.toInt - p651165.toInt)).toNat) by first | omega | decide) (show 4 + 2 * n652631 + 0 + (4 * n652631 + 8) ≤ ((160 * (p651164.toInt - p651165.toInt)).toNat) by first | omega | decide) (Nat.le_of_ble_eq_true rfl) (fun r653222 w653223 dc653219 ds653220 hp653221 => ?_) (fun _ _ _ _ _ z => z.elim)
            obtain ⟨P653233, F653234, o653224, q653225, n653226, f653227, rfl, rfl, hsb653235, hfr653236, he653237, he653238, hm653239, hq653240, hdc, hds, bo653224, bf653227, x653228, x653229, x653230, x653231, x653232⟩ := hp653221
            have hm653241 : q651162 ∈ P653233 := hsb653235 q651162 hm652641
            have hm653242 : q651163 ∈ P653233 := hsb653235 q651163 hm652642
            have hm653243 : q651192 ∈ P653233 := hsb653235 q651192 hm652643
            have hm653244 : q652630 ∈ P653233 := hsb653235 q652630 hm652644
            have hq653245 : q653225 ∉ P651160 := fun z => hq653240.elim (fun e => hq652633 (e ▸ z)) (fun n => n (hsb652645 _ z))
            have hsb653246 : rSub P651160 P653233 := rSub_tr hsb652645 hsb653235
            have he653247 : F653234 q651162 = .inr (19, [.ref q651163, .int p651164, .int g652628, .int 6, .int p651167, .int p651168, .int p651169, .ref qo651170, .int p651171, .int p651172, .int p651173, .ref qo651174, .ref qo651175, .int p651176]) := (hfr653236 q651162 hm652641 (nm_c (fun h => hq652633 (h ▸ hmq651162)) (nm_c (fun h => hq651205 (h ▸ hmq651162)) nm_n))).trans he652635
            have he653248 : F653234 q651163 = .inl (I .byte, 8192, .inl f651177) := (hfr653236 q651163 hm652642 (nm_c (fun h => hq652633 (h ▸ hmq651163)) (nm_c (fun h => hq651205 (h ▸ hmq651163)) nm_n))).trans he652636
            have hfr653249 : rFr [q651162] P651160 F651161 F653234 := rFr_call hsb652645 hfr652639 hfr653236 (fun b hb hn => ⟨(nm_c (fun e => hn (e ▸ List.mem_cons_self)) nm_n), (nm_c (fun e => hq652633 (e ▸ hb)) (nm_c (fun e => hq651205 (e ▸ hb)) nm_n))⟩)
            change G _ _ _ _ _ _ _ (.ref q651192 :: _) _ _ _
            refine G_widen (cs' := 2 + (g652629.toInt : Int).toNat + 0 + 1) (sl' := 4 + 2 * n652631 + 0 + (2 * (n653226 - n652631))) (by omega) (by omega) ?_
            refine G_pop dr_cX14_word_226 rfl ?_
            refine G_aload_n 2 dr_cX14_word_227 rfl ?_
            refine G_dup dr_cX14_word_228 rfl ?_
            refine Gp_get 2 hm653241 he653247 dr_cX14_word_229 (gk_X14 D I) (Nat.le_of_ble_eq_true rfl) wr_9_38 rfl ?_
            refine G_iconst 1 dr_cX14_word_232 (by decide +kernel) ?_
            refine G_iadd dr_cX14_word_233 (G_nam fun z653250 hz653250 => ?_)
            have ez653250 : z653250.toInt = g652628.toInt + 1 := by rw [gI_add hz653250 bg652628' (gBl (show Int32.toInt 1 = 1 by decide)) (by decide) (by decide), show Int32.toInt 1 = 1 from by decide]
            have bz653250 : gB z653250 1 8192 := gB_add (gI_add hz653250 bg652628' (gBl (show Int32.toInt 1 = 1 by decide)) (by decide) (by decide)) bg652628' (gBl (show Int32.toInt 1 = 1 by decide)) (by decide) (by decide)
            refine Gp_put 2 hm653241 he653247 dr_cX14_word_234 (gk_X14 D I) (Nat.le_of_ble_eq_true rfl) wr_9_38 rfl rfl rfl (Nat.le_of_ble_eq_true rfl) (fun F653251 e653252 n653253 => ?_)
            have he653254 : F653251 q651163 = .inl (I .byte, 8192, .inl f651177) := (n653253 q651163 (rn_ao he653248 he653247)).trans he653248
            have he653255 : F653251 q651192 = .inr (1, [.ref q653225, .int 0, .int 0, .int o653224]) := (n653253 q651192 (fun h => hq651205 (h ▸ hmq651162))).trans he653237
            have he653256 : F653251 q653225 = .inl (I .byte, n653226, .inl f653227) := (n653253 q653225 (fun h => hq653245 (h ▸ hmq651162))).trans he653238
            have he653257 : F653251 q651162 = .inr (19, [.ref q651163, .int p651164, .int z653250, .int 6, .int p651167, .int p651168, .int p651169, .ref qo651170, .int p651171, .int p651172, .int p651173, .ref qo651174, .ref qo651175, .int p651176]) := e653252
            have hfr653258 : rFr [q651162] P651160 F651161 F653251 := rFr_put' List.mem_cons_self hfr653249 n653253
            refine G_goto 186 dr_cX14_word_237 (by decide +kernel) ?_
            refine G_widen (cs' := 2 + (o653224.toInt : Int).toNat) (sl' := 4 + 2 * n653226) (by omega) (by omega) ?_
            exact ih186_652650 P653233 F653251 z653250 o653224 q653225 n653226 f653227 (gB_w bz653250 (by decide) (by decide)) (gB_w bo653224 (by decide) (by decide)) bf653227 hsb653246 hfr653258 hm653241 he653257 hm653242 he653254 hm653243 he653255 hm653239 he653256 hq653245 (by have qa0 : Int32.toInt 0 = 0 := (by decide); have qa1 : Int32.toInt 6 = 6 := (by decide); omega) (by have qa0 : Int32.toInt 0 = 0 := (by decide); have qa1 : Int32.toInt 6 = 6 := (by decide); omega) (by have qa0 : Int32.toInt 0 = 0 := (by decide); have qa1 : Int32.toInt 6 = 6 := (by decide); omega) (by have qa0 : Int32.toInt 0 = 0 := (by decide); have qa1 : Int32.toInt 6 = 6 := (by decide); omega) (by have qa0 : Int32.toInt 0 = 0 := (by decide); have qa1 : Int32.toInt 6 = 6 := (by decide); omega) (by have qa0 : Int32.toInt 0 = 0 := (by decide); have qa1 : Int32.toInt 6 = 6 := (by decide); omega)
    exact hlp186_652650 (((8193 : Int) - p651165.toInt).toNat + 1) P651214 F651215 p651165 0 q651213 16 (fun _ => 0) bp651165 (gB_w (gBl (show Int32.toInt 0 = 0 by decide)) (by decide) (by decide)) (gF_w gF_0 (by decide) (by decide)) hsb651226 hfr651229 hm651222 he651227 hm651223 he651228 hm651224 he651218 hm651220 he651219 hq651225 (by have qa0 : Int32.toInt 0 = 0 := (by decide); have qa1 : Int32.toInt 6 = 6 := (by decide); omega) (by have qa0 : Int32.toInt 0 = 0 := (by decide); have qa1 : Int32.toInt 6 = 6 := (by decide); omega) (by have qa0 : Int32.toInt 0 = 0 := (by decide); have qa1 : Int32.toInt 6 = 6 := (by decide); omega) (by have qa0 : Int32.toInt 0 = 0 := (by decide); have qa1 : Int32.toInt 6 = 6 := (by decide); omega) (by have qa0 : Int32.toInt 0 = 0 := (by decide); have qa1 : Int32.toInt 6 = 6 := (by decide); omega) (Nat.lt_succ_self _)
  refine G_iload_n 0 dr_cX14_word_16 rfl ?_
  refine G_bipush 118 dr_cX14_word_17 (by decide +kernel) ?_
  refine G_icmp_eq 28 dr_cX14_word_19 (by decide +kernel) (fun hc653259 => ?_) (fun hc653259 => ?_)
  · have r653260 : z651184.toInt = 118 := gj_eq hc653259 (show Int32.toInt 118 = 118 by decide)
    have bz651184' : gB z651184 118 118 := ⟨by omega, by omega⟩
    refine G_aload_n 1 dr_cX14_word_28 rfl ?_
    refine Gp_get 2 hmq651162 he651189 dr_cX14_word_29 (gk_X14 D I) (Nat.le_of_ble_eq_true rfl) wr_9_38 rfl ?_
    refine G_iconst 1 dr_cX14_word_32 (by decide +kernel) ?_
    refine G_iadd dr_cX14_word_33 (G_nam fun z653261 hz653261 => ?_)
    have ez653261 : z653261.toInt = p651165.toInt + 1 := by rw [gI_add hz653261 bp651165 (gBl (show Int32.toInt 1 = 1 by decide)) (by decide) (by decide), show Int32.toInt 1 = 1 from by decide]
    have bz653261 : gB z653261 1 8193 := gB_add (gI_add hz653261 bp651165 (gBl (show Int32.toInt 1 = 1 by decide)) (by decide) (by decide)) bp651165 (gBl (show Int32.toInt 1 = 1 by decide)) (by decide) (by decide)
    refine G_aload_n 1 dr_cX14_word_34 rfl ?_
    refine Gp_get 1 hmq651162 he651189 dr_cX14_word_35 (gk_X14 D I) (Nat.le_of_ble_eq_true rfl) wr_9_37 rfl ?_
    refine G_icmp_ge 178 dr_cX14_word_38 (by decide +kernel) (fun hc653262 => ?_) (fun hc653262 => ?_)
    · have r653263 : p651164.toInt ≤ z653261.toInt := gC_le hc653262
      refine G_lv (L' := [(1, .int z651184), (0, .ref q651162)]) [0, 1] rfl ?_
      exact jn651191
    · have r653264 : z653261.toInt < p651164.toInt := gC_nle hc653262
      have bz653261' : gB z653261 1 8191 := ⟨by omega, by omega⟩
      have bp651164' : gB p651164 2 8192 := ⟨by omega, by omega⟩
      refine G_aload_n 1 dr_cX14_word_41 rfl ?_
      refine Gp_get 0 hmq651162 he651189 dr_cX14_word_42 (gk_X14 D I) (Nat.le_of_ble_eq_true rfl) wr_9_36 rfl ?_
      refine G_aload_n 1 dr_cX14_word_45 rfl ?_
      refine Gp_get 2 hmq651162 he651189 dr_cX14_word_46 (gk_X14 D I) (Nat.le_of_ble_eq_true rfl) wr_9_38 rfl ?_
      refine G_iconst 1 dr_cX14_word_49 (by decide +kernel) ?_
      refine G_iadd dr_cX14_word_50 (G_eqi (y := z653261) hz653261.symm ?_)
      refine Gp_bald 1 hmq651163 he651188 dr_cX14_word_51 rfl (gB_in bz653261' (by decide) (by decide)) (G_nam fun z653265 hz653265 => ?_)
      have bz653265 : gB z653265 (-128) 127 := by rw [hz653265]; exact bf651177 _
      refine Gw_callS (As := [.int z653265]) (gV_ok D I) (cp_649621_Reader_isDigit l hl0 D I P651160 F651185 z653265 ) dr_cX14_word_52 ⟨wr_7_219, wr_1_32, wr_7_221, by decide, rfl, (Nat.le_of_ble_eq_true rfl), (Nat.le_of_ble_eq_true rfl)⟩ wr_7_220 (show 0 + 0 ≤ ((16 * (p651164.toInt - p651165.toInt)).toNat) by first | omega | decide) (show 0 + 0 ≤ ((160 * (p651164.toInt - p651165.toInt)).toNat) by first | omega | decide) (Nat.le_of_ble_eq_true rfl) (fun r653269 w653270 dc653266 ds653267 hp653268 => ?_) (fun _ _ _ _ _ z => z.elim)
      obtain ⟨o653271, rfl, rfl, hdc, hds, bo653271, x653272⟩ := hp653268
      change G _ _ _ _ _ _ _ (.int o653271 :: _) _ _ _
      refine G_widen (cs' := 0) (sl' := 0) (by omega) (by omega) ?_
      refine G_if_eq 178 dr_cX14_word_55 (by decide +kernel) (fun hc653273 => ?_) (fun hc653273 => ?_)
      · have r653274 : o653271.toInt = 0 := gj_eq hc653273 (show Int32.toInt 0 = 0 by decide)
        have bo653271' : gB o653271 0 0 := ⟨by omega, by omega⟩
        refine G_lv (L' := [(1, .int z651184), (0, .ref q651162)]) [0, 1] rfl ?_
        exact jn651191
      · have r653275 : o653271.toInt ≠ 0 := gj_neq hc653273 (show Int32.toInt 0 = 0 by decide)
        have bo653271' : gB o653271 1 1 := ⟨by omega, by omega⟩
        have bi653276 : gB z653265 48 57 := isP_1 x653272 (by omega)
        refine G_lconst 0 dr_cX14_word_58 rfl ?_
        refine G_lstore_n (L' := [(2, .long 0), (1, .int z651184), (0, .ref q651162)]) dr_cX14_word_59 (Nat.le_of_ble_eq_true rfl) rfl ?_
        refine G_aload_n 2 dr_cX14_word_60 rfl ?_
        refine G_dup dr_cX14_word_61 rfl ?_
        refine Gp_get 2 hmq651162 he651189 dr_cX14_word_62 (gk_X14 D I) (Nat.le_of_ble_eq_true rfl) wr_9_38 rfl ?_
        refine G_iconst 1 dr_cX14_word_65 (by decide +kernel) ?_
        refine G_iadd dr_cX14_word_66 (G_eqi (y := z653261) hz653261.symm ?_)
        refine Gp_put 2 hmq651162 he651189 dr_cX14_word_67 (gk_X14 D I) (Nat.le_of_ble_eq_true rfl) wr_9_38 rfl rfl rfl (Nat.le_of_ble_eq_true rfl) (fun F653277 e653278 n653279 => ?_)
        have he653280 : F653277 q651163 = .inl (I .byte, 8192, .inl f651177) := (n653279 q651163 (rn_ao he651188 he651189)).trans he651188
        have he653281 : F653277 q651162 = .inr (19, [.ref q651163, .int p651164, .int z653261, .int 6, .int p651167, .int p651168, .int p651169, .ref qo651170, .int p651171, .int p651172, .int p651173, .ref qo651174, .ref qo651175, .int p651176]) := e653278
        have hfr653282 : rFr [q651162] P651160 F651161 F653277 := rFr_put' List.mem_cons_self hfr651190 n653279
        have hlp70_653429 : ∀ (n70_653429 : Nat) (F653423 : Nat → va_E) (gl653421 : Int64) (g653422 : Int32), gB g653422 0 8192 → rFr [q651162] P651160 F651161 F653423 → F653423 q651162 = .inr (19, [.ref q651163, .int p651164, .int g653422, .int 6, .int p651167, .int p651168, .int p651169, .ref qo651170, .int p651171, .int p651172, .int p651173, .ref qo651174, .ref qo651175, .int p651176]) → F653423 q651163 = .inl (I .byte, 8192, .inl f651177) → LG gl653421 0 1000000 → p651165.toInt < g653422.toInt → g653422.toInt ≤ p651164.toInt → ((8193 : Int) - g653422.toInt).toNat < n70_653429 → G (gV D I) l (gRm 6 132 ((16 * (p651164.toInt - p651165.toInt)).toNat) ((160 * (p651164.toInt - p651165.toInt)).toNat)) (gMA (gV D I) (pp_651183_Reader_word D I P651160 F651161 q651162 q651163 p651164 p651165 p651166 p651167 p651168 p651169 qo651170 p651171 p651172 p651173 qo651174 qo651175 p651176 f651177) gNA ((16 * (p651164.toInt - p651165.toInt)).toNat) ((160 * (p651164.toInt - p651165.toInt)).toNat)) ky_651183_Reader_word 70 [(2, .long gl653421), (1, .int z651184), (0, .ref q651162)] [] (va_pl P651160 F653423) 0 0 := by
          intro n70_653429
          induction n70_653429 with
          | zero => intro F653423 gl653421 g653422 bg653422 hfr653426 he653424 he653425 x653427 x653428 x653429 hm70_653429; exact absurd hm70_653429 (Nat.not_lt_zero _)
          | succ n70_653429 ih70_653429 =>
            intro F653423 gl653421 g653422 bg653422 hfr653426 he653424 he653425 x653427 x653428 x653429 hm70_653429
            refine G_aload_n 2 dr_cX14_word_70 rfl ?_
            refine Gp_get 2 hmq651162 he653424 dr_cX14_word_71 (gk_X14 D I) (Nat.le_of_ble_eq_true rfl) wr_9_38 rfl ?_
            refine G_aload_n 2 dr_cX14_word_74 rfl ?_
            refine Gp_get 1 hmq651162 he653424 dr_cX14_word_75 (gk_X14 D I) (Nat.le_of_ble_eq_true rfl) wr_9_37 rfl ?_
            refine G_icmp_ge 136 dr_cX14_word_78 (by decide +kernel) (fun hc653430 => ?_) (fun hc653430 => ?_)
            · have r653431 : p651164.toInt ≤ g653422.toInt := gC_le hc653430
              have bg653422' : gB g653422 2 8192 := ⟨by omega, by omega⟩
              clear bz651184 he651188 he651189 hfr651190 jn651191 bz653261 bz653265 bo653271 bo653271' he653280 he653281 hfr653282; try clear r653269; try clear w653270; try clear dc653266; try clear ds653267; try clear hp653268; try clear x653272; try clear r653275
              refine G_aload_n 2 dr_cX14_word_136 rfl ?_
              refine G_lload_n 0 dr_cX14_word_137 rfl ?_
              refine G_l2i dr_cX14_word_138 (G_nam fun z653432 hz653432 => ?_)
              have bz653432 : gB z653432 (-2147483648) 2147483647 := gB_any z653432
              refine Gp_put 5 hmq651162 he653424 dr_cX14_word_139 (gk_X14 D I) (Nat.le_of_ble_eq_true rfl) wr_9_41 rfl rfl rfl (Nat.le_of_ble_eq_true rfl) (fun F653433 e653434 n653435 => ?_)
              have he653436 : F653433 q651163 = .inl (I .byte, 8192, .inl f651177) := (n653435 q651163 (rn_ao he653425 he653424)).trans he653425
              have he653437 : F653433 q651162 = .inr (19, [.ref q651163, .int p651164, .int g653422, .int 6, .int p651167, .int z653432, .int p651169, .ref qo651170, .int p651171, .int p651172, .int p651173, .ref qo651174, .ref qo651175, .int p651176]) := e653434
              have hfr653438 : rFr [q651162] P651160 F651161 F653433 := rFr_put' List.mem_cons_self hfr653426 n653435
              refine G_lload_n 0 dr_cX14_word_142 rfl ?_
              refine G_iload_n 1 dr_cX14_word_143 rfl ?_
              refine G_bipush 118 dr_cX14_word_144 (by decide +kernel) ?_
              refine G_icmp_ne 155 dr_cX14_word_146 (by decide +kernel) (fun hc => absurd (show False by have := gj_neq hc (show Int32.toInt 118 = 118 by decide); omega) not_false) (fun _ => ?_)
              refine G_ldc2 99 dr_cX14_word_149 wr_7_233 ?_
              refine G_goto 158 dr_cX14_word_152 (by decide +kernel) ?_
              refine G_lcmp dr_cX14_word_158 (G_nam fun z653439 hz653439 => ?_)
              have bz653439 : gB z653439 (-1) 1 := gB_cmp hz653439
              refine G_if_gt 177 dr_cX14_word_159 (by decide +kernel) (fun hc653440 => ?_) (fun hc653440 => ?_)
              · have r653441 : 0 < z653439.toInt := gj_ltL hc653440 (show Int32.toInt 0 = 0 by decide)
                have bz653439' : gB z653439 1 1 := ⟨by omega, by omega⟩
                have lhc653440 := gC_cmpS hz653439 (by omega)
                exact G_vretA dr_cX14_word_177 rfl (show 0 ≤ ((16 * (p651164.toInt - p651165.toInt)).toNat) by omega) (show 0 ≤ ((160 * (p651164.toInt - p651165.toInt)).toNat) by omega) ⟨P651160, F653433, g653422, 6, z653432, qo651170, rfl, rfl, (rSub_rf (P := P651160)), hfr653438, he653437, he653436, (by omega), (by omega), (gB_w bg653422' (by decide) (by decide)), (gB_w (gBl (show Int32.toInt 6 = 6 by decide)) (by decide) (by decide)), (by have qa0 : Int32.toInt 6 = 6 := (by decide); omega), (by have qa0 : Int32.toInt 6 = 6 := (by decide); omega), (tP_no (by decide) (by decide)), (vP_no (by decide) (by decide))⟩
              · have r653442 : z653439.toInt ≤ 0 := gj_nltL hc653440 (show Int32.toInt 0 = 0 by decide)
                have bz653439' : gB z653439 (-1) 0 := ⟨by omega, by omega⟩
                refine G_aload_n 2 dr_cX14_word_162 rfl ?_
                refine G_iload_n 1 dr_cX14_word_163 rfl ?_
                refine G_bipush 118 dr_cX14_word_164 (by decide +kernel) ?_
                refine G_icmp_ne 173 dr_cX14_word_166 (by decide +kernel) (fun hc => absurd (show False by have := gj_neq hc (show Int32.toInt 118 = 118 by decide); omega) not_false) (fun _ => ?_)
                refine G_iconst 2 dr_cX14_word_169 (by decide +kernel) ?_
                refine G_goto 174 dr_cX14_word_170 (by decide +kernel) ?_
                refine Gp_put 3 hmq651162 he653437 dr_cX14_word_174 (gk_X14 D I) (Nat.le_of_ble_eq_true rfl) wr_9_39 rfl rfl rfl (Nat.le_of_ble_eq_true rfl) (fun F653443 e653444 n653445 => ?_)
                have he653446 : F653443 q651163 = .inl (I .byte, 8192, .inl f651177) := (n653445 q651163 (rn_ao he653436 he653437)).trans he653436
                have he653447 : F653443 q651162 = .inr (19, [.ref q651163, .int p651164, .int g653422, .int 2, .int p651167, .int z653432, .int p651169, .ref qo651170, .int p651171, .int p651172, .int p651173, .ref qo651174, .ref qo651175, .int p651176]) := e653444
                have hfr653448 : rFr [q651162] P651160 F651161 F653443 := rFr_put' List.mem_cons_self hfr653438 n653445
                exact G_vretA dr_cX14_word_177 rfl (show 0 ≤ ((16 * (p651164.toInt - p651165.toInt)).toNat) by omega) (show 0 ≤ ((160 * (p651164.toInt - p651165.toInt)).toNat) by omega) ⟨P651160, F653443, g653422, 2, z653432, qo651170, rfl, rfl, (rSub_rf (P := P651160)), hfr653448, he653447, he653446, (by omega), (by omega), (gB_w bg653422' (by decide) (by decide)), (gB_w (gBl (show Int32.toInt 2 = 2 by decide)) (by decide) (by decide)), (by have qa0 : Int32.toInt 2 = 2 := (by decide); omega), (by have qa0 : Int32.toInt 2 = 2 := (by decide); omega), (tP_no (by decide) (by decide)), (vP_r (by assumption) (by assumption) (by assumption) (by omega))⟩
            · have r653449 : g653422.toInt < p651164.toInt := gC_nle hc653430
              have bg653422' : gB g653422 0 8191 := ⟨by omega, by omega⟩
              refine G_aload_n 2 dr_cX14_word_81 rfl ?_
              refine Gp_get 0 hmq651162 he653424 dr_cX14_word_82 (gk_X14 D I) (Nat.le_of_ble_eq_true rfl) wr_9_36 rfl ?_
              refine G_aload_n 2 dr_cX14_word_85 rfl ?_
              refine Gp_get 2 hmq651162 he653424 dr_cX14_word_86 (gk_X14 D I) (Nat.le_of_ble_eq_true rfl) wr_9_38 rfl ?_
              refine Gp_bald 1 hmq651163 he653425 dr_cX14_word_89 rfl (gB_in bg653422' (by decide) (by decide)) (G_nam fun z653450 hz653450 => ?_)
              have bz653450 : gB z653450 (-128) 127 := by rw [hz653450]; exact bf651177 _
              refine Gw_callS (As := [.int z653450]) (gV_ok D I) (cp_649621_Reader_isDigit l hl0 D I P651160 F653423 z653450 ) dr_cX14_word_90 ⟨wr_7_219, wr_1_32, wr_7_221, by decide, rfl, (Nat.le_of_ble_eq_true rfl), (Nat.le_of_ble_eq_true rfl)⟩ wr_7_220 (show 0 + 0 ≤ ((16 * (p651164.toInt - p651165.toInt)).toNat) by first | omega | decide) (show 0 + 0 ≤ ((160 * (p651164.toInt - p651165.toInt)).toNat) by first | omega | decide) (Nat.le_of_ble_eq_true rfl) (fun r653454 w653455 dc653451 ds653452 hp653453 => ?_) (fun _ _ _ _ _ z => z.elim)
              obtain ⟨o653456, rfl, rfl, hdc, hds, bo653456, x653457⟩ := hp653453
              change G _ _ _ _ _ _ _ (.int o653456 :: _) _ _ _
              refine G_widen (cs' := 0) (sl' := 0) (by omega) (by omega) ?_
              refine G_if_eq 136 dr_cX14_word_93 (by decide +kernel) (fun hc653458 => ?_) (fun hc653458 => ?_)
              · have r653459 : o653456.toInt = 0 := gj_eq hc653458 (show Int32.toInt 0 = 0 by decide)
                have bo653456' : gB o653456 0 0 := ⟨by omega, by omega⟩
                clear bz651184 he651188 he651189 hfr651190 jn651191 bz653261 bz653265 bo653271 bo653271' he653280 he653281 hfr653282 bo653456 bo653456'; try clear r653269; try clear w653270; try clear dc653266; try clear ds653267; try clear hp653268; try clear x653272; try clear r653275; try clear r653454; try clear w653455; try clear dc653451; try clear ds653452; try clear hp653453; try clear x653457; try clear r653459
                refine G_aload_n 2 dr_cX14_word_136 rfl ?_
                refine G_lload_n 0 dr_cX14_word_137 rfl ?_
                refine G_l2i dr_cX14_word_138 (G_nam fun z653460 hz653460 => ?_)
                have bz653460 : gB z653460 (-2147483648) 2147483647 := gB_any z653460
                refine Gp_put 5 hmq651162 he653424 dr_cX14_word_139 (gk_X14 D I) (Nat.le_of_ble_eq_true rfl) wr_9_41 rfl rfl rfl (Nat.le_of_ble_eq_true rfl) (fun F653461 e653462 n653463 => ?_)
                have he653464 : F653461 q651163 = .inl (I .byte, 8192, .inl f651177) := (n653463 q651163 (rn_ao he653425 he653424)).trans he653425
                have he653465 : F653461 q651162 = .inr (19, [.ref q651163, .int p651164, .int g653422, .int 6, .int p651167, .int z653460, .int p651169, .ref qo651170, .int p651171, .int p651172, .int p651173, .ref qo651174, .ref qo651175, .int p651176]) := e653462
                have hfr653466 : rFr [q651162] P651160 F651161 F653461 := rFr_put' List.mem_cons_self hfr653426 n653463
                refine G_lload_n 0 dr_cX14_word_142 rfl ?_
                refine G_iload_n 1 dr_cX14_word_143 rfl ?_
                refine G_bipush 118 dr_cX14_word_144 (by decide +kernel) ?_
                refine G_icmp_ne 155 dr_cX14_word_146 (by decide +kernel) (fun hc => absurd (show False by have := gj_neq hc (show Int32.toInt 118 = 118 by decide); omega) not_false) (fun _ => ?_)
                refine G_ldc2 99 dr_cX14_word_149 wr_7_233 ?_
                refine G_goto 158 dr_cX14_word_152 (by decide +kernel) ?_
                refine G_lcmp dr_cX14_word_158 (G_nam fun z653467 hz653467 => ?_)
                have bz653467 : gB z653467 (-1) 1 := gB_cmp hz653467
                refine G_if_gt 177 dr_cX14_word_159 (by decide +kernel) (fun hc653468 => ?_) (fun hc653468 => ?_)
                · have r653469 : 0 < z653467.toInt := gj_ltL hc653468 (show Int32.toInt 0 = 0 by decide)
                  have bz653467' : gB z653467 1 1 := ⟨by omega, by omega⟩
                  have lhc653468 := gC_cmpS hz653467 (by omega)
                  exact G_vretA dr_cX14_word_177 rfl (show 0 ≤ ((16 * (p651164.toInt - p651165.toInt)).toNat) by omega) (show 0 ≤ ((160 * (p651164.toInt - p651165.toInt)).toNat) by omega) ⟨P651160, F653461, g653422, 6, z653460, qo651170, rfl, rfl, (rSub_rf (P := P651160)), hfr653466, he653465, he653464, (by omega), (by omega), (gB_w bg653422' (by decide) (by decide)), (gB_w (gBl (show Int32.toInt 6 = 6 by decide)) (by decide) (by decide)), (by have qa0 : Int32.toInt 6 = 6 := (by decide); omega), (by have qa0 : Int32.toInt 6 = 6 := (by decide); omega), (tP_no (by decide) (by decide)), (vP_no (by decide) (by decide))⟩
                · have r653470 : z653467.toInt ≤ 0 := gj_nltL hc653468 (show Int32.toInt 0 = 0 by decide)
                  have bz653467' : gB z653467 (-1) 0 := ⟨by omega, by omega⟩
                  refine G_aload_n 2 dr_cX14_word_162 rfl ?_
                  refine G_iload_n 1 dr_cX14_word_163 rfl ?_
                  refine G_bipush 118 dr_cX14_word_164 (by decide +kernel) ?_
                  refine G_icmp_ne 173 dr_cX14_word_166 (by decide +kernel) (fun hc => absurd (show False by have := gj_neq hc (show Int32.toInt 118 = 118 by decide); omega) not_false) (fun _ => ?_)
                  refine G_iconst 2 dr_cX14_word_169 (by decide +kernel) ?_
                  refine G_goto 174 dr_cX14_word_170 (by decide +kernel) ?_
                  refine Gp_put 3 hmq651162 he653465 dr_cX14_word_174 (gk_X14 D I) (Nat.le_of_ble_eq_true rfl) wr_9_39 rfl rfl rfl (Nat.le_of_ble_eq_true rfl) (fun F653471 e653472 n653473 => ?_)
                  have he653474 : F653471 q651163 = .inl (I .byte, 8192, .inl f651177) := (n653473 q651163 (rn_ao he653464 he653465)).trans he653464
                  have he653475 : F653471 q651162 = .inr (19, [.ref q651163, .int p651164, .int g653422, .int 2, .int p651167, .int z653460, .int p651169, .ref qo651170, .int p651171, .int p651172, .int p651173, .ref qo651174, .ref qo651175, .int p651176]) := e653472
                  have hfr653476 : rFr [q651162] P651160 F651161 F653471 := rFr_put' List.mem_cons_self hfr653466 n653473
                  exact G_vretA dr_cX14_word_177 rfl (show 0 ≤ ((16 * (p651164.toInt - p651165.toInt)).toNat) by omega) (show 0 ≤ ((160 * (p651164.toInt - p651165.toInt)).toNat) by omega) ⟨P651160, F653471, g653422, 2, z653460, qo651170, rfl, rfl, (rSub_rf (P := P651160)), hfr653476, he653475, he653474, (by omega), (by omega), (gB_w bg653422' (by decide) (by decide)), (gB_w (gBl (show Int32.toInt 2 = 2 by decide)) (by decide) (by decide)), (by have qa0 : Int32.toInt 2 = 2 := (by decide); omega), (by have qa0 : Int32.toInt 2 = 2 := (by decide); omega), (tP_no (by decide) (by decide)), (vP_r (by assumption) (by assumption) (by assumption) (by omega))⟩
              · have r653477 : o653456.toInt ≠ 0 := gj_neq hc653458 (show Int32.toInt 0 = 0 by decide)
                have bo653456' : gB o653456 1 1 := ⟨by omega, by omega⟩
                have bi653478 : gB z653450 48 57 := isP_1 x653457 (by omega)
                refine G_lload_n 0 dr_cX14_word_96 rfl ?_
                refine G_ldc2 10 dr_cX14_word_97 wr_7_229 ?_
                refine G_lmul dr_cX14_word_100 (G_namL fun u653479 hu653479 => ?_)
                refine G_aload_n 2 dr_cX14_word_101 rfl ?_
                refine Gp_get 0 hmq651162 he653424 dr_cX14_word_102 (gk_X14 D I) (Nat.le_of_ble_eq_true rfl) wr_9_36 rfl ?_
                refine G_aload_n 2 dr_cX14_word_105 rfl ?_
                refine Gp_get 2 hmq651162 he653424 dr_cX14_word_106 (gk_X14 D I) (Nat.le_of_ble_eq_true rfl) wr_9_38 rfl ?_
                refine Gp_bald 1 hmq651163 he653425 dr_cX14_word_109 rfl (gB_in bg653422' (by decide) (by decide)) (G_eqi (y := z653450) hz653450.symm ?_)
                refine G_i2l dr_cX14_word_110 (G_namL fun u653480 hu653480 => ?_)
                refine G_ladd dr_cX14_word_111 (G_namL fun u653481 hu653481 => ?_)
                refine G_ldc2 48 dr_cX14_word_112 wr_7_230 ?_
                refine G_lsub dr_cX14_word_115 (G_namL fun u653482 hu653482 => ?_)
                refine G_ldc2 1000000 dr_cX14_word_116 wr_7_231 ?_
                refine Gw_callS (As := [.long u653482, .long 1000000]) (gV_ok D I) (cp_649674_Math_min l hl0 D I P651160 F653423 u653482 1000000 ) dr_cX14_word_119 ⟨wr_7_232, wr_1_6, wr_3_40, by decide, rfl, (Nat.le_of_ble_eq_true rfl), (Nat.le_of_ble_eq_true rfl)⟩ wr_3_39 (show 0 + 0 ≤ ((16 * (p651164.toInt - p651165.toInt)).toNat) by first | omega | decide) (show 0 + 0 ≤ ((160 * (p651164.toInt - p651165.toInt)).toNat) by first | omega | decide) (Nat.le_of_ble_eq_true rfl) (fun r653486 w653487 dc653483 ds653484 hp653485 => ?_) (fun _ _ _ _ _ z => z.elim)
                obtain ⟨ol653488, rfl, rfl, hdc, hds, x653489⟩ := hp653485
                change G _ _ _ _ _ _ _ (.long ol653488 :: _) _ _ _
                refine G_widen (cs' := 0) (sl' := 0) (by omega) (by omega) ?_
                refine G_lstore_n (L' := [(2, .long ol653488), (1, .int z651184), (0, .ref q651162)]) dr_cX14_word_122 (Nat.le_of_ble_eq_true rfl) rfl ?_
                refine G_aload_n 2 dr_cX14_word_123 rfl ?_
                refine G_dup dr_cX14_word_124 rfl ?_
                refine Gp_get 2 hmq651162 he653424 dr_cX14_word_125 (gk_X14 D I) (Nat.le_of_ble_eq_true rfl) wr_9_38 rfl ?_
                refine G_iconst 1 dr_cX14_word_128 (by decide +kernel) ?_
                refine G_iadd dr_cX14_word_129 (G_nam fun z653490 hz653490 => ?_)
                have ez653490 : z653490.toInt = g653422.toInt + 1 := by rw [gI_add hz653490 bg653422' (gBl (show Int32.toInt 1 = 1 by decide)) (by decide) (by decide), show Int32.toInt 1 = 1 from by decide]
                have bz653490 : gB z653490 1 8192 := gB_add (gI_add hz653490 bg653422' (gBl (show Int32.toInt 1 = 1 by decide)) (by decide) (by decide)) bg653422' (gBl (show Int32.toInt 1 = 1 by decide)) (by decide) (by decide)
                refine Gp_put 2 hmq651162 he653424 dr_cX14_word_130 (gk_X14 D I) (Nat.le_of_ble_eq_true rfl) wr_9_38 rfl rfl rfl (Nat.le_of_ble_eq_true rfl) (fun F653491 e653492 n653493 => ?_)
                have he653494 : F653491 q651163 = .inl (I .byte, 8192, .inl f651177) := (n653493 q651163 (rn_ao he653425 he653424)).trans he653425
                have he653495 : F653491 q651162 = .inr (19, [.ref q651163, .int p651164, .int z653490, .int 6, .int p651167, .int p651168, .int p651169, .ref qo651170, .int p651171, .int p651172, .int p651173, .ref qo651174, .ref qo651175, .int p651176]) := e653492
                have hfr653496 : rFr [q651162] P651160 F651161 F653491 := rFr_put' List.mem_cons_self hfr653426 n653493
                refine G_goto 70 dr_cX14_word_133 (by decide +kernel) ?_
                exact ih70_653429 F653491 ol653488 z653490 (gB_w bz653490 (by decide) (by decide)) hfr653496 he653495 he653494 (lgSt (by assumption) (by assumption) (by assumption) (by assumption) (by assumption) (by assumption) (by omega) (by omega)) (by have qa0 : Int32.toInt 6 = 6 := (by decide); omega) (by have qa0 : Int32.toInt 6 = 6 := (by decide); omega) (by have qa0 : Int32.toInt 6 = 6 := (by decide); omega)
        exact hlp70_653429 (((8193 : Int) - z653261.toInt).toNat + 1) F653277 0 z653261 (gB_w bz653261' (by decide) (by decide)) hfr653282 he653281 he653280 LG_0 (by have qa0 : Int32.toInt 6 = 6 := (by decide); omega) (by have qa0 : Int32.toInt 6 = 6 := (by decide); omega) (Nat.lt_succ_self _)
  · have r653497 : z651184.toInt ≠ 118 := gj_neq hc653259 (show Int32.toInt 118 = 118 by decide)
    refine G_iload_n 0 dr_cX14_word_22 rfl ?_
    refine G_bipush 98 dr_cX14_word_23 (by decide +kernel) ?_
    refine G_icmp_ne 178 dr_cX14_word_25 (by decide +kernel) (fun hc653498 => ?_) (fun hc653498 => ?_)
    · have r653499 : z651184.toInt ≠ 98 := gj_neq hc653498 (show Int32.toInt 98 = 98 by decide)
      refine G_lv (L' := [(1, .int z651184), (0, .ref q651162)]) [0, 1] rfl ?_
      exact jn651191
    · have r653500 : z651184.toInt = 98 := gj_eq hc653498 (show Int32.toInt 98 = 98 by decide)
      have bz651184' : gB z651184 98 98 := ⟨by omega, by omega⟩
      refine G_aload_n 1 dr_cX14_word_28 rfl ?_
      refine Gp_get 2 hmq651162 he651189 dr_cX14_word_29 (gk_X14 D I) (Nat.le_of_ble_eq_true rfl) wr_9_38 rfl ?_
      refine G_iconst 1 dr_cX14_word_32 (by decide +kernel) ?_
      refine G_iadd dr_cX14_word_33 (G_nam fun z653501 hz653501 => ?_)
      have ez653501 : z653501.toInt = p651165.toInt + 1 := by rw [gI_add hz653501 bp651165 (gBl (show Int32.toInt 1 = 1 by decide)) (by decide) (by decide), show Int32.toInt 1 = 1 from by decide]
      have bz653501 : gB z653501 1 8193 := gB_add (gI_add hz653501 bp651165 (gBl (show Int32.toInt 1 = 1 by decide)) (by decide) (by decide)) bp651165 (gBl (show Int32.toInt 1 = 1 by decide)) (by decide) (by decide)
      refine G_aload_n 1 dr_cX14_word_34 rfl ?_
      refine Gp_get 1 hmq651162 he651189 dr_cX14_word_35 (gk_X14 D I) (Nat.le_of_ble_eq_true rfl) wr_9_37 rfl ?_
      refine G_icmp_ge 178 dr_cX14_word_38 (by decide +kernel) (fun hc653502 => ?_) (fun hc653502 => ?_)
      · have r653503 : p651164.toInt ≤ z653501.toInt := gC_le hc653502
        refine G_lv (L' := [(1, .int z651184), (0, .ref q651162)]) [0, 1] rfl ?_
        exact jn651191
      · have r653504 : z653501.toInt < p651164.toInt := gC_nle hc653502
        have bz653501' : gB z653501 1 8191 := ⟨by omega, by omega⟩
        have bp651164' : gB p651164 2 8192 := ⟨by omega, by omega⟩
        refine G_aload_n 1 dr_cX14_word_41 rfl ?_
        refine Gp_get 0 hmq651162 he651189 dr_cX14_word_42 (gk_X14 D I) (Nat.le_of_ble_eq_true rfl) wr_9_36 rfl ?_
        refine G_aload_n 1 dr_cX14_word_45 rfl ?_
        refine Gp_get 2 hmq651162 he651189 dr_cX14_word_46 (gk_X14 D I) (Nat.le_of_ble_eq_true rfl) wr_9_38 rfl ?_
        refine G_iconst 1 dr_cX14_word_49 (by decide +kernel) ?_
        refine G_iadd dr_cX14_word_50 (G_eqi (y := z653501) hz653501.symm ?_)
        refine Gp_bald 1 hmq651163 he651188 dr_cX14_word_51 rfl (gB_in bz653501' (by decide) (by decide)) (G_nam fun z653505 hz653505 => ?_)
        have bz653505 : gB z653505 (-128) 127 := by rw [hz653505]; exact bf651177 _
        refine Gw_callS (As := [.int z653505]) (gV_ok D I) (cp_649621_Reader_isDigit l hl0 D I P651160 F651185 z653505 ) dr_cX14_word_52 ⟨wr_7_219, wr_1_32, wr_7_221, by decide, rfl, (Nat.le_of_ble_eq_true rfl), (Nat.le_of_ble_eq_true rfl)⟩ wr_7_220 (show 0 + 0 ≤ ((16 * (p651164.toInt - p651165.toInt)).toNat) by first | omega | decide) (show 0 + 0 ≤ ((160 * (p651164.toInt - p651165.toInt)).toNat) by first | omega | decide) (Nat.le_of_ble_eq_true rfl) (fun r653509 w653510 dc653506 ds653507 hp653508 => ?_) (fun _ _ _ _ _ z => z.elim)
        obtain ⟨o653511, rfl, rfl, hdc, hds, bo653511, x653512⟩ := hp653508
        change G _ _ _ _ _ _ _ (.int o653511 :: _) _ _ _
        refine G_widen (cs' := 0) (sl' := 0) (by omega) (by omega) ?_
        refine G_if_eq 178 dr_cX14_word_55 (by decide +kernel) (fun hc653513 => ?_) (fun hc653513 => ?_)
        · have r653514 : o653511.toInt = 0 := gj_eq hc653513 (show Int32.toInt 0 = 0 by decide)
          have bo653511' : gB o653511 0 0 := ⟨by omega, by omega⟩
          refine G_lv (L' := [(1, .int z651184), (0, .ref q651162)]) [0, 1] rfl ?_
          exact jn651191
        · have r653515 : o653511.toInt ≠ 0 := gj_neq hc653513 (show Int32.toInt 0 = 0 by decide)
          have bo653511' : gB o653511 1 1 := ⟨by omega, by omega⟩
          have bi653516 : gB z653505 48 57 := isP_1 x653512 (by omega)
          refine G_lconst 0 dr_cX14_word_58 rfl ?_
          refine G_lstore_n (L' := [(2, .long 0), (1, .int z651184), (0, .ref q651162)]) dr_cX14_word_59 (Nat.le_of_ble_eq_true rfl) rfl ?_
          refine G_aload_n 2 dr_cX14_word_60 rfl ?_
          refine G_dup dr_cX14_word_61 rfl ?_
          refine Gp_get 2 hmq651162 he651189 dr_cX14_word_62 (gk_X14 D I) (Nat.le_of_ble_eq_true rfl) wr_9_38 rfl ?_
          refine G_iconst 1 dr_cX14_word_65 (by decide +kernel) ?_
          refine G_iadd dr_cX14_word_66 (G_eqi (y := z653501) hz653501.symm ?_)
          refine Gp_put 2 hmq651162 he651189 dr_cX14_word_67 (gk_X14 D I) (Nat.le_of_ble_eq_true rfl) wr_9_38 rfl rfl rfl (Nat.le_of_ble_eq_true rfl) (fun F653517 e653518 n653519 => ?_)
          have he653520 : F653517 q651163 = .inl (I .byte, 8192, .inl f651177) := (n653519 q651163 (rn_ao he651188 he651189)).trans he651188
          have he653521 : F653517 q651162 = .inr (19, [.ref q651163, .int p651164, .int z653501, .int 6, .int p651167, .int p651168, .int p651169, .ref qo651170, .int p651171, .int p651172, .int p651173, .ref qo651174, .ref qo651175, .int p651176]) := e653518
          have hfr653522 : rFr [q651162] P651160 F651161 F653517 := rFr_put' List.mem_cons_self hfr651190 n653519
          have hlp70_653669 : ∀ (n70_653669 : Nat) (F653663 : Nat → va_E) (gl653661 : Int64) (g653662 : Int32), gB g653662 0 8192 → rFr [q651162] P651160 F651161 F653663 → F653663 q651162 = .inr (19, [.ref q651163, .int p651164, .int g653662, .int 6, .int p651167, .int p651168, .int p651169, .ref qo651170, .int p651171, .int p651172, .int p651173, .ref qo651174, .ref qo651175, .int p651176]) → F653663 q651163 = .inl (I .byte, 8192, .inl f651177) → LG gl653661 0 1000000 → p651165.toInt < g653662.toInt → g653662.toInt ≤ p651164.toInt → ((8193 : Int) - g653662.toInt).toNat < n70_653669 → G (gV D I) l (gRm 6 132 ((16 * (p651164.toInt - p651165.toInt)).toNat) ((160 * (p651164.toInt - p651165.toInt)).toNat)) (gMA (gV D I) (pp_651183_Reader_word D I P651160 F651161 q651162 q651163 p651164 p651165 p651166 p651167 p651168 p651169 qo651170 p651171 p651172 p651173 qo651174 qo651175 p651176 f651177) gNA ((16 * (p651164.toInt - p651165.toInt)).toNat) ((160 * (p651164.toInt - p651165.toInt)).toNat)) ky_651183_Reader_word 70 [(2, .long gl653661), (1, .int z651184), (0, .ref q651162)] [] (va_pl P651160 F653663) 0 0 := by
            intro n70_653669
            induction n70_653669 with
            | zero => intro F653663 gl653661 g653662 bg653662 hfr653666 he653664 he653665 x653667 x653668 x653669 hm70_653669; exact absurd hm70_653669 (Nat.not_lt_zero _)
            | succ n70_653669 ih70_653669 =>
              intro F653663 gl653661 g653662 bg653662 hfr653666 he653664 he653665 x653667 x653668 x653669 hm70_653669
              refine G_aload_n 2 dr_cX14_word_70 rfl ?_
              refine Gp_get 2 hmq651162 he653664 dr_cX14_word_71 (gk_X14 D I) (Nat.le_of_ble_eq_true rfl) wr_9_38 rfl ?_
              refine G_aload_n 2 dr_cX14_word_74 rfl ?_
              refine Gp_get 1 hmq651162 he653664 dr_cX14_word_75 (gk_X14 D I) (Nat.le_of_ble_eq_true rfl) wr_9_37 rfl ?_
              refine G_icmp_ge 136 dr_cX14_word_78 (by decide +kernel) (fun hc653670 => ?_) (fun hc653670 => ?_)
              · have r653671 : p651164.toInt ≤ g653662.toInt := gC_le hc653670
                have bg653662' : gB g653662 2 8192 := ⟨by omega, by omega⟩
                clear bz651184 he651188 he651189 hfr651190 jn651191 bz653501 bz653505 bo653511 bo653511' he653520 he653521 hfr653522; try clear r653509; try clear w653510; try clear dc653506; try clear ds653507; try clear hp653508; try clear x653512; try clear r653515
                refine G_aload_n 2 dr_cX14_word_136 rfl ?_
                refine G_lload_n 0 dr_cX14_word_137 rfl ?_
                refine G_l2i dr_cX14_word_138 (G_nam fun z653672 hz653672 => ?_)
                have bz653672 : gB z653672 (-2147483648) 2147483647 := gB_any z653672
                refine Gp_put 5 hmq651162 he653664 dr_cX14_word_139 (gk_X14 D I) (Nat.le_of_ble_eq_true rfl) wr_9_41 rfl rfl rfl (Nat.le_of_ble_eq_true rfl) (fun F653673 e653674 n653675 => ?_)
                have he653676 : F653673 q651163 = .inl (I .byte, 8192, .inl f651177) := (n653675 q651163 (rn_ao he653665 he653664)).trans he653665
                have he653677 : F653673 q651162 = .inr (19, [.ref q651163, .int p651164, .int g653662, .int 6, .int p651167, .int z653672, .int p651169, .ref qo651170, .int p651171, .int p651172, .int p651173, .ref qo651174, .ref qo651175, .int p651176]) := e653674
                have hfr653678 : rFr [q651162] P651160 F651161 F653673 := rFr_put' List.mem_cons_self hfr653666 n653675
                refine G_lload_n 0 dr_cX14_word_142 rfl ?_
                refine G_iload_n 1 dr_cX14_word_143 rfl ?_
                refine G_bipush 118 dr_cX14_word_144 (by decide +kernel) ?_
                refine G_icmp_ne 155 dr_cX14_word_146 (by decide +kernel) (fun _ => ?_) (fun hc => absurd (show False by have := gj_eq hc (show Int32.toInt 118 = 118 by decide); omega) not_false)
                refine G_ldc2 39 dr_cX14_word_155 wr_7_234 ?_
                refine G_lcmp dr_cX14_word_158 (G_nam fun z653679 hz653679 => ?_)
                have bz653679 : gB z653679 (-1) 1 := gB_cmp hz653679
                refine G_if_gt 177 dr_cX14_word_159 (by decide +kernel) (fun hc653680 => ?_) (fun hc653680 => ?_)
                · have r653681 : 0 < z653679.toInt := gj_ltL hc653680 (show Int32.toInt 0 = 0 by decide)
                  have bz653679' : gB z653679 1 1 := ⟨by omega, by omega⟩
                  have lhc653680 := gC_cmpS hz653679 (by omega)
                  exact G_vretA dr_cX14_word_177 rfl (show 0 ≤ ((16 * (p651164.toInt - p651165.toInt)).toNat) by omega) (show 0 ≤ ((160 * (p651164.toInt - p651165.toInt)).toNat) by omega) ⟨P651160, F653673, g653662, 6, z653672, qo651170, rfl, rfl, (rSub_rf (P := P651160)), hfr653678, he653677, he653676, (by omega), (by omega), (gB_w bg653662' (by decide) (by decide)), (gB_w (gBl (show Int32.toInt 6 = 6 by decide)) (by decide) (by decide)), (by have qa0 : Int32.toInt 6 = 6 := (by decide); omega), (by have qa0 : Int32.toInt 6 = 6 := (by decide); omega), (tP_no (by decide) (by decide)), (vP_no (by decide) (by decide))⟩
                · have r653682 : z653679.toInt ≤ 0 := gj_nltL hc653680 (show Int32.toInt 0 = 0 by decide)
                  have bz653679' : gB z653679 (-1) 0 := ⟨by omega, by omega⟩
                  refine G_aload_n 2 dr_cX14_word_162 rfl ?_
                  refine G_iload_n 1 dr_cX14_word_163 rfl ?_
                  refine G_bipush 118 dr_cX14_word_164 (by decide +kernel) ?_
                  refine G_icmp_ne 173 dr_cX14_word_166 (by decide +kernel) (fun _ => ?_) (fun hc => absurd (show False by have := gj_eq hc (show Int32.toInt 118 = 118 by decide); omega) not_false)
                  refine G_iconst 3 dr_cX14_word_173 (by decide +kernel) ?_
                  refine Gp_put 3 hmq651162 he653677 dr_cX14_word_174 (gk_X14 D I) (Nat.le_of_ble_eq_true rfl) wr_9_39 rfl rfl rfl (Nat.le_of_ble_eq_true rfl) (fun F653683 e653684 n653685 => ?_)
                  have he653686 : F653683 q651163 = .inl (I .byte, 8192, .inl f651177) := (n653685 q651163 (rn_ao he653676 he653677)).trans he653676
                  have he653687 : F653683 q651162 = .inr (19, [.ref q651163, .int p651164, .int g653662, .int 3, .int p651167, .int z653672, .int p651169, .ref qo651170, .int p651171, .int p651172, .int p651173, .ref qo651174, .ref qo651175, .int p651176]) := e653684
                  have hfr653688 : rFr [q651162] P651160 F651161 F653683 := rFr_put' List.mem_cons_self hfr653678 n653685
                  exact G_vretA dr_cX14_word_177 rfl (show 0 ≤ ((16 * (p651164.toInt - p651165.toInt)).toNat) by omega) (show 0 ≤ ((160 * (p651164.toInt - p651165.toInt)).toNat) by omega) ⟨P651160, F653683, g653662, 3, z653672, qo651170, rfl, rfl, (rSub_rf (P := P651160)), hfr653688, he653687, he653686, (by omega), (by omega), (gB_w bg653662' (by decide) (by decide)), (gB_w (gBl (show Int32.toInt 3 = 3 by decide)) (by decide) (by decide)), (by have qa0 : Int32.toInt 3 = 3 := (by decide); omega), (by have qa0 : Int32.toInt 3 = 3 := (by decide); omega), (tP_no (by decide) (by decide)), (vP_b (by assumption) (by assumption) (by assumption) (by omega))⟩
              · have r653689 : g653662.toInt < p651164.toInt := gC_nle hc653670
                have bg653662' : gB g653662 0 8191 := ⟨by omega, by omega⟩
                refine G_aload_n 2 dr_cX14_word_81 rfl ?_
                refine Gp_get 0 hmq651162 he653664 dr_cX14_word_82 (gk_X14 D I) (Nat.le_of_ble_eq_true rfl) wr_9_36 rfl ?_
                refine G_aload_n 2 dr_cX14_word_85 rfl ?_
                refine Gp_get 2 hmq651162 he653664 dr_cX14_word_86 (gk_X14 D I) (Nat.le_of_ble_eq_true rfl) wr_9_38 rfl ?_
                refine Gp_bald 1 hmq651163 he653665 dr_cX14_word_89 rfl (gB_in bg653662' (by decide) (by decide)) (G_nam fun z653690 hz653690 => ?_)
                have bz653690 : gB z653690 (-128) 127 := by rw [hz653690]; exact bf651177 _
                refine Gw_callS (As := [.int z653690]) (gV_ok D I) (cp_649621_Reader_isDigit l hl0 D I P651160 F653663 z653690 ) dr_cX14_word_90 ⟨wr_7_219, wr_1_32, wr_7_221, by decide, rfl, (Nat.le_of_ble_eq_true rfl), (Nat.le_of_ble_eq_true rfl)⟩ wr_7_220 (show 0 + 0 ≤ ((16 * (p651164.toInt - p651165.toInt)).toNat) by first | omega | decide) (show 0 + 0 ≤ ((160 * (p651164.toInt - p651165.toInt)).toNat) by first | omega | decide) (Nat.le_of_ble_eq_true rfl) (fun r653694 w653695 dc653691 ds653692 hp653693 => ?_) (fun _ _ _ _ _ z => z.elim)
                obtain ⟨o653696, rfl, rfl, hdc, hds, bo653696, x653697⟩ := hp653693
                change G _ _ _ _ _ _ _ (.int o653696 :: _) _ _ _
                refine G_widen (cs' := 0) (sl' := 0) (by omega) (by omega) ?_
                refine G_if_eq 136 dr_cX14_word_93 (by decide +kernel) (fun hc653698 => ?_) (fun hc653698 => ?_)
                · have r653699 : o653696.toInt = 0 := gj_eq hc653698 (show Int32.toInt 0 = 0 by decide)
                  have bo653696' : gB o653696 0 0 := ⟨by omega, by omega⟩
                  clear bz651184 he651188 he651189 hfr651190 jn651191 bz653501 bz653505 bo653511 bo653511' he653520 he653521 hfr653522 bo653696 bo653696'; try clear r653509; try clear w653510; try clear dc653506; try clear ds653507; try clear hp653508; try clear x653512; try clear r653515; try clear r653694; try clear w653695; try clear dc653691; try clear ds653692; try clear hp653693; try clear x653697; try clear r653699
                  refine G_aload_n 2 dr_cX14_word_136 rfl ?_
                  refine G_lload_n 0 dr_cX14_word_137 rfl ?_
                  refine G_l2i dr_cX14_word_138 (G_nam fun z653700 hz653700 => ?_)
                  have bz653700 : gB z653700 (-2147483648) 2147483647 := gB_any z653700
                  refine Gp_put 5 hmq651162 he653664 dr_cX14_word_139 (gk_X14 D I) (Nat.le_of_ble_eq_true rfl) wr_9_41 rfl rfl rfl (Nat.le_of_ble_eq_true rfl) (fun F653701 e653702 n653703 => ?_)
                  have he653704 : F653701 q651163 = .inl (I .byte, 8192, .inl f651177) := (n653703 q651163 (rn_ao he653665 he653664)).trans he653665
                  have he653705 : F653701 q651162 = .inr (19, [.ref q651163, .int p651164, .int g653662, .int 6, .int p651167, .int z653700, .int p651169, .ref qo651170, .int p651171, .int p651172, .int p651173, .ref qo651174, .ref qo651175, .int p651176]) := e653702
                  have hfr653706 : rFr [q651162] P651160 F651161 F653701 := rFr_put' List.mem_cons_self hfr653666 n653703
                  refine G_lload_n 0 dr_cX14_word_142 rfl ?_
                  refine G_iload_n 1 dr_cX14_word_143 rfl ?_
                  refine G_bipush 118 dr_cX14_word_144 (by decide +kernel) ?_
                  refine G_icmp_ne 155 dr_cX14_word_146 (by decide +kernel) (fun _ => ?_) (fun hc => absurd (show False by have := gj_eq hc (show Int32.toInt 118 = 118 by decide); omega) not_false)
                  refine G_ldc2 39 dr_cX14_word_155 wr_7_234 ?_
                  refine G_lcmp dr_cX14_word_158 (G_nam fun z653707 hz653707 => ?_)
                  have bz653707 : gB z653707 (-1) 1 := gB_cmp hz653707
                  refine G_if_gt 177 dr_cX14_word_159 (by decide +kernel) (fun hc653708 => ?_) (fun hc653708 => ?_)
                  · have r653709 : 0 < z653707.toInt := gj_ltL hc653708 (show Int32.toInt 0 = 0 by decide)
                    have bz653707' : gB z653707 1 1 := ⟨by omega, by omega⟩
                    have lhc653708 := gC_cmpS hz653707 (by omega)
                    exact G_vretA dr_cX14_word_177 rfl (show 0 ≤ ((16 * (p651164.toInt - p651165.toInt)).toNat) by omega) (show 0 ≤ ((160 * (p651164.toInt - p651165.toInt)).toNat) by omega) ⟨P651160, F653701, g653662, 6, z653700, qo651170, rfl, rfl, (rSub_rf (P := P651160)), hfr653706, he653705, he653704, (by omega), (by omega), (gB_w bg653662' (by decide) (by decide)), (gB_w (gBl (show Int32.toInt 6 = 6 by decide)) (by decide) (by decide)), (by have qa0 : Int32.toInt 6 = 6 := (by decide); omega), (by have qa0 : Int32.toInt 6 = 6 := (by decide); omega), (tP_no (by decide) (by decide)), (vP_no (by decide) (by decide))⟩
                  · have r653710 : z653707.toInt ≤ 0 := gj_nltL hc653708 (show Int32.toInt 0 = 0 by decide)
                    have bz653707' : gB z653707 (-1) 0 := ⟨by omega, by omega⟩
                    refine G_aload_n 2 dr_cX14_word_162 rfl ?_
                    refine G_iload_n 1 dr_cX14_word_163 rfl ?_
                    refine G_bipush 118 dr_cX14_word_164 (by decide +kernel) ?_
                    refine G_icmp_ne 173 dr_cX14_word_166 (by decide +kernel) (fun _ => ?_) (fun hc => absurd (show False by have := gj_eq hc (show Int32.toInt 118 = 118 by decide); omega) not_false)
                    refine G_iconst 3 dr_cX14_word_173 (by decide +kernel) ?_
                    refine Gp_put 3 hmq651162 he653705 dr_cX14_word_174 (gk_X14 D I) (Nat.le_of_ble_eq_true rfl) wr_9_39 rfl rfl rfl (Nat.le_of_ble_eq_true rfl) (fun F653711 e653712 n653713 => ?_)
                    have he653714 : F653711 q651163 = .inl (I .byte, 8192, .inl f651177) := (n653713 q651163 (rn_ao he653704 he653705)).trans he653704
                    have he653715 : F653711 q651162 = .inr (19, [.ref q651163, .int p651164, .int g653662, .int 3, .int p651167, .int z653700, .int p651169, .ref qo651170, .int p651171, .int p651172, .int p651173, .ref qo651174, .ref qo651175, .int p651176]) := e653712
                    have hfr653716 : rFr [q651162] P651160 F651161 F653711 := rFr_put' List.mem_cons_self hfr653706 n653713
                    exact G_vretA dr_cX14_word_177 rfl (show 0 ≤ ((16 * (p651164.toInt - p651165.toInt)).toNat) by omega) (show 0 ≤ ((160 * (p651164.toInt - p651165.toInt)).toNat) by omega) ⟨P651160, F653711, g653662, 3, z653700, qo651170, rfl, rfl, (rSub_rf (P := P651160)), hfr653716, he653715, he653714, (by omega), (by omega), (gB_w bg653662' (by decide) (by decide)), (gB_w (gBl (show Int32.toInt 3 = 3 by decide)) (by decide) (by decide)), (by have qa0 : Int32.toInt 3 = 3 := (by decide); omega), (by have qa0 : Int32.toInt 3 = 3 := (by decide); omega), (tP_no (by decide) (by decide)), (vP_b (by assumption) (by assumption) (by assumption) (by omega))⟩
                · have r653717 : o653696.toInt ≠ 0 := gj_neq hc653698 (show Int32.toInt 0 = 0 by decide)
                  have bo653696' : gB o653696 1 1 := ⟨by omega, by omega⟩
                  have bi653718 : gB z653690 48 57 := isP_1 x653697 (by omega)
                  refine G_lload_n 0 dr_cX14_word_96 rfl ?_
                  refine G_ldc2 10 dr_cX14_word_97 wr_7_229 ?_
                  refine G_lmul dr_cX14_word_100 (G_namL fun u653719 hu653719 => ?_)
                  refine G_aload_n 2 dr_cX14_word_101 rfl ?_
                  refine Gp_get 0 hmq651162 he653664 dr_cX14_word_102 (gk_X14 D I) (Nat.le_of_ble_eq_true rfl) wr_9_36 rfl ?_
                  refine G_aload_n 2 dr_cX14_word_105 rfl ?_
                  refine Gp_get 2 hmq651162 he653664 dr_cX14_word_106 (gk_X14 D I) (Nat.le_of_ble_eq_true rfl) wr_9_38 rfl ?_
                  refine Gp_bald 1 hmq651163 he653665 dr_cX14_word_109 rfl (gB_in bg653662' (by decide) (by decide)) (G_eqi (y := z653690) hz653690.symm ?_)
                  refine G_i2l dr_cX14_word_110 (G_namL fun u653720 hu653720 => ?_)
                  refine G_ladd dr_cX14_word_111 (G_namL fun u653721 hu653721 => ?_)
                  refine G_ldc2 48 dr_cX14_word_112 wr_7_230 ?_
                  refine G_lsub dr_cX14_word_115 (G_namL fun u653722 hu653722 => ?_)
                  refine G_ldc2 1000000 dr_cX14_word_116 wr_7_231 ?_
                  refine Gw_callS (As := [.long u653722, .long 1000000]) (gV_ok D I) (cp_649674_Math_min l hl0 D I P651160 F653663 u653722 1000000 ) dr_cX14_word_119 ⟨wr_7_232, wr_1_6, wr_3_40, by decide, rfl, (Nat.le_of_ble_eq_true rfl), (Nat.le_of_ble_eq_true rfl)⟩ wr_3_39 (show 0 + 0 ≤ ((16 * (p651164.toInt - p651165.toInt)).toNat) by first | omega | decide) (show 0 + 0 ≤ ((160 * (p651164.toInt - p651165.toInt)).toNat) by first | omega | decide) (Nat.le_of_ble_eq_true rfl) (fun r653726 w653727 dc653723 ds653724 hp653725 => ?_) (fun _ _ _ _ _ z => z.elim)
                  obtain ⟨ol653728, rfl, rfl, hdc, hds, x653729⟩ := hp653725
                  change G _ _ _ _ _ _ _ (.long ol653728 :: _) _ _ _
                  refine G_widen (cs' := 0) (sl' := 0) (by omega) (by omega) ?_
                  refine G_lstore_n (L' := [(2, .long ol653728), (1, .int z651184), (0, .ref q651162)]) dr_cX14_word_122 (Nat.le_of_ble_eq_true rfl) rfl ?_
                  refine G_aload_n 2 dr_cX14_word_123 rfl ?_
                  refine G_dup dr_cX14_word_124 rfl ?_
                  refine Gp_get 2 hmq651162 he653664 dr_cX14_word_125 (gk_X14 D I) (Nat.le_of_ble_eq_true rfl) wr_9_38 rfl ?_
                  refine G_iconst 1 dr_cX14_word_128 (by decide +kernel) ?_
                  refine G_iadd dr_cX14_word_129 (G_nam fun z653730 hz653730 => ?_)
                  have ez653730 : z653730.toInt = g653662.toInt + 1 := by rw [gI_add hz653730 bg653662' (gBl (show Int32.toInt 1 = 1 by decide)) (by decide) (by decide), show Int32.toInt 1 = 1 from by decide]
                  have bz653730 : gB z653730 1 8192 := gB_add (gI_add hz653730 bg653662' (gBl (show Int32.toInt 1 = 1 by decide)) (by decide) (by decide)) bg653662' (gBl (show Int32.toInt 1 = 1 by decide)) (by decide) (by decide)
                  refine Gp_put 2 hmq651162 he653664 dr_cX14_word_130 (gk_X14 D I) (Nat.le_of_ble_eq_true rfl) wr_9_38 rfl rfl rfl (Nat.le_of_ble_eq_true rfl) (fun F653731 e653732 n653733 => ?_)
                  have he653734 : F653731 q651163 = .inl (I .byte, 8192, .inl f651177) := (n653733 q651163 (rn_ao he653665 he653664)).trans he653665
                  have he653735 : F653731 q651162 = .inr (19, [.ref q651163, .int p651164, .int z653730, .int 6, .int p651167, .int p651168, .int p651169, .ref qo651170, .int p651171, .int p651172, .int p651173, .ref qo651174, .ref qo651175, .int p651176]) := e653732
                  have hfr653736 : rFr [q651162] P651160 F651161 F653731 := rFr_put' List.mem_cons_self hfr653666 n653733
                  refine G_goto 70 dr_cX14_word_133 (by decide +kernel) ?_
                  exact ih70_653669 F653731 ol653728 z653730 (gB_w bz653730 (by decide) (by decide)) hfr653736 he653735 he653734 (lgSt (by assumption) (by assumption) (by assumption) (by assumption) (by assumption) (by assumption) (by omega) (by omega)) (by have qa0 : Int32.toInt 6 = 6 := (by decide); omega) (by have qa0 : Int32.toInt 6 = 6 := (by decide); omega) (by have qa0 : Int32.toInt 6 = 6 := (by decide); omega)
          exact hlp70_653669 (((8193 : Int) - z653501.toInt).toNat + 1) F653517 0 z653501 (gB_w bz653501' (by decide) (by decide)) hfr653522 he653521 he653520 LG_0 (by have qa0 : Int32.toInt 6 = 6 := (by decide); omega) (by have qa0 : Int32.toInt 6 = 6 := (by decide); omega) (Nat.lt_succ_self _)
